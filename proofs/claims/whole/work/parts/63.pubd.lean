/-! the reference's public calls: years, part, image, from, status -/
section PD
variable {d : Nat} {h : Hp} {Q : Pst} {S : St} {g hh nn mn : Nat}
/-- what comes next by chance -/
def rnd (x : Int64) : Int64 := (x * 1103515245 + 12345) - (x * 1103515245 + 12345) / 2147483648 * 2147483648
def rndI (x : Int64) : Int32 := (x / 65536 - x / 65536 / 6 * 6).toInt32
def rndJ (x : Int64) : Int32 := (x / 1048576 - x / 1048576 / 4 * 4).toInt32
def yrP (g hh : Nat) (x : Int64) (R : Nat → Int32) : Nat → Int32 :=
  if rg (rndI x) 0 (g - 1 : Int) = true then upd R (624 + (rndI x).toNatClampNeg) (if rg (rndJ x) 0 (hh - 1 : Int) = true then rndJ x else -1) else R
def yrF (g hh : Nat) (_ : Nat) (s : Int64 × (Nat → Int32)) : Int64 × (Nat → Int32) := (rnd s.1, psR (yrP g hh (rnd s.1) s.2) g hh 624)
def yrV (g hh n : Nat) (seed : Int32) (R : Nat → Int32) : Nat → Int32 := (itr (yrF g hh) n 0 (seed.toInt64, cpR R 0 624 12)).2
def sp_years (g hh : Nat) (S : St) (seed n : Int32) : Int32 × St :=
  if rg seed 0 999999 = true ∧ rg n 0 60 = true then
    (alk (yrV g hh n.toNatClampNeg seed (sR S)) 624, stR S (yrV g hh n.toNatClampNeg seed (sR S)))
  else (-2, refu S 0)
theorem M_years {sd n : Int32} (m : ModelAt h S) (hg : sR S 12 = nI g) (h6 : g ≤ 6) (hh0 : sR S 25 = nI hh) (h4 : hh ≤ 4) (k : ∀ h2, ModelAt h2 (sp_years g hh S sd n).2 → frM h h2 → Q (some (.int (sp_years g hh S sd n).1)) h2) : T (d + 6) 203 0 [.ref 58, .int sd, .int n, un, un, un, un, un] [] h Q := by
  refine T_eq m.self ?_
  have mm := m.again
  have ho := m.mo.o (R := sR S)
  obtain ⟨ab, be, ln, pa, pb, r5, r6, dg, e1⟩ := id m.mo
  unfold sp_years at k
  by_cases q : rg sd 0 999999 = true
  · by_cases q2 : rg n 0 60 = true
    · obtain ⟨b, hb, rfl⟩ := rg_l (b := 60) q2
      rw [if_pos ⟨q, q2⟩] at k
      simp (disch := first | assumption | omega | decide) only [nI_clamp] at k
      have L := loop_j (P := fun j (s : Int64 × (Nat → Int32)) (u : Value × Value) => T (d + 6) 203 37 [.ref 58, .int sd, .int (nI b), .long s.1, un, .int (nI j), u.1, u.2] [] (hm h s.2) Q) (F := yrF g hh) (I := fun _ s => s.2 12 = nI g ∧ s.2 25 = nI hh) (E := fun s => Q (some (.int (alk s.2 624))) (hm h s.2)) (g := b) ?_ ?_
      · simp (disch := first | assumption | omega | decide) only [t203_0, t203_1, t203_2, t203_4, t203_7, t203_10, t203_11, t203_12, t203_14, t203_17, t203_20, t203_21, t203_23, t203_26, t203_27, t203_28, t203_31, t203_32, t203_33, t203_34, t203_35, hm_58, hm_59, hm_up, e1, MO, gF_7_0, gF_7_1, gF_7_2, gF_7_3, gF_7_4, gF_7_5, gF_7_6, gF_7_7, aS_n, aS_l, aL_n, aL_l, ln_add, nl_add, ln_mul, nl_mul, nI_add, nI_1, i32_nl, ite_not, lt_nn, lt_nl, lt_ln, eq_nn, eq_nl, eq_ln, if_true, if_false, kil_i, kil_r, kil_l, kil_u, rl_s, rl_n, Nat.zero_add, Nat.lt_irrefl, not_true_eq_false, not_false_eq_true, true_and, dp_1, dp_2, dp_3, dp_4, dp_5, dp_6, dp_7, dp_8, dp_9, dp_10, dp_11, dp_12, dp_13, dp_14, dp_15, dp_16, dp_17, dp_18, dp_19, dp_20, dp_21, dp_22, dp_23, dp_24, dp_25, dp_26, dp_27, dp_28, dp_29, dp_30, dp_31, dp_32, dp_33, dp_34, dp_35, dp_36, dp_37, dp_38, dp_39, E_inL, zb_0, q, q2, E_layTried m.mo]
        exact (L (sd.toInt64, cpR (sR S) 0 624 12) (un, un) ⟨by simp only []; rw [cpR_o (by omega)]; exact hg, by simp only []; rw [cpR_o (by omega)]; exact hh0⟩).2 (kW m k)
      · intro j ⟨x, R⟩ u hj ⟨hI1, hI2⟩
        have hP : ∀ c, c < 624 → yrP g hh (rnd x) R c = R c := fun c hc => by
          unfold yrP
          by_cases r : rg (rndI (rnd x)) 0 (g - 1 : Int) = true
          · rw [if_pos r, upd_ne (by omega)]
          · rw [if_neg r]
        have hI1 : R 12 = nI g := hI1
        have hI2 : R 25 = nI hh := hI2
        refine ⟨⟨by show psR (yrP g hh (rnd x) R) g hh 624 12 = _; rw [psR_c h4 (by omega), hP _ (by omega)]; exact hI1, by show psR (yrP g hh (rnd x) R) g hh 624 25 = _; rw [psR_c h4 (by omega), hP _ (by omega)]; exact hI2⟩, (.int (rndI (rnd x)), .int (rndJ (rnd x))), ?_⟩
        have ho := m.mo.o (R := R)
        have ho2 := m.mo.o (R := yrP g hh (rnd x) R)
        have C := @E_passes d (yrP g hh (rnd x) R) h (fun r h2 => T (d + 6) 203 123 [.ref 58, .int sd, .int (nI b), .long (rnd x), un, .int (nI j), .int (rndI (rnd x)), .int (rndJ (rnd x))] (rl r []) h2 Q) g hh 624 m.mo (by rw [hP _ (by omega)]; exact hI1) h6 (by rw [hP _ (by omega)]; exact hI2) h4 (by omega)
        rw [t203_37]
        simp (disch := first | assumption | omega | decide) only [t203_39, t203_40, t203_43, t203_44, t203_47, t203_48, t203_51, t203_52, t203_55, t203_56, t203_57, t203_58, t203_61, t203_62, t203_65, t203_66, t203_67, t203_69, t203_70, t203_73, t203_74, t203_77, t203_78, t203_79, hm_58, hm_59, hm_up, e1, MO, gF_7_0, gF_7_1, gF_7_2, gF_7_3, gF_7_4, gF_7_5, gF_7_6, gF_7_7, aS_n, aS_l, aL_n, aL_l, ln_add, nl_add, ln_mul, nl_mul, nI_add, nI_1, i32_nl, ite_not, lt_nn, lt_nl, lt_ln, eq_nn, eq_nl, eq_ln, if_true, if_false, kil_i, kil_r, kil_l, kil_u, rl_s, rl_n, Nat.zero_add, Nat.lt_irrefl, not_true_eq_false, not_false_eq_true, true_and, dp_1, dp_2, dp_3, dp_4, dp_5, dp_6, dp_7, dp_8, dp_9, dp_10, dp_11, dp_12, dp_13, dp_14, dp_15, dp_16, dp_17, dp_18, dp_19, dp_20, dp_21, dp_22, dp_23, dp_24, dp_25, dp_26, dp_27, dp_28, dp_29, dp_30, dp_31, dp_32, dp_33, dp_34, dp_35, dp_36, dp_37, dp_38, dp_39, hj, kil_u, show ¬ (2147483648 : Int64) = 0 from by decide, show ¬ (65536 : Int64) = 0 from by decide, show ¬ (6 : Int64) = 0 from by decide, show ¬ (1048576 : Int64) = 0 from by decide, show ¬ (4 : Int64) = 0 from by decide]
        rw [show (x * 1103515245 + 12345) - (x * 1103515245 + 12345) / 2147483648 * 2147483648 = rnd x from rfl]
        rw [show (rnd x / 65536 - rnd x / 65536 / 6 * 6).toInt32 = rndI (rnd x) from rfl, show (rnd x / 1048576 - rnd x / 1048576 / 4 * 4).toInt32 = rndJ (rnd x) from rfl]
        have F1 : T (d + 6) 203 116 [.ref 58, .int sd, .int (nI b), .long (rnd x), un, .int (nI j), .int (rndI (rnd x)), .int (rndJ (rnd x))] [] (hm h (yrP g hh (rnd x) R)) Q ↔ T (d + 6) 203 37 [.ref 58, .int sd, .int (nI b), .long (rnd x), un, .int (nI (j + 1)), .int (rndI (rnd x)), .int (rndJ (rnd x))] [] (hm h (psR (yrP g hh (rnd x) R) g hh 624)) Q := by
          simp (disch := first | assumption | omega | decide) only [t203_116, t203_117, t203_120, hm_58, hm_59, hm_up, e1, MO, gF_7_0, gF_7_1, gF_7_2, gF_7_3, gF_7_4, gF_7_5, gF_7_6, gF_7_7, aS_n, aS_l, aL_n, aL_l, ln_add, nl_add, ln_mul, nl_mul, nI_add, nI_1, i32_nl, ite_not, lt_nn, lt_nl, lt_ln, eq_nn, eq_nl, eq_ln, if_true, if_false, kil_i, kil_r, kil_l, kil_u, rl_s, rl_n, Nat.zero_add, Nat.lt_irrefl, not_true_eq_false, not_false_eq_true, true_and, dp_1, dp_2, dp_3, dp_4, dp_5, dp_6, dp_7, dp_8, dp_9, dp_10, dp_11, dp_12, dp_13, dp_14, dp_15, dp_16, dp_17, dp_18, dp_19, dp_20, dp_21, dp_22, dp_23, dp_24, dp_25, dp_26, dp_27, dp_28, dp_29, dp_30, dp_31, dp_32, dp_33, dp_34, dp_35, dp_36, dp_37, dp_38, dp_39]
          refine C.trans ?_
          simp (disch := first | assumption | omega | decide) only [t203_123, t203_126, hm_58, hm_59, hm_up, e1, MO, gF_7_0, gF_7_1, gF_7_2, gF_7_3, gF_7_4, gF_7_5, gF_7_6, gF_7_7, aS_n, aS_l, aL_n, aL_l, ln_add, nl_add, ln_mul, nl_mul, nI_add, nI_1, i32_nl, ite_not, lt_nn, lt_nl, lt_ln, eq_nn, eq_nl, eq_ln, if_true, if_false, kil_i, kil_r, kil_l, kil_u, rl_s, rl_n, Nat.zero_add, Nat.lt_irrefl, not_true_eq_false, not_false_eq_true, true_and, dp_1, dp_2, dp_3, dp_4, dp_5, dp_6, dp_7, dp_8, dp_9, dp_10, dp_11, dp_12, dp_13, dp_14, dp_15, dp_16, dp_17, dp_18, dp_19, dp_20, dp_21, dp_22, dp_23, dp_24, dp_25, dp_26, dp_27, dp_28, dp_29, dp_30, dp_31, dp_32, dp_33, dp_34, dp_35, dp_36, dp_37, dp_38, dp_39]
        refine Iff.trans ?_ F1
        by_cases r1 : rg (rndI (rnd x)) 0 (g - 1 : Int) = true
        · obtain ⟨c, hc, ec⟩ := rg_n r1
          unfold yrP
          by_cases r2 : rg (rndJ (rnd x)) 0 (hh - 1 : Int) = true <;>
          · simp only [r1, r2, if_true, if_false, Bool.false_eq_true]
            rw [ec] at r1 ⊢
            simp (disch := first | assumption | omega | decide) only [t203_81, t203_82, t203_84, t203_87, t203_90, t203_91, t203_94, t203_97, t203_99, t203_100, t203_101, t203_103, t203_106, t203_109, t203_111, t203_114, t203_115, hm_58, hm_59, hm_up, e1, MO, gF_7_0, gF_7_1, gF_7_2, gF_7_3, gF_7_4, gF_7_5, gF_7_6, gF_7_7, aS_n, aS_l, aL_n, aL_l, ln_add, nl_add, ln_mul, nl_mul, nI_add, nI_1, i32_nl, ite_not, lt_nn, lt_nl, lt_ln, eq_nn, eq_nl, eq_ln, if_true, if_false, kil_i, kil_r, kil_l, kil_u, rl_s, rl_n, Nat.zero_add, Nat.lt_irrefl, not_true_eq_false, not_false_eq_true, true_and, dp_1, dp_2, dp_3, dp_4, dp_5, dp_6, dp_7, dp_8, dp_9, dp_10, dp_11, dp_12, dp_13, dp_14, dp_15, dp_16, dp_17, dp_18, dp_19, dp_20, dp_21, dp_22, dp_23, dp_24, dp_25, dp_26, dp_27, dp_28, dp_29, dp_30, dp_31, dp_32, dp_33, dp_34, dp_35, dp_36, dp_37, dp_38, dp_39, E_isGuest m.mo hI1 h6, E_isHouse m.mo hI2 h4, zb_0, r1, r2, nI_clamp, Bool.false_eq_true]
        · have e : yrP g hh (rnd x) R = R := by unfold yrP; rw [if_neg r1]
          rw [e]
          simp (disch := first | assumption | omega | decide) only [t203_81, t203_82, t203_84, t203_87, hm_58, hm_59, hm_up, e1, MO, gF_7_0, gF_7_1, gF_7_2, gF_7_3, gF_7_4, gF_7_5, gF_7_6, gF_7_7, aS_n, aS_l, aL_n, aL_l, ln_add, nl_add, ln_mul, nl_mul, nI_add, nI_1, i32_nl, ite_not, lt_nn, lt_nl, lt_ln, eq_nn, eq_nl, eq_ln, if_true, if_false, kil_i, kil_r, kil_l, kil_u, rl_s, rl_n, Nat.zero_add, Nat.lt_irrefl, not_true_eq_false, not_false_eq_true, true_and, dp_1, dp_2, dp_3, dp_4, dp_5, dp_6, dp_7, dp_8, dp_9, dp_10, dp_11, dp_12, dp_13, dp_14, dp_15, dp_16, dp_17, dp_18, dp_19, dp_20, dp_21, dp_22, dp_23, dp_24, dp_25, dp_26, dp_27, dp_28, dp_29, dp_30, dp_31, dp_32, dp_33, dp_34, dp_35, dp_36, dp_37, dp_38, dp_39, E_isGuest m.mo hI1 h6, zb_0, r1, Bool.false_eq_true]
      · intro s u ⟨hI1, hI2⟩
        rw [t203_37]
        have ho := m.mo.o (R := s.2)
        have A := @E_allLiking (d + 5) s.2 h (fun r h2 => T (d + 6) 203 136 [.ref 58, .int sd, .int (nI b), .long s.1, un, .int (nI b), u.1, u.2] (rl r []) h2 Q) 624 m.mo (by omega)
        simp (disch := first | assumption | omega | decide) only [t203_39, t203_40, t203_129, t203_130, t203_133, hm_58, hm_59, hm_up, e1, MO, gF_7_0, gF_7_1, gF_7_2, gF_7_3, gF_7_4, gF_7_5, gF_7_6, gF_7_7, aS_n, aS_l, aL_n, aL_l, ln_add, nl_add, ln_mul, nl_mul, nI_add, nI_1, i32_nl, ite_not, lt_nn, lt_nl, lt_ln, eq_nn, eq_nl, eq_ln, if_true, if_false, kil_i, kil_r, kil_l, kil_u, rl_s, rl_n, Nat.zero_add, Nat.lt_irrefl, not_true_eq_false, not_false_eq_true, true_and, dp_1, dp_2, dp_3, dp_4, dp_5, dp_6, dp_7, dp_8, dp_9, dp_10, dp_11, dp_12, dp_13, dp_14, dp_15, dp_16, dp_17, dp_18, dp_19, dp_20, dp_21, dp_22, dp_23, dp_24, dp_25, dp_26, dp_27, dp_28, dp_29, dp_30, dp_31, dp_32, dp_33, dp_34, dp_35, dp_36, dp_37, dp_38, dp_39]
        refine A.trans ?_
        simp (disch := first | assumption | omega | decide) only [t203_136, hm_58, hm_59, hm_up, e1, MO, gF_7_0, gF_7_1, gF_7_2, gF_7_3, gF_7_4, gF_7_5, gF_7_6, gF_7_7, aS_n, aS_l, aL_n, aL_l, ln_add, nl_add, ln_mul, nl_mul, nI_add, nI_1, i32_nl, ite_not, lt_nn, lt_nl, lt_ln, eq_nn, eq_nl, eq_ln, if_true, if_false, kil_i, kil_r, kil_l, kil_u, rl_s, rl_n, Nat.zero_add, Nat.lt_irrefl, not_true_eq_false, not_false_eq_true, true_and, dp_1, dp_2, dp_3, dp_4, dp_5, dp_6, dp_7, dp_8, dp_9, dp_10, dp_11, dp_12, dp_13, dp_14, dp_15, dp_16, dp_17, dp_18, dp_19, dp_20, dp_21, dp_22, dp_23, dp_24, dp_25, dp_26, dp_27, dp_28, dp_29, dp_30, dp_31, dp_32, dp_33, dp_34, dp_35, dp_36, dp_37, dp_38, dp_39]
    · rw [if_neg (fun z => q2 z.2)] at k
      simp (disch := first | assumption | omega | decide) only [t203_0, t203_1, t203_2, t203_4, t203_7, t203_10, t203_11, t203_12, t203_14, t203_17, t203_20, t203_21, t203_23, t203_26, hm_58, hm_59, hm_up, e1, MO, gF_7_0, gF_7_1, gF_7_2, gF_7_3, gF_7_4, gF_7_5, gF_7_6, gF_7_7, aS_n, aS_l, aL_n, aL_l, ln_add, nl_add, ln_mul, nl_mul, nI_add, nI_1, i32_nl, ite_not, lt_nn, lt_nl, lt_ln, eq_nn, eq_nl, eq_ln, if_true, if_false, kil_i, kil_r, kil_l, kil_u, rl_s, rl_n, Nat.zero_add, Nat.lt_irrefl, not_true_eq_false, not_false_eq_true, true_and, dp_1, dp_2, dp_3, dp_4, dp_5, dp_6, dp_7, dp_8, dp_9, dp_10, dp_11, dp_12, dp_13, dp_14, dp_15, dp_16, dp_17, dp_18, dp_19, dp_20, dp_21, dp_22, dp_23, dp_24, dp_25, dp_26, dp_27, dp_28, dp_29, dp_30, dp_31, dp_32, dp_33, dp_34, dp_35, dp_36, dp_37, dp_38, dp_39, E_inL, zb_0, q, q2, E_refB mm]
      exact kR m 0 k
  · rw [if_neg (fun z => q z.1)] at k
    simp (disch := first | assumption | omega | decide) only [t203_0, t203_1, t203_2, t203_4, t203_7, t203_10, t203_11, t203_12, t203_14, t203_17, t203_20, t203_21, t203_23, t203_26, hm_58, hm_59, hm_up, e1, MO, gF_7_0, gF_7_1, gF_7_2, gF_7_3, gF_7_4, gF_7_5, gF_7_6, gF_7_7, aS_n, aS_l, aL_n, aL_l, ln_add, nl_add, ln_mul, nl_mul, nI_add, nI_1, i32_nl, ite_not, lt_nn, lt_nl, lt_ln, eq_nn, eq_nl, eq_ln, if_true, if_false, kil_i, kil_r, kil_l, kil_u, rl_s, rl_n, Nat.zero_add, Nat.lt_irrefl, not_true_eq_false, not_false_eq_true, true_and, dp_1, dp_2, dp_3, dp_4, dp_5, dp_6, dp_7, dp_8, dp_9, dp_10, dp_11, dp_12, dp_13, dp_14, dp_15, dp_16, dp_17, dp_18, dp_19, dp_20, dp_21, dp_22, dp_23, dp_24, dp_25, dp_26, dp_27, dp_28, dp_29, dp_30, dp_31, dp_32, dp_33, dp_34, dp_35, dp_36, dp_37, dp_38, dp_39, E_inL, zb_0, q, E_refB mm]
    exact kR m 0 k
def sp_part (S : St) (w : Int32) : Int64 × St :=
  if rg w 0 1 = true then (if w = 0 then sA S else sB S, S) else ((-2 : Int32).toInt64, refu S 0)
theorem M_part {w : Int32} (m : ModelAt h S) (k : ∀ h2, ModelAt h2 (sp_part S w).2 → frM h h2 → Q (some (.long (sp_part S w).1)) h2) : T (d + 6) 204 0 [.ref 58, .int w] [] h Q := by
  refine T_eq m.self ?_
  have mm := m.again
  have ho := m.mo.o (R := sR S)
  obtain ⟨⟨pa, pb, r5, r6, dg, e1⟩, e2, e3, e4, e5, e6, e7⟩ := id m
  unfold sp_part at k
  by_cases q : rg w 0 1 = true
  · rw [if_pos q] at k
    by_cases w0 : w = 0
    · simp only [w0, if_true] at k
      simp (disch := first | assumption | omega | decide) only [t204_0, t204_1, t204_2, t204_3, t204_6, t204_9, t204_10, t204_12, t204_15, t204_16, t204_17, t204_18, t204_21, t204_22, t204_25, t204_28, t204_29, t204_32, hm_58, hm_59, hm_up, e1, MO, gF_7_0, gF_7_1, gF_7_2, gF_7_3, gF_7_4, gF_7_5, gF_7_6, gF_7_7, aS_n, aS_l, aL_n, aL_l, ln_add, nl_add, ln_mul, nl_mul, nI_add, nI_1, i32_nl, ite_not, lt_nn, lt_nl, lt_ln, eq_nn, eq_nl, eq_ln, if_true, if_false, kil_i, kil_r, kil_l, kil_u, rl_s, rl_n, Nat.zero_add, Nat.lt_irrefl, not_true_eq_false, not_false_eq_true, true_and, dp_1, dp_2, dp_3, dp_4, dp_5, dp_6, dp_7, dp_8, dp_9, dp_10, dp_11, dp_12, dp_13, dp_14, dp_15, dp_16, dp_17, dp_18, dp_19, dp_20, dp_21, dp_22, dp_23, dp_24, dp_25, dp_26, dp_27, dp_28, dp_29, dp_30, dp_31, dp_32, dp_33, dp_34, dp_35, dp_36, dp_37, dp_38, dp_39, E_inL, zb_0, q, w0]
      exact kN m k
    · simp only [w0, if_false] at k
      simp (disch := first | assumption | omega | decide) only [t204_0, t204_1, t204_2, t204_3, t204_6, t204_9, t204_10, t204_12, t204_15, t204_16, t204_17, t204_18, t204_21, t204_22, t204_25, t204_28, t204_29, t204_32, hm_58, hm_59, hm_up, e1, MO, gF_7_0, gF_7_1, gF_7_2, gF_7_3, gF_7_4, gF_7_5, gF_7_6, gF_7_7, aS_n, aS_l, aL_n, aL_l, ln_add, nl_add, ln_mul, nl_mul, nI_add, nI_1, i32_nl, ite_not, lt_nn, lt_nl, lt_ln, eq_nn, eq_nl, eq_ln, if_true, if_false, kil_i, kil_r, kil_l, kil_u, rl_s, rl_n, Nat.zero_add, Nat.lt_irrefl, not_true_eq_false, not_false_eq_true, true_and, dp_1, dp_2, dp_3, dp_4, dp_5, dp_6, dp_7, dp_8, dp_9, dp_10, dp_11, dp_12, dp_13, dp_14, dp_15, dp_16, dp_17, dp_18, dp_19, dp_20, dp_21, dp_22, dp_23, dp_24, dp_25, dp_26, dp_27, dp_28, dp_29, dp_30, dp_31, dp_32, dp_33, dp_34, dp_35, dp_36, dp_37, dp_38, dp_39, E_inL, zb_0, q, w0]
      exact kN m k
  · rw [if_neg q] at k
    simp (disch := first | assumption | omega | decide) only [t204_0, t204_1, t204_2, t204_3, t204_6, t204_9, t204_10, t204_12, t204_15, t204_16, t204_17, t204_18, t204_21, t204_22, t204_25, t204_28, t204_29, t204_32, hm_58, hm_59, hm_up, e1, MO, gF_7_0, gF_7_1, gF_7_2, gF_7_3, gF_7_4, gF_7_5, gF_7_6, gF_7_7, aS_n, aS_l, aL_n, aL_l, ln_add, nl_add, ln_mul, nl_mul, nI_add, nI_1, i32_nl, ite_not, lt_nn, lt_nl, lt_ln, eq_nn, eq_nl, eq_ln, if_true, if_false, kil_i, kil_r, kil_l, kil_u, rl_s, rl_n, Nat.zero_add, Nat.lt_irrefl, not_true_eq_false, not_false_eq_true, true_and, dp_1, dp_2, dp_3, dp_4, dp_5, dp_6, dp_7, dp_8, dp_9, dp_10, dp_11, dp_12, dp_13, dp_14, dp_15, dp_16, dp_17, dp_18, dp_19, dp_20, dp_21, dp_22, dp_23, dp_24, dp_25, dp_26, dp_27, dp_28, dp_29, dp_30, dp_31, dp_32, dp_33, dp_34, dp_35, dp_36, dp_37, dp_38, dp_39, E_inL, zb_0, q, E_refB mm]
    exact kR m 0 k
def sp_status (S : St) (w : Int32) : Int32 × St :=
  if rg w 0 2 = true then (sF S w.toNatClampNeg, S) else (-1, refu S 0)
theorem M_status {w : Int32} (m : ModelAt h S) (k : ∀ h2, ModelAt h2 (sp_status S w).2 → frM h h2 → Q (some (.int (sp_status S w).1)) h2) : T (d + 6) 207 0 [.ref 58, .int w] [] h Q := by
  refine T_eq m.self ?_
  have mm := m.again
  have ho := m.mo.o (R := sR S)
  obtain ⟨⟨pa, pb, r5, r6, dg, e1⟩, e2, e3, e4, e5, e6, e7⟩ := id m
  have e4b : (hm h (sR S)).2.2 61 = oI 3 (sF S) := e4
  unfold sp_status at k
  by_cases q : rg w 0 2 = true
  · rw [if_pos q] at k
    obtain ⟨a, ha, rfl⟩ := rg_l (b := 2) q
    simp (disch := first | assumption | omega | decide) only [nI_clamp] at k
    simp (disch := first | assumption | omega | decide) only [t207_0, t207_1, t207_2, t207_3, t207_6, t207_9, t207_10, t207_13, t207_14, t207_15, t207_18, t207_19, t207_20, t207_23, hm_58, hm_59, hm_up, e1, MO, gF_7_0, gF_7_1, gF_7_2, gF_7_3, gF_7_4, gF_7_5, gF_7_6, gF_7_7, aS_n, aS_l, aL_n, aL_l, ln_add, nl_add, ln_mul, nl_mul, nI_add, nI_1, i32_nl, ite_not, lt_nn, lt_nl, lt_ln, eq_nn, eq_nl, eq_ln, if_true, if_false, kil_i, kil_r, kil_l, kil_u, rl_s, rl_n, Nat.zero_add, Nat.lt_irrefl, not_true_eq_false, not_false_eq_true, true_and, dp_1, dp_2, dp_3, dp_4, dp_5, dp_6, dp_7, dp_8, dp_9, dp_10, dp_11, dp_12, dp_13, dp_14, dp_15, dp_16, dp_17, dp_18, dp_19, dp_20, dp_21, dp_22, dp_23, dp_24, dp_25, dp_26, dp_27, dp_28, dp_29, dp_30, dp_31, dp_32, dp_33, dp_34, dp_35, dp_36, dp_37, dp_38, dp_39, E_inL, zb_0, q, e4b]
    exact kN m k
  · rw [if_neg q] at k
    simp (disch := first | assumption | omega | decide) only [t207_0, t207_1, t207_2, t207_3, t207_6, t207_9, t207_10, t207_13, t207_14, t207_15, t207_18, t207_19, t207_20, t207_23, hm_58, hm_59, hm_up, e1, MO, gF_7_0, gF_7_1, gF_7_2, gF_7_3, gF_7_4, gF_7_5, gF_7_6, gF_7_7, aS_n, aS_l, aL_n, aL_l, ln_add, nl_add, ln_mul, nl_mul, nI_add, nI_1, i32_nl, ite_not, lt_nn, lt_nl, lt_ln, eq_nn, eq_nl, eq_ln, if_true, if_false, kil_i, kil_r, kil_l, kil_u, rl_s, rl_n, Nat.zero_add, Nat.lt_irrefl, not_true_eq_false, not_false_eq_true, true_and, dp_1, dp_2, dp_3, dp_4, dp_5, dp_6, dp_7, dp_8, dp_9, dp_10, dp_11, dp_12, dp_13, dp_14, dp_15, dp_16, dp_17, dp_18, dp_19, dp_20, dp_21, dp_22, dp_23, dp_24, dp_25, dp_26, dp_27, dp_28, dp_29, dp_30, dp_31, dp_32, dp_33, dp_34, dp_35, dp_36, dp_37, dp_38, dp_39, E_inL, zb_0, q, E_badAs mm]
    exact kR m 0 k
end PD
