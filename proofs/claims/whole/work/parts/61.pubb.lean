/-! the reference's public calls: ask, rain, years, part -/
section PB
variable {d : Nat} {h : Hp} {Q : Pst} {S : St} {g hh nn mn : Nat}
theorem dv_61 : ∀ k, k < 305 → nI k / 61 = nI (k / 61) := by decide +kernel
theorem rm_61 : ∀ k, k < 305 → nI k - nI (k / 61 * 61) = nI (k % 61) := by decide +kernel
def akC (R : Nat → Int32) (j w x : Nat) (kd : Nat) : Int32 := if nI x < nd (nI kd) (R (30 + j)) (nI w) then 0 else 1
def akM (R : Nat → Int32) (j : Nat) (set : Int32) (k : Nat) : Int32 := malk (akC R j (k / 61) (k % 61)) set
def akF (R : Nat → Int32) (j : Nat) (set : Int32) (k : Nat) (s : Int32 × Int32) : Int32 × Int32 :=
  (if akM R j set k < s.2 then 100 * nI (k / 61) + nI (k % 61) else s.1, if akM R j set k < s.2 then akM R j set k else s.2)
def akV (R : Nat → Int32) (j : Nat) (set : Int32) : Int32 := if set = 0 then -1 else (itr (akF R j set) 305 0 (-1, 99)).1
def sp_ask (hh mn : Nat) (S : St) (j : Int32) : Int32 × St := if rg j 0 (hh - 1 : Int) = true then (akV (sR S) j.toNatClampNeg (svS (sR S) j.toNatClampNeg mn), S) else (-2, refu S 0)
theorem M_ask {j : Int32} (m : ModelAt h S) (hh0 : sR S 25 = nI hh) (h4 : hh ≤ 4) (hn : sR S 80 = nI mn) (h5 : mn ≤ 6) (k : ∀ h2, ModelAt h2 (sp_ask hh mn S j).2 → frM h h2 → Q (some (.int (sp_ask hh mn S j).1)) h2) : T (d + 6) 197 0 [.ref 58, .int j, un, un, un, un, un, un, un] [] h Q := by
  obtain ⟨e0, ea1, ea2, ea3, ea4, ea5, f1, f2, C0, f4, f5, e6, e7, e8, e9, e10⟩ := id m
  have hself0 : hm h (sR S) = hc h (sR S) C0 := by
    unfold hc; rw [m.self, ← e8]; exact hup_id.symm
  refine T_eq m.self ?_
  have mm := m.again
  have ho := m.mo.o (R := sR S)
  obtain ⟨ab, be, ln, pa, pb, r5, r6, dg, e1⟩ := id m.mo
  unfold sp_ask at k
  by_cases q : rg j 0 (hh - 1 : Int) = true
  · obtain ⟨a, ha, rfl⟩ := rg_n q
    rw [if_pos q] at k
    simp (disch := first | assumption | omega | decide) only [nI_clamp] at k
    simp (disch := first | assumption | omega | decide) only [t197_0, t197_1, t197_2, t197_5, t197_8, t197_9, t197_11, t197_14, t197_15, t197_16, t197_17, t197_20, t197_21, t197_22, t197_23, t197_25, t197_27, t197_28, hm_58, hm_59, hm_up, e1, MO, gF_7_0, gF_7_1, gF_7_2, gF_7_3, gF_7_4, gF_7_5, gF_7_6, gF_7_7, aS_n, aS_l, aL_n, aL_l, ln_add, nl_add, ln_mul, nl_mul, nI_add, nI_1, i32_nl, ite_not, lt_nn, lt_nl, lt_ln, eq_nn, eq_nl, eq_ln, if_true, if_false, kil_i, kil_r, kil_l, kil_u, rl_s, rl_n, Nat.zero_add, Nat.lt_irrefl, not_true_eq_false, not_false_eq_true, true_and, dp_1, dp_2, dp_3, dp_4, dp_5, dp_6, dp_7, dp_8, dp_9, dp_10, dp_11, dp_12, dp_13, dp_14, dp_15, dp_16, dp_17, dp_18, dp_19, dp_20, dp_21, dp_22, dp_23, dp_24, dp_25, dp_26, dp_27, dp_28, dp_29, dp_30, dp_31, dp_32, dp_33, dp_34, dp_35, dp_36, dp_37, dp_38, dp_39, E_isHouse m.mo hh0 h4, zb_0, q, E_sievesOf m.mo (show a < 4 by omega) hn h5]
    obtain ⟨set, hset⟩ : ∃ set, set = svS (sR S) a mn := ⟨_, rfl⟩
    rw [← hset] at k ⊢
    by_cases q0 : set = 0
    · subst q0
      rw [show akV (sR S) a 0 = -1 from rfl] at k
      simp (disch := first | assumption | omega | decide) only [t197_30, t197_32, t197_35, t197_38, t197_39, t197_154, t197_155, hm_58, hm_59, hm_up, e1, MO, gF_7_0, gF_7_1, gF_7_2, gF_7_3, gF_7_4, gF_7_5, gF_7_6, gF_7_7, aS_n, aS_l, aL_n, aL_l, ln_add, nl_add, ln_mul, nl_mul, nI_add, nI_1, i32_nl, ite_not, lt_nn, lt_nl, lt_ln, eq_nn, eq_nl, eq_ln, if_true, if_false, kil_i, kil_r, kil_l, kil_u, rl_s, rl_n, Nat.zero_add, Nat.lt_irrefl, not_true_eq_false, not_false_eq_true, true_and, dp_1, dp_2, dp_3, dp_4, dp_5, dp_6, dp_7, dp_8, dp_9, dp_10, dp_11, dp_12, dp_13, dp_14, dp_15, dp_16, dp_17, dp_18, dp_19, dp_20, dp_21, dp_22, dp_23, dp_24, dp_25, dp_26, dp_27, dp_28, dp_29, dp_30, dp_31, dp_32, dp_33, dp_34, dp_35, dp_36, dp_37, dp_38, dp_39]
      exact kN m k
    · have hV : akV (sR S) a set = (itr (akF (sR S) a set) 305 0 (-1, 99)).1 := by unfold akV; rw [if_neg q0]
      rw [hV] at k
      have L := loop_w (P := fun p (s : Int32 × Int32) (u : (Nat → Int32) × Value × Value × Value) => T (d + 6) 197 30 [.ref 58, .int (nI a), .int set, .int s.1, .int s.2, .int (nI p), u.2.1, u.2.2.1, u.2.2.2] [] (hc h (sR S) u.1) Q) (F := akF (sR S) a set) (g := 305) ?_ (-1, 99) ?_ (C0, un, un, un)
      · rw [← hself0] at L
        exact L
      · intro p s u hp hk
        have L2 := loop_d (P := fun kd (C : Nat → Int32) (_ : Unit) => T (d + 6) 197 59 [.ref 58, .int (nI a), .int set, .int s.1, .int s.2, .int (nI p), .int (nI (p / 61)), .int (nI (p % 61)), .int (nI kd)] [] (hc h (sR S) C) Q) (F := fun kd C => upd C kd (akC (sR S) a (p / 61) (p % 61) kd)) (E := fun C => T (d + 6) 197 105 [.ref 58, .int (nI a), .int set, .int s.1, .int s.2, .int (nI p), .int (nI (p / 61)), .int (nI (p % 61)), .int (nI 6)] [] (hc h (sR S) C) Q) (g := 6) ?_ ?_
        · rw [t197_30]
          simp (disch := first | assumption | omega | decide) only [t197_32, t197_35, t197_38, t197_39, t197_42, t197_44, t197_46, t197_47, t197_49, t197_51, t197_53, t197_54, t197_56, t197_57, hm_58, hm_59, hm_up, e1, MO, gF_7_0, gF_7_1, gF_7_2, gF_7_3, gF_7_4, gF_7_5, gF_7_6, gF_7_7, aS_n, aS_l, aL_n, aL_l, ln_add, nl_add, ln_mul, nl_mul, nI_add, nI_1, i32_nl, ite_not, lt_nn, lt_nl, lt_ln, eq_nn, eq_nl, eq_ln, if_true, if_false, kil_i, kil_r, kil_l, kil_u, rl_s, rl_n, Nat.zero_add, Nat.lt_irrefl, not_true_eq_false, not_false_eq_true, true_and, dp_1, dp_2, dp_3, dp_4, dp_5, dp_6, dp_7, dp_8, dp_9, dp_10, dp_11, dp_12, dp_13, dp_14, dp_15, dp_16, dp_17, dp_18, dp_19, dp_20, dp_21, dp_22, dp_23, dp_24, dp_25, dp_26, dp_27, dp_28, dp_29, dp_30, dp_31, dp_32, dp_33, dp_34, dp_35, dp_36, dp_37, dp_38, dp_39, hp, q0, show ¬ (61 : Int32) = 0 from by decide, dv_61, rm_61]
          refine (L2 u.1 ()).2 ?_
          have eC := @itr_up (akC (sR S) a (p / 61) (p % 61)) u.1 6
          obtain ⟨C2, hC2⟩ : ∃ C2, C2 = itr (fun kd C => upd C kd (akC (sR S) a (p / 61) (p % 61) kd)) 6 0 u.1 := ⟨_, rfl⟩
          rw [← hC2] at eC ⊢
          have hk2 := hk (C2, .int (nI (p / 61)), .int (nI (p % 61)), .int (akM (sR S) a set p))
          have hoy : isO ((hc h (sR S) C2).2.2 58) 7 := ho
          have A := @E_mostAlike (d + 2) (hc h (sR S) C2) (fun r h2 => T (d + 6) 197 110 [.ref 58, .int (nI a), .int set, .int s.1, .int s.2, .int (nI p), .int (nI (p / 61)), .int (nI (p % 61)), .int (nI 6)] (rl r []) h2 Q) ab be ln pa pb r5 r6 dg set C2 (by rw [hc_58]; exact e1) hc_66
          simp (disch := first | assumption | omega | decide) only [t197_105, t197_106, t197_107, hm_58, hm_59, hm_up, e1, MO, gF_7_0, gF_7_1, gF_7_2, gF_7_3, gF_7_4, gF_7_5, gF_7_6, gF_7_7, aS_n, aS_l, aL_n, aL_l, ln_add, nl_add, ln_mul, nl_mul, nI_add, nI_1, i32_nl, ite_not, lt_nn, lt_nl, lt_ln, eq_nn, eq_nl, eq_ln, if_true, if_false, kil_i, kil_r, kil_l, kil_u, rl_s, rl_n, Nat.zero_add, Nat.lt_irrefl, not_true_eq_false, not_false_eq_true, true_and, dp_1, dp_2, dp_3, dp_4, dp_5, dp_6, dp_7, dp_8, dp_9, dp_10, dp_11, dp_12, dp_13, dp_14, dp_15, dp_16, dp_17, dp_18, dp_19, dp_20, dp_21, dp_22, dp_23, dp_24, dp_25, dp_26, dp_27, dp_28, dp_29, dp_30, dp_31, dp_32, dp_33, dp_34, dp_35, dp_36, dp_37, dp_38, dp_39]
          refine A.2 ?_
          rw [malk_congr (C2 := akC (sR S) a (p / 61) (p % 61)) eC]
          unfold akF at hk2
          rw [show malk (akC (sR S) a (p / 61) (p % 61)) set = akM (sR S) a set p from rfl]
          by_cases r1 : akM (sR S) a set p < s.2 <;> simp (disch := first | assumption | omega | decide) only [r1, t197_110, t197_112, t197_114, t197_116, t197_119, t197_121, t197_123, t197_124, t197_126, t197_127, t197_130, t197_131, t197_132, t197_134, t197_136, t197_139, t197_141, t197_144, t197_146, t197_148, t197_151, hm_58, hm_59, hm_up, e1, MO, gF_7_0, gF_7_1, gF_7_2, gF_7_3, gF_7_4, gF_7_5, gF_7_6, gF_7_7, aS_n, aS_l, aL_n, aL_l, ln_add, nl_add, ln_mul, nl_mul, nI_add, nI_1, i32_nl, ite_not, lt_nn, lt_nl, lt_ln, eq_nn, eq_nl, eq_ln, if_true, if_false, kil_i, kil_r, kil_l, kil_u, rl_s, rl_n, Nat.zero_add, Nat.lt_irrefl, not_true_eq_false, not_false_eq_true, true_and, dp_1, dp_2, dp_3, dp_4, dp_5, dp_6, dp_7, dp_8, dp_9, dp_10, dp_11, dp_12, dp_13, dp_14, dp_15, dp_16, dp_17, dp_18, dp_19, dp_20, dp_21, dp_22, dp_23, dp_24, dp_25, dp_26, dp_27, dp_28, dp_29, dp_30, dp_31, dp_32, dp_33, dp_34, dp_35, dp_36, dp_37, dp_38, dp_39] at hk2 ⊢ <;> exact hk2
        · intro kd C _ hkd
          refine ⟨(), ?_⟩
          rw [t197_59]
          unfold akC
          by_cases r1 : nI (p % 61) < nd (nI kd) (sR S (30 + a)) (nI (p / 61)) <;>
          simp (disch := first | assumption | omega | decide) only [t197_61, t197_63, t197_66, t197_67, t197_70, t197_72, t197_74, t197_76, t197_77, t197_80, t197_82, t197_83, t197_84, t197_85, t197_87, t197_90, t197_93, t197_94, t197_97, t197_98, t197_99, t197_102, kil_i, kil_r, rl_s, i32_nl, ite_not, lt_nl, hkd, if_true, hc_58, hc_59, hc_66, hc_up, e1, MO_0, MO_15, aL_n, aS_n, ln_add, nI_1, E_needBy, r1, if_false, dp_1, dp_2, dp_3, dp_4, dp_5]
        · intro C _
          rw [t197_59]
          simp (disch := first | assumption | omega | decide) only [t197_61, t197_63, hm_58, hm_59, hm_up, e1, MO, gF_7_0, gF_7_1, gF_7_2, gF_7_3, gF_7_4, gF_7_5, gF_7_6, gF_7_7, aS_n, aS_l, aL_n, aL_l, ln_add, nl_add, ln_mul, nl_mul, nI_add, nI_1, i32_nl, ite_not, lt_nn, lt_nl, lt_ln, eq_nn, eq_nl, eq_ln, if_true, if_false, kil_i, kil_r, kil_l, kil_u, rl_s, rl_n, Nat.zero_add, Nat.lt_irrefl, not_true_eq_false, not_false_eq_true, true_and, dp_1, dp_2, dp_3, dp_4, dp_5, dp_6, dp_7, dp_8, dp_9, dp_10, dp_11, dp_12, dp_13, dp_14, dp_15, dp_16, dp_17, dp_18, dp_19, dp_20, dp_21, dp_22, dp_23, dp_24, dp_25, dp_26, dp_27, dp_28, dp_29, dp_30, dp_31, dp_32, dp_33, dp_34, dp_35, dp_36, dp_37, dp_38, dp_39]
      · intro u
        rw [t197_30]
        simp (disch := first | assumption | omega | decide) only [t197_32, t197_35, t197_154, t197_155, hm_58, hm_59, hm_up, e1, MO, gF_7_0, gF_7_1, gF_7_2, gF_7_3, gF_7_4, gF_7_5, gF_7_6, gF_7_7, aS_n, aS_l, aL_n, aL_l, ln_add, nl_add, ln_mul, nl_mul, nI_add, nI_1, i32_nl, ite_not, lt_nn, lt_nl, lt_ln, eq_nn, eq_nl, eq_ln, if_true, if_false, kil_i, kil_r, kil_l, kil_u, rl_s, rl_n, Nat.zero_add, Nat.lt_irrefl, not_true_eq_false, not_false_eq_true, true_and, dp_1, dp_2, dp_3, dp_4, dp_5, dp_6, dp_7, dp_8, dp_9, dp_10, dp_11, dp_12, dp_13, dp_14, dp_15, dp_16, dp_17, dp_18, dp_19, dp_20, dp_21, dp_22, dp_23, dp_24, dp_25, dp_26, dp_27, dp_28, dp_29, dp_30, dp_31, dp_32, dp_33, dp_34, dp_35, dp_36, dp_37, dp_38, dp_39]
        exact kC m k
  · rw [if_neg q] at k
    simp (disch := first | assumption | omega | decide) only [t197_0, t197_1, t197_2, t197_5, t197_8, t197_9, t197_11, t197_14, hm_58, hm_59, hm_up, e1, MO, gF_7_0, gF_7_1, gF_7_2, gF_7_3, gF_7_4, gF_7_5, gF_7_6, gF_7_7, aS_n, aS_l, aL_n, aL_l, ln_add, nl_add, ln_mul, nl_mul, nI_add, nI_1, i32_nl, ite_not, lt_nn, lt_nl, lt_ln, eq_nn, eq_nl, eq_ln, if_true, if_false, kil_i, kil_r, kil_l, kil_u, rl_s, rl_n, Nat.zero_add, Nat.lt_irrefl, not_true_eq_false, not_false_eq_true, true_and, dp_1, dp_2, dp_3, dp_4, dp_5, dp_6, dp_7, dp_8, dp_9, dp_10, dp_11, dp_12, dp_13, dp_14, dp_15, dp_16, dp_17, dp_18, dp_19, dp_20, dp_21, dp_22, dp_23, dp_24, dp_25, dp_26, dp_27, dp_28, dp_29, dp_30, dp_31, dp_32, dp_33, dp_34, dp_35, dp_36, dp_37, dp_38, dp_39, E_isHouse m.mo hh0 h4, zb_0, q, E_refB mm]
    exact kR m 0 k
end PB
