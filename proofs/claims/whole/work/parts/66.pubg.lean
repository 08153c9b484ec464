/-! the reference's public calls: rivals -/
def gts (own other : Int32) : Int32 := if other < own then own else own - 2
def rsC (A B : Nat → Int32) (i j k : Nat) : Bool := decide (gts (A k) (B j) ≤ gts (A i) (B j)) && decide (gts (B k) (A i) ≤ gts (B j) (A i))
def rsB (A B : Nat → Int32) (i j : Nat) : Bool := itr (fun k b => b && rsC A B i j (1 + k)) 9 0 true
theorem rsB_congr {A B A2 B2 : Nat → Int32} {i j : Nat} (eA : ∀ k, 1 ≤ k → k < 10 → A k = A2 k) (eB : ∀ k, 1 ≤ k → k < 10 → B k = B2 k) (h1 : 1 ≤ i) (h2 : i < 10) (h3 : 1 ≤ j) (h4 : j < 10) : rsB A B i j = rsB A2 B2 i j :=
  itr_congr 9 0 true (fun k b _ hk => by unfold rsC; rw [eA i h1 h2, eB j h3 h4, eA (1 + k) (by omega) (by omega), eB (1 + k) (by omega) (by omega)])
def rvA (R : Nat → Int32) (i a m : Nat) : Int32 := bsx (stb (R (13 + i)) (R (19 + i)) (nd (R (26 + a)) (nI m) (R 10)))
def rvF (A B : Nat → Int32) (k : Int32) (n : Nat) (s : Int32 × Int32) : Int32 × Int32 :=
  if 0 < (11 + n) % 10 ∧ rsB A B ((11 + n) / 10) ((11 + n) % 10) = true then (s.1 + 1, if s.1 = k then nI (11 + n) else s.2) else s
def rvV (A B : Nat → Int32) (k : Int32) : Int32 := if k = -1 then (itr (rvF A B k) 89 0 (0, -5)).1 else (itr (rvF A B k) 89 0 (0, -5)).2
theorem dv_10 : ∀ k, k < 100 → nI k / 10 = nI (k / 10) := by decide +kernel
theorem rm_10 : ∀ k, k < 100 → nI k - nI (k / 10 * 10) = nI (k % 10) := by decide +kernel
def hr (h : Hp) (R A B : Nat → Int32) : Hp := hup (hup (hm h R) 67 (oI 10 A)) 68 (oI 10 B)
theorem hr_58 {h : Hp} {R A B : Nat → Int32} : (hr h R A B).2.2 58 = h.2.2 58 := rfl
theorem hr_59 {h : Hp} {R A B : Nat → Int32} : (hr h R A B).2.2 59 = oI 636 R := rfl
theorem hr_67 {h : Hp} {R A B : Nat → Int32} : (hr h R A B).2.2 67 = oI 10 A := rfl
theorem hr_68 {h : Hp} {R A B : Nat → Int32} : (hr h R A B).2.2 68 = oI 10 B := rfl
theorem hup_sw {h : Hp} {a b : Nat} {x y : AC} (hne : a ≠ b) : hup (hup h a x) b y = hup (hup h b y) a x := by
  have e : (hup (hup h a x) b y).2.2 = (hup (hup h b y) a x).2.2 := by
    funext q
    simp only [hup_c]
    by_cases q1 : q = a
    · subst q1; simp [hne]
    · by_cases q2 : q = b
      · subst q2; simp [q1]
      · simp [q1, q2]
  unfold hup at e ⊢
  simp only [] at e ⊢
  rw [e]
theorem hr_a {h : Hp} {R A B A2 : Nat → Int32} : hup (hr h R A B) 67 (oI 10 A2) = hr h R A2 B := by
  unfold hr
  rw [hup_sw (by decide), hup_same]
theorem hr_b {h : Hp} {R A B B2 : Nat → Int32} : hup (hr h R A B) 68 (oI 10 B2) = hr h R A B2 := hup_same
section PG
variable {d : Nat} {h : Hp} {Q : Pst} {S : St} {g hh : Nat}
theorem E_gets {x y : Int32} : T d 198 0 [.int x, .int y] [] h Q ↔ Q (some (.int (gts x y))) h := by
  unfold gts
  by_cases r : y < x <;> simp only [t198_0, t198_1, t198_2, t198_5, t198_6, t198_7, t198_8, t198_11, t198_12, r, if_true, if_false]
theorem kV {r : Option Value} {A B : Nat → Int32} (m : ModelAt h S) (k : ∀ h2, ModelAt h2 S → frM h h2 → Q r h2) : Q r (hr h (sR S) A B) := by
  refine k _ ?_ ((frM.rf.row.up (by decide) (by decide)).up (by decide) (by decide))
  unfold hr
  rw [m.self]
  obtain ⟨e0, e1, e2, e3, e4, e5, f1, f2, f3, f4, f5, e6, e7, e8, e9, e10⟩ := m
  exact ⟨e0, e1, e2, e3, e4, e5, f1, f2, f3, A, B, e6, e7, e8, rfl, rfl⟩
theorem E_rests {i j : Nat} {A B R : Nat → Int32} {ab be : Int64} {ln pa pb r5 r6 dg : Int32} (e1 : h.2.2 58 = MO ab be ln pa pb r5 r6 dg) (hi : i < 10) (hj : j < 10) : T (d + 3) 199 0 [.ref 58, .int (nI i), .int (nI j), un, un] [] (hr h R A B) Q ↔ Q (some (.int (zI (rsB A B i j)))) (hr h R A B) := by
  have L := loop_d (P := fun k (b : Bool) (_ : Unit) => T (d + 3) 199 5 [.ref 58, .int (nI i), .int (nI j), .int (zI b), .int (nI (1 + k))] [] (hr h R A B) Q) (F := fun k b => b && rsC A B i j (1 + k)) (E := fun b => Q (some (.int (zI b))) (hr h R A B)) (g := 9) ?_ ?_
  · simp (disch := first | assumption | omega | decide) only [t199_0, t199_1, t199_2, t199_3, hm_58, hm_59, hm_up, e1, MO, gF_7_0, gF_7_1, gF_7_2, gF_7_3, gF_7_4, gF_7_5, gF_7_6, gF_7_7, aS_n, aS_l, aL_n, aL_l, ln_add, nl_add, ln_mul, nl_mul, nI_add, nI_1, i32_nl, ite_not, lt_nn, lt_nl, lt_ln, eq_nn, eq_nl, eq_ln, if_true, if_false, kil_i, kil_r, kil_l, kil_u, rl_s, rl_n, Nat.zero_add, Nat.lt_irrefl, not_true_eq_false, not_false_eq_true, true_and, dp_1, dp_2, dp_3, dp_4, dp_5, dp_6, dp_7, dp_8, dp_9, dp_10, dp_11, dp_12, dp_13, dp_14, dp_15, dp_16, dp_17, dp_18, dp_19, dp_20, dp_21, dp_22, dp_23, dp_24, dp_25, dp_26, dp_27, dp_28, dp_29, dp_30, dp_31, dp_32, dp_33, dp_34, dp_35, dp_36, dp_37, dp_38, dp_39]
    exact L true ()
  · intro k b _ hk
    refine ⟨(), ?_⟩
    rw [t199_5, show 1 + (k + 1) = 1 + k + 1 by omega]
    cases b with
    | false =>
      simp (disch := first | assumption | omega | decide) only [t199_7, t199_9, t199_12, t199_13, t199_88, t199_89, t199_90, t199_93, kil_i, nI_1, i32_nl, ite_not, lt_nl, show 1 + k < 10 by omega, if_true, zI_0, Bool.false_eq_true, not_false_eq_true, Bool.false_and]
      rfl
    | true =>
      unfold rsC
      simp only [i32_nl]
      by_cases r1 : gts (A i) (B j) < gts (A (1 + k)) (B j)
      · simp (disch := first | assumption | omega | decide) only [t199_7, t199_9, t199_12, t199_13, t199_16, t199_17, t199_20, t199_22, t199_23, t199_24, t199_27, t199_28, t199_29, t199_32, t199_33, t199_36, t199_37, t199_38, t199_39, t199_42, t199_43, t199_44, t199_47, t199_50, t199_51, t199_54, t199_56, t199_57, t199_58, t199_61, t199_62, t199_63, t199_66, t199_67, t199_70, t199_71, t199_72, t199_73, t199_76, t199_77, t199_78, t199_81, t199_84, t199_85, t199_88, t199_89, t199_90, t199_93, kil_i, rl_s, nI_1, i32_nl, ite_not, lt_nl, show 1 + k < 10 by omega, if_true, if_false, zI_0, not_true_eq_false, hr_58, hr_67, hr_68, e1, MO_16, MO_17, aL_n, E_gets, r1, decide_false, decide_true, Bool.false_and, Bool.true_and, dp_1, dp_2, dp_3]
        rfl
      · by_cases r2 : gts (B j) (A i) < gts (B (1 + k)) (A i) <;>
        · simp (disch := first | assumption | omega | decide) only [t199_7, t199_9, t199_12, t199_13, t199_16, t199_17, t199_20, t199_22, t199_23, t199_24, t199_27, t199_28, t199_29, t199_32, t199_33, t199_36, t199_37, t199_38, t199_39, t199_42, t199_43, t199_44, t199_47, t199_50, t199_51, t199_54, t199_56, t199_57, t199_58, t199_61, t199_62, t199_63, t199_66, t199_67, t199_70, t199_71, t199_72, t199_73, t199_76, t199_77, t199_78, t199_81, t199_84, t199_85, t199_88, t199_89, t199_90, t199_93, kil_i, rl_s, nI_1, i32_nl, ite_not, lt_nl, show 1 + k < 10 by omega, if_true, if_false, zI_0, not_true_eq_false, not_false_eq_true, hr_58, hr_67, hr_68, e1, MO_16, MO_17, aL_n, E_gets, r1, r2, decide_false, decide_true, Bool.false_and, Bool.true_and, Bool.and_false, Bool.and_true, dp_1, dp_2, dp_3]
          rfl
  · intro b _
    rw [t199_5]
    simp (disch := first | assumption | omega | decide) only [t199_7, t199_9, t199_96, t199_97, hm_58, hm_59, hm_up, e1, MO, gF_7_0, gF_7_1, gF_7_2, gF_7_3, gF_7_4, gF_7_5, gF_7_6, gF_7_7, aS_n, aS_l, aL_n, aL_l, ln_add, nl_add, ln_mul, nl_mul, nI_add, nI_1, i32_nl, ite_not, lt_nn, lt_nl, lt_ln, eq_nn, eq_nl, eq_ln, if_true, if_false, kil_i, kil_r, kil_l, kil_u, rl_s, rl_n, Nat.zero_add, Nat.lt_irrefl, not_true_eq_false, not_false_eq_true, true_and, dp_1, dp_2, dp_3, dp_4, dp_5, dp_6, dp_7, dp_8, dp_9, dp_10, dp_11, dp_12, dp_13, dp_14, dp_15, dp_16, dp_17, dp_18, dp_19, dp_20, dp_21, dp_22, dp_23, dp_24, dp_25, dp_26, dp_27, dp_28, dp_29, dp_30, dp_31, dp_32, dp_33, dp_34, dp_35, dp_36, dp_37, dp_38, dp_39, nar_zI]
def sp_rivals (g hh : Nat) (S : St) (a b i k : Int32) : Int32 × St :=
  if (rg a 0 (hh - 1 : Int) = true ∧ rg b 0 (hh - 1 : Int) = true ∧ ¬ a = b ∧ rg i 0 (g - 1 : Int) = true ∧ ¬ k < -1) then
    (rvV (rvA (sR S) i.toNatClampNeg a.toNatClampNeg) (rvA (sR S) i.toNatClampNeg b.toNatClampNeg) k, S)
  else (-10, refu S 0)
theorem M_rivals {a b i k0 : Int32} (m : ModelAt h S) (hg : sR S 12 = nI g) (h6 : g ≤ 6) (hh0 : sR S 25 = nI hh) (h4 : hh ≤ 4) (k : ∀ h2, ModelAt h2 (sp_rivals g hh S a b i k0).2 → frM h h2 → Q (some (.int (sp_rivals g hh S a b i k0).1)) h2) : T (d + 6) 200 0 [.ref 58, .int a, .int b, .int i, .int k0, un, un, un] [] h Q := by
  obtain ⟨e0, ea1, ea2, ea3, ea4, ea5, f1, f2, C0, A0, B0, e6, e7, e8, e9, e10⟩ := id m
  have hself0 : hm h (sR S) = hr h (sR S) A0 B0 := by
    unfold hr; rw [m.self, ← e9, hup_id, ← e10, hup_id]
  refine T_eq m.self ?_
  have mm := m.again
  have ho := m.mo.o (R := sR S)
  obtain ⟨ab, be, ln, pa, pb, r5, r6, dg, e1⟩ := id m.mo
  unfold sp_rivals at k
  by_cases q : rg a 0 (hh - 1 : Int) = true
  · by_cases q2 : rg b 0 (hh - 1 : Int) = true
    · by_cases q3 : a = b
      · rw [if_neg (fun z => z.2.2.1 q3)] at k
        simp (disch := first | assumption | omega | decide) only [t200_0, t200_1, t200_2, t200_5, t200_8, t200_9, t200_10, t200_13, t200_16, t200_17, t200_18, t200_21, t200_22, t200_23, t200_26, t200_29, t200_31, t200_32, t200_35, t200_36, t200_38, t200_41, hm_58, hm_59, hm_up, e1, MO, gF_7_0, gF_7_1, gF_7_2, gF_7_3, gF_7_4, gF_7_5, gF_7_6, gF_7_7, aS_n, aS_l, aL_n, aL_l, ln_add, nl_add, ln_mul, nl_mul, nI_add, nI_1, i32_nl, ite_not, lt_nn, lt_nl, lt_ln, eq_nn, eq_nl, eq_ln, if_true, if_false, kil_i, kil_r, kil_l, kil_u, rl_s, rl_n, Nat.zero_add, Nat.lt_irrefl, not_true_eq_false, not_false_eq_true, true_and, dp_1, dp_2, dp_3, dp_4, dp_5, dp_6, dp_7, dp_8, dp_9, dp_10, dp_11, dp_12, dp_13, dp_14, dp_15, dp_16, dp_17, dp_18, dp_19, dp_20, dp_21, dp_22, dp_23, dp_24, dp_25, dp_26, dp_27, dp_28, dp_29, dp_30, dp_31, dp_32, dp_33, dp_34, dp_35, dp_36, dp_37, dp_38, dp_39, E_isHouse m.mo hh0 h4, zb_0, q, q2, q3, E_badAs mm]
        exact kR m 0 k
      · by_cases q4 : rg i 0 (g - 1 : Int) = true
        · by_cases q5 : k0 < -1
          · rw [if_neg (fun z => z.2.2.2.2 q5)] at k
            simp (disch := first | assumption | omega | decide) only [t200_0, t200_1, t200_2, t200_5, t200_8, t200_9, t200_10, t200_13, t200_16, t200_17, t200_18, t200_21, t200_22, t200_23, t200_26, t200_29, t200_31, t200_32, t200_35, t200_36, t200_38, t200_41, hm_58, hm_59, hm_up, e1, MO, gF_7_0, gF_7_1, gF_7_2, gF_7_3, gF_7_4, gF_7_5, gF_7_6, gF_7_7, aS_n, aS_l, aL_n, aL_l, ln_add, nl_add, ln_mul, nl_mul, nI_add, nI_1, i32_nl, ite_not, lt_nn, lt_nl, lt_ln, eq_nn, eq_nl, eq_ln, if_true, if_false, kil_i, kil_r, kil_l, kil_u, rl_s, rl_n, Nat.zero_add, Nat.lt_irrefl, not_true_eq_false, not_false_eq_true, true_and, dp_1, dp_2, dp_3, dp_4, dp_5, dp_6, dp_7, dp_8, dp_9, dp_10, dp_11, dp_12, dp_13, dp_14, dp_15, dp_16, dp_17, dp_18, dp_19, dp_20, dp_21, dp_22, dp_23, dp_24, dp_25, dp_26, dp_27, dp_28, dp_29, dp_30, dp_31, dp_32, dp_33, dp_34, dp_35, dp_36, dp_37, dp_38, dp_39, E_isHouse m.mo hh0 h4, E_isGuest m.mo hg h6, zb_0, q, q2, q3, q4, q5, E_badAs mm]
            exact kR m 0 k
          · rw [if_pos ⟨q, q2, q3, q4, q5⟩] at k
            obtain ⟨x, hx, rfl⟩ := rg_n q
            obtain ⟨y, hy, rfl⟩ := rg_n q2
            obtain ⟨z, hz, rfl⟩ := rg_n q4
            simp (disch := first | assumption | omega | decide) only [nI_clamp] at k
            have q3 : ¬ x = y := fun e => q3 (by rw [e])
            simp (disch := first | assumption | omega | decide) only [t200_0, t200_1, t200_2, t200_5, t200_8, t200_9, t200_10, t200_13, t200_16, t200_17, t200_18, t200_21, t200_22, t200_23, t200_26, t200_29, t200_31, t200_32, t200_35, t200_36, t200_38, t200_41, t200_42, t200_43, hm_58, hm_59, hm_up, e1, MO, gF_7_0, gF_7_1, gF_7_2, gF_7_3, gF_7_4, gF_7_5, gF_7_6, gF_7_7, aS_n, aS_l, aL_n, aL_l, ln_add, nl_add, ln_mul, nl_mul, nI_add, nI_1, i32_nl, ite_not, lt_nn, lt_nl, lt_ln, eq_nn, eq_nl, eq_ln, if_true, if_false, kil_i, kil_r, kil_l, kil_u, rl_s, rl_n, Nat.zero_add, Nat.lt_irrefl, not_true_eq_false, not_false_eq_true, true_and, dp_1, dp_2, dp_3, dp_4, dp_5, dp_6, dp_7, dp_8, dp_9, dp_10, dp_11, dp_12, dp_13, dp_14, dp_15, dp_16, dp_17, dp_18, dp_19, dp_20, dp_21, dp_22, dp_23, dp_24, dp_25, dp_26, dp_27, dp_28, dp_29, dp_30, dp_31, dp_32, dp_33, dp_34, dp_35, dp_36, dp_37, dp_38, dp_39, E_isHouse m.mo hh0 h4, E_isGuest m.mo hg h6, zb_0, q, q2, q3, q4, q5]
            rw [hself0]
            have L := loop_d (P := fun n (s : (Nat → Int32) × (Nat → Int32)) (u : Unit) => T (d + 6) 200 45 [.ref 58, .int (nI x), .int (nI y), .int (nI z), .int k0, .int (nI (1 + n)), un, un] [] (hr h (sR S) s.1 s.2) Q) (F := fun n s => (upd s.1 (1 + n) (rvA (sR S) z x (1 + n)), upd s.2 (1 + n) (rvA (sR S) z y (1 + n)))) (E := fun s => T (d + 6) 200 162 [.ref 58, .int (nI x), .int (nI y), .int (nI z), .int k0, .int (nI 10), un, un] [] (hr h (sR S) s.1 s.2) Q) (g := 9) ?_ ?_
            · refine (L (A0, B0) ()).2 ?_
              obtain ⟨AB, hAB⟩ : ∃ AB, AB = itr (fun n s => (upd s.1 (1 + n) (rvA (sR S) z x (1 + n)), upd s.2 (1 + n) (rvA (sR S) z y (1 + n)))) 9 0 (A0, B0) := ⟨_, rfl⟩
              have eAB : (∀ c, 1 ≤ c → c < 10 → AB.1 c = rvA (sR S) z x c) ∧ (∀ c, 1 ≤ c → c < 10 → AB.2 c = rvA (sR S) z y c) := by
                have I := itr_inv (F := fun n (s : (Nat → Int32) × (Nat → Int32)) => (upd s.1 (1 + n) (rvA (sR S) z x (1 + n)), upd s.2 (1 + n) (rvA (sR S) z y (1 + n)))) (I := fun n s => (∀ c, 1 ≤ c → c < 1 + n → s.1 c = rvA (sR S) z x c) ∧ (∀ c, 1 ≤ c → c < 1 + n → s.2 c = rvA (sR S) z y c)) 9 0 (A0, B0) ⟨fun c h1 h2 => absurd h1 (by omega), fun c h1 h2 => absurd h1 (by omega)⟩ (fun n s _ _ hI => ⟨fun c h1 h2 => by
                  by_cases e : c = 1 + n
                  · subst e; exact upd_eq
                  · exact (upd_ne e).trans (hI.1 c h1 (by omega)), fun c h1 h2 => by
                  by_cases e : c = 1 + n
                  · subst e; exact upd_eq
                  · exact (upd_ne e).trans (hI.2 c h1 (by omega))⟩)
                rw [← hAB] at I
                exact ⟨fun c h1 h2 => I.1 c h1 (by omega), fun c h1 h2 => I.2 c h1 (by omega)⟩
              rw [← hAB]
              have L2 := loop_d (P := fun n (s : Int32 × Int32) (u : Unit) => T (d + 6) 200 173 [.ref 58, .int (nI x), .int (nI y), .int (nI z), .int k0, .int s.1, .int s.2, .int (nI (11 + n))] [] (hr h (sR S) AB.1 AB.2) Q) (F := rvF (rvA (sR S) z x) (rvA (sR S) z y) k0) (E := fun s => Q (some (.int (if k0 = -1 then s.1 else s.2))) (hr h (sR S) AB.1 AB.2)) (g := 89) ?_ ?_
              · simp (disch := first | assumption | omega | decide) only [t200_162, t200_163, t200_165, t200_167, t200_169, t200_171, hm_58, hm_59, hm_up, e1, MO, gF_7_0, gF_7_1, gF_7_2, gF_7_3, gF_7_4, gF_7_5, gF_7_6, gF_7_7, aS_n, aS_l, aL_n, aL_l, ln_add, nl_add, ln_mul, nl_mul, nI_add, nI_1, i32_nl, ite_not, lt_nn, lt_nl, lt_ln, eq_nn, eq_nl, eq_ln, if_true, if_false, kil_i, kil_r, kil_l, kil_u, rl_s, rl_n, Nat.zero_add, Nat.lt_irrefl, not_true_eq_false, not_false_eq_true, true_and, dp_1, dp_2, dp_3, dp_4, dp_5, dp_6, dp_7, dp_8, dp_9, dp_10, dp_11, dp_12, dp_13, dp_14, dp_15, dp_16, dp_17, dp_18, dp_19, dp_20, dp_21, dp_22, dp_23, dp_24, dp_25, dp_26, dp_27, dp_28, dp_29, dp_30, dp_31, dp_32, dp_33, dp_34, dp_35, dp_36, dp_37, dp_38, dp_39]
                exact (L2 (0, -5) ()).2 (kV m k)
              · intro n s u hn
                refine ⟨(), ?_⟩
                have hoy : isO ((hr h (sR S) AB.1 AB.2).2.2 58) 7 := ho
                rw [t200_173, show 11 + (n + 1) = 11 + n + 1 by omega]
                unfold rvF
                by_cases r1 : 0 < (11 + n) % 10
                · have G := @E_rests (d + 2) h (fun r h2 => T (d + 6) 200 202 [.ref 58, .int (nI x), .int (nI y), .int (nI z), .int k0, .int s.1, .int s.2, .int (nI (11 + n))] (rl r []) h2 Q) ((11 + n) / 10) ((11 + n) % 10) AB.1 AB.2 (sR S) ab be ln pa pb r5 r6 dg e1 (by omega) (by omega)
                  rw [rsB_congr eAB.1 eAB.2 (by omega) (by omega) (by omega) (by omega)] at G
                  simp (disch := first | assumption | omega | decide) only [t200_175, t200_177, t200_180, t200_182, t200_184, t200_185, t200_188, t200_189, t200_191, t200_193, t200_194, t200_196, t200_198, t200_199, hm_58, hm_59, hm_up, e1, MO, gF_7_0, gF_7_1, gF_7_2, gF_7_3, gF_7_4, gF_7_5, gF_7_6, gF_7_7, aS_n, aS_l, aL_n, aL_l, ln_add, nl_add, ln_mul, nl_mul, nI_add, nI_1, i32_nl, ite_not, lt_nn, lt_nl, lt_ln, eq_nn, eq_nl, eq_ln, if_true, if_false, kil_i, kil_r, kil_l, kil_u, rl_s, rl_n, Nat.zero_add, Nat.lt_irrefl, not_true_eq_false, not_false_eq_true, true_and, dp_1, dp_2, dp_3, dp_4, dp_5, dp_6, dp_7, dp_8, dp_9, dp_10, dp_11, dp_12, dp_13, dp_14, dp_15, dp_16, dp_17, dp_18, dp_19, dp_20, dp_21, dp_22, dp_23, dp_24, dp_25, dp_26, dp_27, dp_28, dp_29, dp_30, dp_31, dp_32, dp_33, dp_34, dp_35, dp_36, dp_37, dp_38, dp_39, dv_10, rm_10, show ¬ (10 : Int32) = 0 from by decide, show 11 + n < 100 by omega, r1]
                  refine G.trans ?_
                  by_cases r2 : rsB (rvA (sR S) z x) (rvA (sR S) z y) ((11 + n) / 10) ((11 + n) % 10) = true
                  · by_cases r3 : s.1 = k0 <;> simp (disch := first | assumption | omega | decide) only [t200_202, t200_205, t200_207, t200_209, t200_212, t200_214, t200_217, t200_219, t200_221, t200_224, t200_227, hm_58, hm_59, hm_up, e1, MO, gF_7_0, gF_7_1, gF_7_2, gF_7_3, gF_7_4, gF_7_5, gF_7_6, gF_7_7, aS_n, aS_l, aL_n, aL_l, ln_add, nl_add, ln_mul, nl_mul, nI_add, nI_1, i32_nl, ite_not, lt_nn, lt_nl, lt_ln, eq_nn, eq_nl, eq_ln, if_true, if_false, kil_i, kil_r, kil_l, kil_u, rl_s, rl_n, Nat.zero_add, Nat.lt_irrefl, not_true_eq_false, not_false_eq_true, true_and, dp_1, dp_2, dp_3, dp_4, dp_5, dp_6, dp_7, dp_8, dp_9, dp_10, dp_11, dp_12, dp_13, dp_14, dp_15, dp_16, dp_17, dp_18, dp_19, dp_20, dp_21, dp_22, dp_23, dp_24, dp_25, dp_26, dp_27, dp_28, dp_29, dp_30, dp_31, dp_32, dp_33, dp_34, dp_35, dp_36, dp_37, dp_38, dp_39, zI_0, r2, r3, and_self]
                  · simp (disch := first | assumption | omega | decide) only [t200_202, t200_205, t200_207, t200_209, t200_212, t200_214, t200_217, t200_219, t200_221, t200_224, t200_227, hm_58, hm_59, hm_up, e1, MO, gF_7_0, gF_7_1, gF_7_2, gF_7_3, gF_7_4, gF_7_5, gF_7_6, gF_7_7, aS_n, aS_l, aL_n, aL_l, ln_add, nl_add, ln_mul, nl_mul, nI_add, nI_1, i32_nl, ite_not, lt_nn, lt_nl, lt_ln, eq_nn, eq_nl, eq_ln, if_true, if_false, kil_i, kil_r, kil_l, kil_u, rl_s, rl_n, Nat.zero_add, Nat.lt_irrefl, not_true_eq_false, not_false_eq_true, true_and, dp_1, dp_2, dp_3, dp_4, dp_5, dp_6, dp_7, dp_8, dp_9, dp_10, dp_11, dp_12, dp_13, dp_14, dp_15, dp_16, dp_17, dp_18, dp_19, dp_20, dp_21, dp_22, dp_23, dp_24, dp_25, dp_26, dp_27, dp_28, dp_29, dp_30, dp_31, dp_32, dp_33, dp_34, dp_35, dp_36, dp_37, dp_38, dp_39, zI_0, r2, and_false, Bool.false_eq_true]
                · simp (disch := first | assumption | omega | decide) only [t200_175, t200_177, t200_180, t200_182, t200_184, t200_185, t200_224, t200_227, hm_58, hm_59, hm_up, e1, MO, gF_7_0, gF_7_1, gF_7_2, gF_7_3, gF_7_4, gF_7_5, gF_7_6, gF_7_7, aS_n, aS_l, aL_n, aL_l, ln_add, nl_add, ln_mul, nl_mul, nI_add, nI_1, i32_nl, ite_not, lt_nn, lt_nl, lt_ln, eq_nn, eq_nl, eq_ln, if_true, if_false, kil_i, kil_r, kil_l, kil_u, rl_s, rl_n, Nat.zero_add, Nat.lt_irrefl, not_true_eq_false, not_false_eq_true, true_and, dp_1, dp_2, dp_3, dp_4, dp_5, dp_6, dp_7, dp_8, dp_9, dp_10, dp_11, dp_12, dp_13, dp_14, dp_15, dp_16, dp_17, dp_18, dp_19, dp_20, dp_21, dp_22, dp_23, dp_24, dp_25, dp_26, dp_27, dp_28, dp_29, dp_30, dp_31, dp_32, dp_33, dp_34, dp_35, dp_36, dp_37, dp_38, dp_39, dv_10, rm_10, show ¬ (10 : Int32) = 0 from by decide, show 11 + n < 100 by omega, r1, false_and]
              · intro s u
                rw [t200_173]
                by_cases r1 : k0 = -1 <;> simp (disch := first | assumption | omega | decide) only [t200_175, t200_177, t200_230, t200_232, t200_233, t200_236, t200_238, t200_241, t200_243, hm_58, hm_59, hm_up, e1, MO, gF_7_0, gF_7_1, gF_7_2, gF_7_3, gF_7_4, gF_7_5, gF_7_6, gF_7_7, aS_n, aS_l, aL_n, aL_l, ln_add, nl_add, ln_mul, nl_mul, nI_add, nI_1, i32_nl, ite_not, lt_nn, lt_nl, lt_ln, eq_nn, eq_nl, eq_ln, if_true, if_false, kil_i, kil_r, kil_l, kil_u, rl_s, rl_n, Nat.zero_add, Nat.lt_irrefl, not_true_eq_false, not_false_eq_true, true_and, dp_1, dp_2, dp_3, dp_4, dp_5, dp_6, dp_7, dp_8, dp_9, dp_10, dp_11, dp_12, dp_13, dp_14, dp_15, dp_16, dp_17, dp_18, dp_19, dp_20, dp_21, dp_22, dp_23, dp_24, dp_25, dp_26, dp_27, dp_28, dp_29, dp_30, dp_31, dp_32, dp_33, dp_34, dp_35, dp_36, dp_37, dp_38, dp_39, r1]
            · intro n s u hn
              refine ⟨(), ?_⟩
              rw [t200_45, show 1 + (n + 1) = 1 + n + 1 by omega]
              simp (disch := first | assumption | omega | decide) only [t200_47, t200_49, t200_52, t200_53, t200_56, t200_58, t200_59, t200_62, t200_64, t200_65, t200_66, t200_67, t200_68, t200_71, t200_73, t200_74, t200_75, t200_76, t200_77, t200_80, t200_82, t200_83, t200_84, t200_85, t200_87, t200_88, t200_91, t200_93, t200_94, t200_97, t200_100, t200_103, t200_104, t200_105, t200_108, t200_110, t200_111, t200_114, t200_116, t200_117, t200_118, t200_119, t200_120, t200_123, t200_125, t200_126, t200_127, t200_128, t200_129, t200_132, t200_134, t200_135, t200_136, t200_137, t200_139, t200_140, t200_143, t200_145, t200_146, t200_149, t200_152, t200_155, t200_156, t200_159, kil_i, rl_s, nI_1, i32_nl, ite_not, lt_nl, show 1 + n < 10 by omega, if_true, hr_58, hr_59, hr_67, hr_68, hr_a, hr_b, e1, MO_0, MO_16, MO_17, aL_n, aL_l, aS_n, ln_add, nI_add, E_needBy, E_staysBy, E_bits, rvA, dp_1, dp_2, dp_3, dp_4, dp_5]
            · intro s u
              rw [t200_45]
              simp (disch := first | assumption | omega | decide) only [t200_47, t200_49, hm_58, hm_59, hm_up, e1, MO, gF_7_0, gF_7_1, gF_7_2, gF_7_3, gF_7_4, gF_7_5, gF_7_6, gF_7_7, aS_n, aS_l, aL_n, aL_l, ln_add, nl_add, ln_mul, nl_mul, nI_add, nI_1, i32_nl, ite_not, lt_nn, lt_nl, lt_ln, eq_nn, eq_nl, eq_ln, if_true, if_false, kil_i, kil_r, kil_l, kil_u, rl_s, rl_n, Nat.zero_add, Nat.lt_irrefl, not_true_eq_false, not_false_eq_true, true_and, dp_1, dp_2, dp_3, dp_4, dp_5, dp_6, dp_7, dp_8, dp_9, dp_10, dp_11, dp_12, dp_13, dp_14, dp_15, dp_16, dp_17, dp_18, dp_19, dp_20, dp_21, dp_22, dp_23, dp_24, dp_25, dp_26, dp_27, dp_28, dp_29, dp_30, dp_31, dp_32, dp_33, dp_34, dp_35, dp_36, dp_37, dp_38, dp_39]
        · rw [if_neg (fun z => q4 z.2.2.2.1)] at k
          simp (disch := first | assumption | omega | decide) only [t200_0, t200_1, t200_2, t200_5, t200_8, t200_9, t200_10, t200_13, t200_16, t200_17, t200_18, t200_21, t200_22, t200_23, t200_26, t200_29, t200_31, t200_32, t200_35, t200_36, t200_38, t200_41, hm_58, hm_59, hm_up, e1, MO, gF_7_0, gF_7_1, gF_7_2, gF_7_3, gF_7_4, gF_7_5, gF_7_6, gF_7_7, aS_n, aS_l, aL_n, aL_l, ln_add, nl_add, ln_mul, nl_mul, nI_add, nI_1, i32_nl, ite_not, lt_nn, lt_nl, lt_ln, eq_nn, eq_nl, eq_ln, if_true, if_false, kil_i, kil_r, kil_l, kil_u, rl_s, rl_n, Nat.zero_add, Nat.lt_irrefl, not_true_eq_false, not_false_eq_true, true_and, dp_1, dp_2, dp_3, dp_4, dp_5, dp_6, dp_7, dp_8, dp_9, dp_10, dp_11, dp_12, dp_13, dp_14, dp_15, dp_16, dp_17, dp_18, dp_19, dp_20, dp_21, dp_22, dp_23, dp_24, dp_25, dp_26, dp_27, dp_28, dp_29, dp_30, dp_31, dp_32, dp_33, dp_34, dp_35, dp_36, dp_37, dp_38, dp_39, E_isHouse m.mo hh0 h4, E_isGuest m.mo hg h6, zb_0, q, q2, q3, q4, E_badAs mm]
          exact kR m 0 k
    · rw [if_neg (fun z => q2 z.2.1)] at k
      simp (disch := first | assumption | omega | decide) only [t200_0, t200_1, t200_2, t200_5, t200_8, t200_9, t200_10, t200_13, t200_16, t200_17, t200_18, t200_21, t200_22, t200_23, t200_26, t200_29, t200_31, t200_32, t200_35, t200_36, t200_38, t200_41, hm_58, hm_59, hm_up, e1, MO, gF_7_0, gF_7_1, gF_7_2, gF_7_3, gF_7_4, gF_7_5, gF_7_6, gF_7_7, aS_n, aS_l, aL_n, aL_l, ln_add, nl_add, ln_mul, nl_mul, nI_add, nI_1, i32_nl, ite_not, lt_nn, lt_nl, lt_ln, eq_nn, eq_nl, eq_ln, if_true, if_false, kil_i, kil_r, kil_l, kil_u, rl_s, rl_n, Nat.zero_add, Nat.lt_irrefl, not_true_eq_false, not_false_eq_true, true_and, dp_1, dp_2, dp_3, dp_4, dp_5, dp_6, dp_7, dp_8, dp_9, dp_10, dp_11, dp_12, dp_13, dp_14, dp_15, dp_16, dp_17, dp_18, dp_19, dp_20, dp_21, dp_22, dp_23, dp_24, dp_25, dp_26, dp_27, dp_28, dp_29, dp_30, dp_31, dp_32, dp_33, dp_34, dp_35, dp_36, dp_37, dp_38, dp_39, E_isHouse m.mo hh0 h4, zb_0, q, q2, E_badAs mm]
      exact kR m 0 k
  · rw [if_neg (fun z => q z.1)] at k
    simp (disch := first | assumption | omega | decide) only [t200_0, t200_1, t200_2, t200_5, t200_8, t200_9, t200_10, t200_13, t200_16, t200_17, t200_18, t200_21, t200_22, t200_23, t200_26, t200_29, t200_31, t200_32, t200_35, t200_36, t200_38, t200_41, hm_58, hm_59, hm_up, e1, MO, gF_7_0, gF_7_1, gF_7_2, gF_7_3, gF_7_4, gF_7_5, gF_7_6, gF_7_7, aS_n, aS_l, aL_n, aL_l, ln_add, nl_add, ln_mul, nl_mul, nI_add, nI_1, i32_nl, ite_not, lt_nn, lt_nl, lt_ln, eq_nn, eq_nl, eq_ln, if_true, if_false, kil_i, kil_r, kil_l, kil_u, rl_s, rl_n, Nat.zero_add, Nat.lt_irrefl, not_true_eq_false, not_false_eq_true, true_and, dp_1, dp_2, dp_3, dp_4, dp_5, dp_6, dp_7, dp_8, dp_9, dp_10, dp_11, dp_12, dp_13, dp_14, dp_15, dp_16, dp_17, dp_18, dp_19, dp_20, dp_21, dp_22, dp_23, dp_24, dp_25, dp_26, dp_27, dp_28, dp_29, dp_30, dp_31, dp_32, dp_33, dp_34, dp_35, dp_36, dp_37, dp_38, dp_39, E_isHouse m.mo hh0 h4, zb_0, q, E_badAs mm]
    exact kR m 0 k
end PG
