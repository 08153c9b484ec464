/-! the reference's public calls: the first ones -/
section P1
variable {d : Nat} {h : Hp} {Q : Pst} {S : St} {g hh un0 : Nat}
def sp_guest (g : Nat) (S : St) (k s : Int32) : Int32 × St :=
  if rg k 0 5 ∧ rg s 1 30 then (if g = 6 then (-4, refu S 2) else (nI g, stR S (rwG (sR S) k s g))) else (-2, refu S 0)
theorem M_guest {kd s : Int32} (m : ModelAt h S) (hg : sR S 12 = nI g) (h6 : g ≤ 6) (k : ∀ h2, ModelAt h2 (sp_guest g S kd s).2 → frM h h2 → Q (some (.int (sp_guest g S kd s).1)) h2) : T (d + 3) 134 0 [.ref 58, .int kd, .int s] [] h Q := by
  refine T_eq m.self ?_
  have mm := m.again
  have ho := m.mo.o (R := sR S)
  obtain ⟨ab, be, ln, pa, pb, r5, r6, dg, e1⟩ := id m.mo
  unfold sp_guest at k
  by_cases q : rg kd 0 5 = true ∧ rg s 1 30 = true
  · simp only [q, and_self, if_true] at k
    by_cases q2 : g = 6
    · subst q2
      simp only [if_true] at k
      simp (disch := first | assumption | omega | decide) only [t134_0, t134_1, t134_2, t134_3, t134_6, t134_9, t134_10, t134_11, t134_13, t134_16, t134_19, t134_20, t134_22, t134_25, t134_26, t134_27, t134_30, t134_32, t134_33, t134_35, t134_38, t134_39, t134_41, t134_44, t134_45, t134_46, t134_47, t134_48, t134_51, t134_52, t134_55, t134_57, t134_58, t134_59, t134_60, hm_58, hm_59, hm_up, e1, MO, gF_7_0, gF_7_1, gF_7_2, gF_7_3, gF_7_4, gF_7_5, gF_7_6, gF_7_7, aS_n, aS_l, aL_n, aL_l, ln_add, nl_add, ln_mul, nl_mul, nI_add, nI_1, i32_nl, ite_not, lt_nn, lt_nl, lt_ln, eq_nn, eq_nl, eq_ln, if_true, if_false, kil_i, kil_r, kil_l, kil_u, rl_s, rl_n, Nat.zero_add, Nat.lt_irrefl, not_true_eq_false, not_false_eq_true, true_and, dp_1, dp_2, dp_3, dp_4, dp_5, dp_6, dp_7, dp_8, dp_9, dp_10, dp_11, dp_12, dp_13, dp_14, dp_15, dp_16, dp_17, dp_18, dp_19, dp_20, dp_21, dp_22, dp_23, dp_24, dp_25, dp_26, dp_27, dp_28, dp_29, dp_30, dp_31, dp_32, dp_33, dp_34, dp_35, dp_36, dp_37, dp_38, dp_39, E_inL, zb_0, q, hg, E_refF mm]
      exact kR m 2 k
    · simp only [q2, if_false] at k
      have e2 : rwG (sR S) kd s g 12 = nI (g + 1) := by simp only [rwG, upd]; rfl
      have ho2 := m.mo.o (R := rwG (sR S) kd s g)
      simp (disch := first | assumption | omega | decide) only [t134_0, t134_1, t134_2, t134_3, t134_6, t134_9, t134_10, t134_11, t134_13, t134_16, t134_19, t134_20, t134_22, t134_25, t134_26, t134_27, t134_30, t134_32, t134_33, t134_35, t134_38, t134_39, t134_41, t134_44, t134_45, t134_46, t134_47, t134_48, t134_51, t134_52, t134_55, t134_57, t134_58, t134_59, t134_60, hm_58, hm_59, hm_up, e1, MO, gF_7_0, gF_7_1, gF_7_2, gF_7_3, gF_7_4, gF_7_5, gF_7_6, gF_7_7, aS_n, aS_l, aL_n, aL_l, ln_add, nl_add, ln_mul, nl_mul, nI_add, nI_1, i32_nl, ite_not, lt_nn, lt_nl, lt_ln, eq_nn, eq_nl, eq_ln, if_true, if_false, kil_i, kil_r, kil_l, kil_u, rl_s, rl_n, Nat.zero_add, Nat.lt_irrefl, not_true_eq_false, not_false_eq_true, true_and, dp_1, dp_2, dp_3, dp_4, dp_5, dp_6, dp_7, dp_8, dp_9, dp_10, dp_11, dp_12, dp_13, dp_14, dp_15, dp_16, dp_17, dp_18, dp_19, dp_20, dp_21, dp_22, dp_23, dp_24, dp_25, dp_26, dp_27, dp_28, dp_29, dp_30, dp_31, dp_32, dp_33, dp_34, dp_35, dp_36, dp_37, dp_38, dp_39, E_inL, zb_0, q, q2, hg, E_addGuest m.mo hg (by omega), e2]
      rw [show nI (g + 1) - 1 = nI g from nI_pred _]
      exact kW m k
  · simp only [q, if_false] at k
    by_cases q2 : rg kd 0 5 = true
    · have q3 : ¬ rg s 1 30 = true := fun z => q ⟨q2, z⟩
      simp (disch := first | assumption | omega | decide) only [t134_0, t134_1, t134_2, t134_3, t134_6, t134_9, t134_10, t134_11, t134_13, t134_16, t134_19, t134_20, t134_22, t134_25, t134_26, t134_27, t134_30, t134_32, t134_33, t134_35, t134_38, t134_39, t134_41, t134_44, t134_45, t134_46, t134_47, t134_48, t134_51, t134_52, t134_55, t134_57, t134_58, t134_59, t134_60, hm_58, hm_59, hm_up, e1, MO, gF_7_0, gF_7_1, gF_7_2, gF_7_3, gF_7_4, gF_7_5, gF_7_6, gF_7_7, aS_n, aS_l, aL_n, aL_l, ln_add, nl_add, ln_mul, nl_mul, nI_add, nI_1, i32_nl, ite_not, lt_nn, lt_nl, lt_ln, eq_nn, eq_nl, eq_ln, if_true, if_false, kil_i, kil_r, kil_l, kil_u, rl_s, rl_n, Nat.zero_add, Nat.lt_irrefl, not_true_eq_false, not_false_eq_true, true_and, dp_1, dp_2, dp_3, dp_4, dp_5, dp_6, dp_7, dp_8, dp_9, dp_10, dp_11, dp_12, dp_13, dp_14, dp_15, dp_16, dp_17, dp_18, dp_19, dp_20, dp_21, dp_22, dp_23, dp_24, dp_25, dp_26, dp_27, dp_28, dp_29, dp_30, dp_31, dp_32, dp_33, dp_34, dp_35, dp_36, dp_37, dp_38, dp_39, E_inL, zb_0, q2, q3, E_refB mm]
      exact kR m 0 k
    · simp (disch := first | assumption | omega | decide) only [t134_0, t134_1, t134_2, t134_3, t134_6, t134_9, t134_10, t134_11, t134_13, t134_16, t134_19, t134_20, t134_22, t134_25, t134_26, t134_27, t134_30, t134_32, t134_33, t134_35, t134_38, t134_39, t134_41, t134_44, t134_45, t134_46, t134_47, t134_48, t134_51, t134_52, t134_55, t134_57, t134_58, t134_59, t134_60, hm_58, hm_59, hm_up, e1, MO, gF_7_0, gF_7_1, gF_7_2, gF_7_3, gF_7_4, gF_7_5, gF_7_6, gF_7_7, aS_n, aS_l, aL_n, aL_l, ln_add, nl_add, ln_mul, nl_mul, nI_add, nI_1, i32_nl, ite_not, lt_nn, lt_nl, lt_ln, eq_nn, eq_nl, eq_ln, if_true, if_false, kil_i, kil_r, kil_l, kil_u, rl_s, rl_n, Nat.zero_add, Nat.lt_irrefl, not_true_eq_false, not_false_eq_true, true_and, dp_1, dp_2, dp_3, dp_4, dp_5, dp_6, dp_7, dp_8, dp_9, dp_10, dp_11, dp_12, dp_13, dp_14, dp_15, dp_16, dp_17, dp_18, dp_19, dp_20, dp_21, dp_22, dp_23, dp_24, dp_25, dp_26, dp_27, dp_28, dp_29, dp_30, dp_31, dp_32, dp_33, dp_34, dp_35, dp_36, dp_37, dp_38, dp_39, E_inL, zb_0, q2, E_refB mm]
      exact kR m 0 k
def sp_house (hh : Nat) (S : St) (k s : Int32) : Int32 × St :=
  if rg k 0 5 ∧ rg s 1 30 then (if hh = 4 then (-4, refu S 2) else (nI hh, stR S (rwH (sR S) k s hh))) else (-2, refu S 0)
theorem M_house {kd s : Int32} (m : ModelAt h S) (hg : sR S 25 = nI hh) (h6 : hh ≤ 4) (k : ∀ h2, ModelAt h2 (sp_house hh S kd s).2 → frM h h2 → Q (some (.int (sp_house hh S kd s).1)) h2) : T (d + 3) 136 0 [.ref 58, .int kd, .int s] [] h Q := by
  refine T_eq m.self ?_
  have mm := m.again
  have ho := m.mo.o (R := sR S)
  obtain ⟨ab, be, ln, pa, pb, r5, r6, dg, e1⟩ := id m.mo
  unfold sp_house at k
  by_cases q : rg kd 0 5 = true ∧ rg s 1 30 = true
  · simp only [q, and_self, if_true] at k
    by_cases q2 : hh = 4
    · subst q2
      simp only [if_true] at k
      simp (disch := first | assumption | omega | decide) only [t136_0, t136_1, t136_2, t136_3, t136_6, t136_9, t136_10, t136_11, t136_13, t136_16, t136_19, t136_20, t136_22, t136_25, t136_26, t136_27, t136_30, t136_32, t136_33, t136_34, t136_37, t136_38, t136_40, t136_43, t136_44, t136_45, t136_46, t136_47, t136_50, t136_51, t136_54, t136_56, t136_57, t136_58, t136_59, hm_58, hm_59, hm_up, e1, MO, gF_7_0, gF_7_1, gF_7_2, gF_7_3, gF_7_4, gF_7_5, gF_7_6, gF_7_7, aS_n, aS_l, aL_n, aL_l, ln_add, nl_add, ln_mul, nl_mul, nI_add, nI_1, i32_nl, ite_not, lt_nn, lt_nl, lt_ln, eq_nn, eq_nl, eq_ln, if_true, if_false, kil_i, kil_r, kil_l, kil_u, rl_s, rl_n, Nat.zero_add, Nat.lt_irrefl, not_true_eq_false, not_false_eq_true, true_and, dp_1, dp_2, dp_3, dp_4, dp_5, dp_6, dp_7, dp_8, dp_9, dp_10, dp_11, dp_12, dp_13, dp_14, dp_15, dp_16, dp_17, dp_18, dp_19, dp_20, dp_21, dp_22, dp_23, dp_24, dp_25, dp_26, dp_27, dp_28, dp_29, dp_30, dp_31, dp_32, dp_33, dp_34, dp_35, dp_36, dp_37, dp_38, dp_39, E_inL, zb_0, q, hg, E_refF mm]
      exact kR m 2 k
    · simp only [q2, if_false] at k
      have e2 : rwH (sR S) kd s hh 25 = nI (hh + 1) := by simp only [rwH, upd]; rfl
      have ho2 := m.mo.o (R := rwH (sR S) kd s hh)
      simp (disch := first | assumption | omega | decide) only [t136_0, t136_1, t136_2, t136_3, t136_6, t136_9, t136_10, t136_11, t136_13, t136_16, t136_19, t136_20, t136_22, t136_25, t136_26, t136_27, t136_30, t136_32, t136_33, t136_34, t136_37, t136_38, t136_40, t136_43, t136_44, t136_45, t136_46, t136_47, t136_50, t136_51, t136_54, t136_56, t136_57, t136_58, t136_59, hm_58, hm_59, hm_up, e1, MO, gF_7_0, gF_7_1, gF_7_2, gF_7_3, gF_7_4, gF_7_5, gF_7_6, gF_7_7, aS_n, aS_l, aL_n, aL_l, ln_add, nl_add, ln_mul, nl_mul, nI_add, nI_1, i32_nl, ite_not, lt_nn, lt_nl, lt_ln, eq_nn, eq_nl, eq_ln, if_true, if_false, kil_i, kil_r, kil_l, kil_u, rl_s, rl_n, Nat.zero_add, Nat.lt_irrefl, not_true_eq_false, not_false_eq_true, true_and, dp_1, dp_2, dp_3, dp_4, dp_5, dp_6, dp_7, dp_8, dp_9, dp_10, dp_11, dp_12, dp_13, dp_14, dp_15, dp_16, dp_17, dp_18, dp_19, dp_20, dp_21, dp_22, dp_23, dp_24, dp_25, dp_26, dp_27, dp_28, dp_29, dp_30, dp_31, dp_32, dp_33, dp_34, dp_35, dp_36, dp_37, dp_38, dp_39, E_inL, zb_0, q, q2, hg, E_addHouse m.mo hg (by omega), e2]
      rw [show nI (hh + 1) - 1 = nI hh from nI_pred _]
      exact kW m k
  · simp only [q, if_false] at k
    by_cases q2 : rg kd 0 5 = true
    · have q3 : ¬ rg s 1 30 = true := fun z => q ⟨q2, z⟩
      simp (disch := first | assumption | omega | decide) only [t136_0, t136_1, t136_2, t136_3, t136_6, t136_9, t136_10, t136_11, t136_13, t136_16, t136_19, t136_20, t136_22, t136_25, t136_26, t136_27, t136_30, t136_32, t136_33, t136_34, t136_37, t136_38, t136_40, t136_43, t136_44, t136_45, t136_46, t136_47, t136_50, t136_51, t136_54, t136_56, t136_57, t136_58, t136_59, hm_58, hm_59, hm_up, e1, MO, gF_7_0, gF_7_1, gF_7_2, gF_7_3, gF_7_4, gF_7_5, gF_7_6, gF_7_7, aS_n, aS_l, aL_n, aL_l, ln_add, nl_add, ln_mul, nl_mul, nI_add, nI_1, i32_nl, ite_not, lt_nn, lt_nl, lt_ln, eq_nn, eq_nl, eq_ln, if_true, if_false, kil_i, kil_r, kil_l, kil_u, rl_s, rl_n, Nat.zero_add, Nat.lt_irrefl, not_true_eq_false, not_false_eq_true, true_and, dp_1, dp_2, dp_3, dp_4, dp_5, dp_6, dp_7, dp_8, dp_9, dp_10, dp_11, dp_12, dp_13, dp_14, dp_15, dp_16, dp_17, dp_18, dp_19, dp_20, dp_21, dp_22, dp_23, dp_24, dp_25, dp_26, dp_27, dp_28, dp_29, dp_30, dp_31, dp_32, dp_33, dp_34, dp_35, dp_36, dp_37, dp_38, dp_39, E_inL, zb_0, q2, q3, E_refB mm]
      exact kR m 0 k
    · simp (disch := first | assumption | omega | decide) only [t136_0, t136_1, t136_2, t136_3, t136_6, t136_9, t136_10, t136_11, t136_13, t136_16, t136_19, t136_20, t136_22, t136_25, t136_26, t136_27, t136_30, t136_32, t136_33, t136_34, t136_37, t136_38, t136_40, t136_43, t136_44, t136_45, t136_46, t136_47, t136_50, t136_51, t136_54, t136_56, t136_57, t136_58, t136_59, hm_58, hm_59, hm_up, e1, MO, gF_7_0, gF_7_1, gF_7_2, gF_7_3, gF_7_4, gF_7_5, gF_7_6, gF_7_7, aS_n, aS_l, aL_n, aL_l, ln_add, nl_add, ln_mul, nl_mul, nI_add, nI_1, i32_nl, ite_not, lt_nn, lt_nl, lt_ln, eq_nn, eq_nl, eq_ln, if_true, if_false, kil_i, kil_r, kil_l, kil_u, rl_s, rl_n, Nat.zero_add, Nat.lt_irrefl, not_true_eq_false, not_false_eq_true, true_and, dp_1, dp_2, dp_3, dp_4, dp_5, dp_6, dp_7, dp_8, dp_9, dp_10, dp_11, dp_12, dp_13, dp_14, dp_15, dp_16, dp_17, dp_18, dp_19, dp_20, dp_21, dp_22, dp_23, dp_24, dp_25, dp_26, dp_27, dp_28, dp_29, dp_30, dp_31, dp_32, dp_33, dp_34, dp_35, dp_36, dp_37, dp_38, dp_39, E_inL, zb_0, q2, E_refB mm]
      exact kR m 0 k
/-- a byte more; none -/
def stX (S : St) (X : Nat → Int32) (n : Int32) : St := (S.1, S.2.1, S.2.2.1, S.2.2.2.1, S.2.2.2.2.1, X, n)
def sp_type (n : Nat) (S : St) (c : Int32) : Int32 × St :=
  if rg c 0 127 then (if n = 150 then (-4, refu S 2) else (nI (n + 1), stX S (upd (sT S) n c) (nI (n + 1)))) else (-2, refu S 0)
theorem M_type {c : Int32} {n : Nat} (m : ModelAt h S) (hn : sL S = nI n) (h6 : n ≤ 150) (k : ∀ h2, ModelAt h2 (sp_type n S c).2 → frM h h2 → Q (some (.int (sp_type n S c).1)) h2) : T (d + 3) 137 0 [.ref 58, .int c] [] h Q := by
  refine T_eq m.self ?_
  have mm := m.again
  have ho := m.mo.o (R := sR S)
  obtain ⟨⟨pa, pb, r5, r6, dg, e1⟩, e2, e3, e4, e5, e6, e7⟩ := id m
  have e5b : (hm h (sR S)).2.2 62 = oI 150 (sT S) := e5
  unfold sp_type at k
  by_cases q : rg c 0 127 = true
  · simp only [q, if_true] at k
    by_cases q2 : n = 150
    · subst q2
      simp only [if_true] at k
      simp (disch := first | assumption | omega | decide) only [t137_0, t137_1, t137_2, t137_4, t137_7, t137_10, t137_11, t137_13, t137_16, t137_17, t137_18, t137_21, t137_24, t137_27, t137_28, t137_30, t137_33, t137_34, t137_35, t137_38, t137_39, t137_42, t137_43, t137_44, t137_45, t137_46, t137_49, t137_50, t137_51, t137_54, t137_55, t137_58, hm_58, hm_59, hm_up, e1, MO, gF_7_0, gF_7_1, gF_7_2, gF_7_3, gF_7_4, gF_7_5, gF_7_6, gF_7_7, aS_n, aS_l, aL_n, aL_l, ln_add, nl_add, ln_mul, nl_mul, nI_add, nI_1, i32_nl, ite_not, lt_nn, lt_nl, lt_ln, eq_nn, eq_nl, eq_ln, if_true, if_false, kil_i, kil_r, kil_l, kil_u, rl_s, rl_n, Nat.zero_add, Nat.lt_irrefl, not_true_eq_false, not_false_eq_true, true_and, dp_1, dp_2, dp_3, dp_4, dp_5, dp_6, dp_7, dp_8, dp_9, dp_10, dp_11, dp_12, dp_13, dp_14, dp_15, dp_16, dp_17, dp_18, dp_19, dp_20, dp_21, dp_22, dp_23, dp_24, dp_25, dp_26, dp_27, dp_28, dp_29, dp_30, dp_31, dp_32, dp_33, dp_34, dp_35, dp_36, dp_37, dp_38, dp_39, E_inL, zb_0, q, hn, E_refF mm]
      exact kR m 2 k
    · simp only [q2, if_false] at k
      simp (disch := first | assumption | omega | decide) only [t137_0, t137_1, t137_2, t137_4, t137_7, t137_10, t137_11, t137_13, t137_16, t137_17, t137_18, t137_21, t137_24, t137_27, t137_28, t137_30, t137_33, t137_34, t137_35, t137_38, t137_39, t137_42, t137_43, t137_44, t137_45, t137_46, t137_49, t137_50, t137_51, t137_54, t137_55, t137_58, hm_58, hm_59, hm_up, e1, MO, gF_7_0, gF_7_1, gF_7_2, gF_7_3, gF_7_4, gF_7_5, gF_7_6, gF_7_7, aS_n, aS_l, aL_n, aL_l, ln_add, nl_add, ln_mul, nl_mul, nI_add, nI_1, i32_nl, ite_not, lt_nn, lt_nl, lt_ln, eq_nn, eq_nl, eq_ln, if_true, if_false, kil_i, kil_r, kil_l, kil_u, rl_s, rl_n, Nat.zero_add, Nat.lt_irrefl, not_true_eq_false, not_false_eq_true, true_and, dp_1, dp_2, dp_3, dp_4, dp_5, dp_6, dp_7, dp_8, dp_9, dp_10, dp_11, dp_12, dp_13, dp_14, dp_15, dp_16, dp_17, dp_18, dp_19, dp_20, dp_21, dp_22, dp_23, dp_24, dp_25, dp_26, dp_27, dp_28, dp_29, dp_30, dp_31, dp_32, dp_33, dp_34, dp_35, dp_36, dp_37, dp_38, dp_39, E_inL, zb_0, q, q2, hn, e5b, hup_s, hup_c, show ¬ 62 = 58 from by decide, show ¬ 58 = 62 from by decide, pF_7_6]
      refine k _ ⟨⟨pa, pb, r5, r6, dg, ?_⟩, ?_⟩ ((frM.rf.row.up (by decide) (by decide)).up (by decide) (by decide))
      · rfl
      · exact ⟨rfl, e3, e4, rfl, e6, e7⟩
  · simp only [q, if_false] at k
    simp (disch := first | assumption | omega | decide) only [t137_0, t137_1, t137_2, t137_4, t137_7, t137_10, t137_11, t137_13, t137_16, t137_17, t137_18, t137_21, t137_24, t137_27, t137_28, t137_30, t137_33, t137_34, t137_35, t137_38, t137_39, t137_42, t137_43, t137_44, t137_45, t137_46, t137_49, t137_50, t137_51, t137_54, t137_55, t137_58, hm_58, hm_59, hm_up, e1, MO, gF_7_0, gF_7_1, gF_7_2, gF_7_3, gF_7_4, gF_7_5, gF_7_6, gF_7_7, aS_n, aS_l, aL_n, aL_l, ln_add, nl_add, ln_mul, nl_mul, nI_add, nI_1, i32_nl, ite_not, lt_nn, lt_nl, lt_ln, eq_nn, eq_nl, eq_ln, if_true, if_false, kil_i, kil_r, kil_l, kil_u, rl_s, rl_n, Nat.zero_add, Nat.lt_irrefl, not_true_eq_false, not_false_eq_true, true_and, dp_1, dp_2, dp_3, dp_4, dp_5, dp_6, dp_7, dp_8, dp_9, dp_10, dp_11, dp_12, dp_13, dp_14, dp_15, dp_16, dp_17, dp_18, dp_19, dp_20, dp_21, dp_22, dp_23, dp_24, dp_25, dp_26, dp_27, dp_28, dp_29, dp_30, dp_31, dp_32, dp_33, dp_34, dp_35, dp_36, dp_37, dp_38, dp_39, E_inL, zb_0, q, E_refB mm]
    exact kR m 0 k
def sp_clear (S : St) : Int32 × St := (sL S, stX S (sT S) 0)
theorem M_clear (m : ModelAt h S) (k : ∀ h2, ModelAt h2 (sp_clear S).2 → frM h h2 → Q (some (.int (sp_clear S).1)) h2) : T (d + 1) 138 0 [.ref 58, un] [] h Q := by
  refine T_eq m.self ?_
  obtain ⟨⟨pa, pb, r5, r6, dg, e1⟩, e2, e3, e4, e5, e6, e7⟩ := id m
  simp (disch := first | assumption | omega | decide) only [t138_0, t138_1, t138_4, t138_5, t138_6, t138_7, t138_10, t138_11, hm_58, hm_59, hm_up, e1, MO, gF_7_0, gF_7_1, gF_7_2, gF_7_3, gF_7_4, gF_7_5, gF_7_6, gF_7_7, aS_n, aS_l, aL_n, aL_l, ln_add, nl_add, ln_mul, nl_mul, nI_add, nI_1, i32_nl, ite_not, lt_nn, lt_nl, lt_ln, eq_nn, eq_nl, eq_ln, if_true, if_false, kil_i, kil_r, kil_l, kil_u, rl_s, rl_n, Nat.zero_add, Nat.lt_irrefl, not_true_eq_false, not_false_eq_true, true_and, dp_1, dp_2, dp_3, dp_4, dp_5, dp_6, dp_7, dp_8, dp_9, dp_10, dp_11, dp_12, dp_13, dp_14, dp_15, dp_16, dp_17, dp_18, dp_19, dp_20, dp_21, dp_22, dp_23, dp_24, dp_25, dp_26, dp_27, dp_28, dp_29, dp_30, dp_31, dp_32, dp_33, dp_34, dp_35, dp_36, dp_37, dp_38, dp_39, pF_7_6]
  exact k _ ⟨⟨pa, pb, r5, r6, dg, rfl⟩, rfl, e3, e4, e5, e6, e7⟩ (frM.rf.row.up (by decide) (by decide))
end P1
