/-! the class's public calls: evenings -/
theorem alj_alk {R : Nat → Int32} {hh b : Nat} (h4 : hh ≤ 4) (e : ∀ j, hh ≤ j → j < 4 → R (b + 6 + j) = 0) : alj R hh b = alk R b := by
  unfold alj alk
  match hh, h4 with
  | 0, _ => rw [e 0 (by omega) (by omega), e 1 (by omega) (by omega), e 2 (by omega) (by omega), e 3 (by omega) (by omega)]; rfl
  | 1, _ => rw [e 1 (by omega) (by omega), e 2 (by omega) (by omega), e 3 (by omega) (by omega)]; simp only [itr, Int32.add_zero]
  | 2, _ => rw [e 2 (by omega) (by omega), e 3 (by omega) (by omega)]; simp only [itr, Int32.add_zero]
  | 3, _ => rw [e 3 (by omega) (by omega)]; simp only [itr, Int32.add_zero]
  | 4, _ => simp only [itr]
theorem RI.z4 {R : Nat → Int32} {g hh sn nn mn u : Nat} (r : RI R g hh sn nn mn u) : ∀ j, hh ≤ j → j < 4 → R (0 + 6 + j) = 0 := by
  intro j h1 h2
  obtain ⟨l, z1, z2, z3⟩ := r.2.2.2.2.2.2.1.2.1 j h2
  rw [Nat.zero_add, z2, z3 h1]; rfl
theorem RI.l4 {R : Nat → Int32} {g hh sn nn mn u : Nat} (r : RI R g hh sn nn mn u) : ∀ j, j < hh → ∃ l, l ≤ 9999 ∧ R (0 + 6 + j) = nI l := by
  intro j h1
  obtain ⟨l, z1, z2, z3⟩ := r.2.2.2.2.2.2.1.2.1 j (by have := r.2.1.2; omega)
  exact ⟨l, z1, by rw [Nat.zero_add]; exact z2⟩
section X3
variable {d : Nat} {h : Hp} {S : St} {g hh sn nn mn un0 n : Nat} {Q : Pst}
theorem X_calls {i j : Int32} (c : ClsAt h S g hh sn nn mn un0 n) (k : ∀ h2, CAx h2 (sp_calls g hh un0 S i j).2 → frC h h2 → Q (some (.int (sp_calls g hh un0 S i j).1)) h2) : T (d + 9) 81 0 [.ref 13, .int i, .int j] [] h Q := by
  obtain ⟨ab, be, V, O, D, I, c1, c2, cb, ri, sm⟩ := c
  refine T_eq (hX_self c1 c2) ?_
  have re := sm.rl ri
  have h6 := ri.1.2
  have h4 := ri.2.1.2
  have h8 := ri.2.2.2.2.2.1.2
  unfold sp_calls at k
  by_cases q : rg i 0 (g - 1 : Int) = true ∧ rg j 0 (hh - 1 : Int) = true
  · rw [if_pos q] at k
    obtain ⟨q1, q2⟩ := q
    obtain ⟨a, ha, rfl⟩ := rg_n q1
    obtain ⟨b, hb, rfl⟩ := rg_n q2
    simp (disch := first | assumption | omega | decide) only [nI_clamp, Nat.zero_add] at k
    obtain ⟨y1, y2, y3⟩ := sm.2.2.1 a ha
    by_cases q3 : sR S a = nI b
    · rw [if_pos q3] at k
      simp (disch := first | assumption | omega | decide | exact hX_o13 | exact hU_o | exact hX_o45 | exact hX_o47 | exact hX_o49 | exact hX_o54 | exact hU_o7 | exact hU_o9 | exact hU_o11 | exact hU_o13) only [t81_0, t81_1, t81_4, t81_5, t81_8, t81_11, t81_12, t81_15, t81_16, t81_19, t81_22, t81_23, t81_25, t81_28, t81_29, t81_30, t81_33, t81_36, t81_37, t81_40, t81_41, t81_44, t81_45, t81_47, t81_50, t81_51, t81_52, t81_55, t81_58, t81_59, t81_62, t81_65, t81_66, t81_67, t81_70, t81_71, t81_74, t81_75, t81_76, t81_79, hC_13, hC_45, hC_47, hC_49, hC_54, gF_6_0, gF_6_1, gF_6_2, gF_6_3, gF_6_4, gF_6_5, gF_6_6, gF_6_7, gF_6_8, gF_6_9, hU_0, hU_7, hU_9, hU_11, hU_13, gF_5_0, gF_5_1, gF_5_2, gF_5_3, gF_5_4, gF_5_5, gF_5_6, gF_5_7, gF_5_8, gF_5_9, gF_5_10, gF_5_11, gF_5_12, gF_5_13, gF_3_0, gF_3_1, gF_3_2, gF_3_3, ln_add, nl_add, ln_mul, nl_mul, nI_add, nI_1, i32_nl, ite_not, lt_nn, lt_nl, lt_ln, eq_nn, eq_nl, eq_ln, if_true, if_false, kil_i, kil_r, kil_l, kil_u, rl_s, rl_n, Nat.zero_add, Nat.lt_irrefl, not_true_eq_false, not_false_eq_true, true_and, dp_1, dp_2, dp_3, dp_4, dp_5, dp_6, dp_7, dp_8, dp_9, dp_10, dp_11, dp_12, dp_13, dp_14, dp_15, dp_16, dp_17, dp_18, dp_19, dp_20, dp_21, dp_22, dp_23, dp_24, dp_25, dp_26, dp_27, dp_28, dp_29, dp_30, dp_31, dp_32, dp_33, dp_34, dp_35, dp_36, dp_37, dp_38, dp_39, U_hasGuest re, U_hasHouse re, zb_0, q1, q2, GX_3 (show a < 6 by omega), y3, q3, C_refN]
      exact kcR cb ri sm 1 k
    · rw [if_neg q3] at k
      have ri2 := RI_go (i := a) (x := nI b) (RI_keep ri) ha (Or.inr ⟨b, hb, rfl⟩)
      have sm2 := SM_go (i := a) (x := nI b) (RI_keep ri) (SM_keep ri sm) ha
      have re2 := sm2.rl ri2
      have es : sts (upd (rwP (sR S) un0) a (nI b)) a b (upd (rwP (sR S) un0) a (nI b) 10) = sts (sR S) a b (sR S 10) := by
        have e : ∀ k, 6 ≤ k → k < 111 → upd (rwP (sR S) un0) a (nI b) k = sR S k := fun k h1 h2 => by rw [upd_ne (by omega), rwP_o h8 h2]
        rw [sts_congr (e _ (by omega) (by omega)) (e _ (by omega) (by omega)) (e _ (by omega) (by omega)) (e _ (by omega) (by omega)), e 10 (by omega) (by omega)]
      have hu : D 13 0 = nI un0 := sm.2.1.2.2.2.trans ri.2.2.2.2.2.1.1
      simp (disch := first | assumption | omega | decide | exact hX_o13 | exact hU_o | exact hX_o45 | exact hX_o47 | exact hX_o49 | exact hX_o54 | exact hU_o7 | exact hU_o9 | exact hU_o11 | exact hU_o13) only [t81_0, t81_1, t81_4, t81_5, t81_8, t81_11, t81_12, t81_15, t81_16, t81_19, t81_22, t81_23, t81_25, t81_28, t81_29, t81_30, t81_33, t81_36, t81_37, t81_40, t81_41, t81_44, t81_45, t81_47, t81_50, t81_51, t81_52, t81_55, t81_58, t81_59, t81_62, t81_65, t81_66, t81_67, t81_70, t81_71, t81_74, t81_75, t81_76, t81_79, hC_13, hC_45, hC_47, hC_49, hC_54, gF_6_0, gF_6_1, gF_6_2, gF_6_3, gF_6_4, gF_6_5, gF_6_6, gF_6_7, gF_6_8, gF_6_9, hU_0, hU_7, hU_9, hU_11, hU_13, gF_5_0, gF_5_1, gF_5_2, gF_5_3, gF_5_4, gF_5_5, gF_5_6, gF_5_7, gF_5_8, gF_5_9, gF_5_10, gF_5_11, gF_5_12, gF_5_13, gF_3_0, gF_3_1, gF_3_2, gF_3_3, ln_add, nl_add, ln_mul, nl_mul, nI_add, nI_1, i32_nl, ite_not, lt_nn, lt_nl, lt_ln, eq_nn, eq_nl, eq_ln, if_true, if_false, kil_i, kil_r, kil_l, kil_u, rl_s, rl_n, Nat.zero_add, Nat.lt_irrefl, not_true_eq_false, not_false_eq_true, true_and, dp_1, dp_2, dp_3, dp_4, dp_5, dp_6, dp_7, dp_8, dp_9, dp_10, dp_11, dp_12, dp_13, dp_14, dp_15, dp_16, dp_17, dp_18, dp_19, dp_20, dp_21, dp_22, dp_23, dp_24, dp_25, dp_26, dp_27, dp_28, dp_29, dp_30, dp_31, dp_32, dp_33, dp_34, dp_35, dp_36, dp_37, dp_38, dp_39, U_hasGuest re, U_hasHouse re, zb_0, q1, q2, GX_3 (show a < 6 by omega), y3, q3, U_keepStep hu h8, PX_3 (show a < 6 by omega), U_stayBits re2 ha hb, es]
      exact kcW cb (fun k h1 h2 => by rw [upd_ne (by omega), rwP_hi h8 h1]) ri2 sm2 k
  · rw [if_neg q] at k
    by_cases q2 : rg i 0 (g - 1 : Int) = true
    · have q3 : ¬ rg j 0 (hh - 1 : Int) = true := fun z => q ⟨q2, z⟩
      simp (disch := first | assumption | omega | decide | exact hX_o13 | exact hU_o | exact hX_o45 | exact hX_o47 | exact hX_o49 | exact hX_o54 | exact hU_o7 | exact hU_o9 | exact hU_o11 | exact hU_o13) only [t81_0, t81_1, t81_4, t81_5, t81_8, t81_11, t81_12, t81_15, t81_16, t81_19, t81_22, t81_23, t81_25, t81_28, t81_29, t81_30, t81_33, t81_36, t81_37, t81_40, t81_41, t81_44, t81_45, t81_47, t81_50, t81_51, t81_52, t81_55, t81_58, t81_59, t81_62, t81_65, t81_66, t81_67, t81_70, t81_71, t81_74, t81_75, t81_76, t81_79, hC_13, hC_45, hC_47, hC_49, hC_54, gF_6_0, gF_6_1, gF_6_2, gF_6_3, gF_6_4, gF_6_5, gF_6_6, gF_6_7, gF_6_8, gF_6_9, hU_0, hU_7, hU_9, hU_11, hU_13, gF_5_0, gF_5_1, gF_5_2, gF_5_3, gF_5_4, gF_5_5, gF_5_6, gF_5_7, gF_5_8, gF_5_9, gF_5_10, gF_5_11, gF_5_12, gF_5_13, gF_3_0, gF_3_1, gF_3_2, gF_3_3, ln_add, nl_add, ln_mul, nl_mul, nI_add, nI_1, i32_nl, ite_not, lt_nn, lt_nl, lt_ln, eq_nn, eq_nl, eq_ln, if_true, if_false, kil_i, kil_r, kil_l, kil_u, rl_s, rl_n, Nat.zero_add, Nat.lt_irrefl, not_true_eq_false, not_false_eq_true, true_and, dp_1, dp_2, dp_3, dp_4, dp_5, dp_6, dp_7, dp_8, dp_9, dp_10, dp_11, dp_12, dp_13, dp_14, dp_15, dp_16, dp_17, dp_18, dp_19, dp_20, dp_21, dp_22, dp_23, dp_24, dp_25, dp_26, dp_27, dp_28, dp_29, dp_30, dp_31, dp_32, dp_33, dp_34, dp_35, dp_36, dp_37, dp_38, dp_39, U_hasGuest re, U_hasHouse re, zb_0, q2, q3, C_refB, Bool.false_eq_true]
      exact kcR cb ri sm 0 k
    · simp (disch := first | assumption | omega | decide | exact hX_o13 | exact hU_o | exact hX_o45 | exact hX_o47 | exact hX_o49 | exact hX_o54 | exact hU_o7 | exact hU_o9 | exact hU_o11 | exact hU_o13) only [t81_0, t81_1, t81_4, t81_5, t81_8, t81_11, t81_12, t81_15, t81_16, t81_19, t81_22, t81_23, t81_25, t81_28, t81_29, t81_30, t81_33, t81_36, t81_37, t81_40, t81_41, t81_44, t81_45, t81_47, t81_50, t81_51, t81_52, t81_55, t81_58, t81_59, t81_62, t81_65, t81_66, t81_67, t81_70, t81_71, t81_74, t81_75, t81_76, t81_79, hC_13, hC_45, hC_47, hC_49, hC_54, gF_6_0, gF_6_1, gF_6_2, gF_6_3, gF_6_4, gF_6_5, gF_6_6, gF_6_7, gF_6_8, gF_6_9, hU_0, hU_7, hU_9, hU_11, hU_13, gF_5_0, gF_5_1, gF_5_2, gF_5_3, gF_5_4, gF_5_5, gF_5_6, gF_5_7, gF_5_8, gF_5_9, gF_5_10, gF_5_11, gF_5_12, gF_5_13, gF_3_0, gF_3_1, gF_3_2, gF_3_3, ln_add, nl_add, ln_mul, nl_mul, nI_add, nI_1, i32_nl, ite_not, lt_nn, lt_nl, lt_ln, eq_nn, eq_nl, eq_ln, if_true, if_false, kil_i, kil_r, kil_l, kil_u, rl_s, rl_n, Nat.zero_add, Nat.lt_irrefl, not_true_eq_false, not_false_eq_true, true_and, dp_1, dp_2, dp_3, dp_4, dp_5, dp_6, dp_7, dp_8, dp_9, dp_10, dp_11, dp_12, dp_13, dp_14, dp_15, dp_16, dp_17, dp_18, dp_19, dp_20, dp_21, dp_22, dp_23, dp_24, dp_25, dp_26, dp_27, dp_28, dp_29, dp_30, dp_31, dp_32, dp_33, dp_34, dp_35, dp_36, dp_37, dp_38, dp_39, U_hasGuest re, U_hasHouse re, zb_0, q2, C_refB, Bool.false_eq_true]
      exact kcR cb ri sm 0 k
theorem X_leaves {i : Int32} (c : ClsAt h S g hh sn nn mn un0 n) (k : ∀ h2, CAx h2 (sp_leaves g un0 S i).2 → frC h h2 → Q (some (.int (sp_leaves g un0 S i).1)) h2) : T (d + 9) 82 0 [.ref 13, .int i, un] [] h Q := by
  obtain ⟨ab, be, V, O, D, I, c1, c2, cb, ri, sm⟩ := c
  refine T_eq (hX_self c1 c2) ?_
  have re := sm.rl ri
  have h6 := ri.1.2
  have h8 := ri.2.2.2.2.2.1.2
  unfold sp_leaves at k
  by_cases q1 : rg i 0 (g - 1 : Int) = true
  · rw [if_pos q1] at k
    obtain ⟨a, ha, rfl⟩ := rg_n q1
    simp (disch := first | assumption | omega | decide) only [nI_clamp, Nat.zero_add] at k
    obtain ⟨y1, y2, y3⟩ := sm.2.2.1 a ha
    by_cases q3 : sR S a = -1
    · rw [if_pos q3] at k
      simp (disch := first | assumption | omega | decide | exact hX_o13 | exact hU_o | exact hX_o45 | exact hX_o47 | exact hX_o49 | exact hX_o54 | exact hU_o7 | exact hU_o9 | exact hU_o11 | exact hU_o13) only [t82_0, t82_1, t82_4, t82_5, t82_8, t82_11, t82_12, t82_14, t82_17, t82_18, t82_19, t82_22, t82_25, t82_26, t82_29, t82_30, t82_31, t82_32, t82_35, t82_36, t82_38, t82_41, t82_42, t82_43, t82_46, t82_49, t82_50, t82_53, t82_56, t82_57, t82_58, t82_61, t82_62, hC_13, hC_45, hC_47, hC_49, hC_54, gF_6_0, gF_6_1, gF_6_2, gF_6_3, gF_6_4, gF_6_5, gF_6_6, gF_6_7, gF_6_8, gF_6_9, hU_0, hU_7, hU_9, hU_11, hU_13, gF_5_0, gF_5_1, gF_5_2, gF_5_3, gF_5_4, gF_5_5, gF_5_6, gF_5_7, gF_5_8, gF_5_9, gF_5_10, gF_5_11, gF_5_12, gF_5_13, gF_3_0, gF_3_1, gF_3_2, gF_3_3, ln_add, nl_add, ln_mul, nl_mul, nI_add, nI_1, i32_nl, ite_not, lt_nn, lt_nl, lt_ln, eq_nn, eq_nl, eq_ln, if_true, if_false, kil_i, kil_r, kil_l, kil_u, rl_s, rl_n, Nat.zero_add, Nat.lt_irrefl, not_true_eq_false, not_false_eq_true, true_and, dp_1, dp_2, dp_3, dp_4, dp_5, dp_6, dp_7, dp_8, dp_9, dp_10, dp_11, dp_12, dp_13, dp_14, dp_15, dp_16, dp_17, dp_18, dp_19, dp_20, dp_21, dp_22, dp_23, dp_24, dp_25, dp_26, dp_27, dp_28, dp_29, dp_30, dp_31, dp_32, dp_33, dp_34, dp_35, dp_36, dp_37, dp_38, dp_39, U_hasGuest re, zb_0, q1, GX_3 (show a < 6 by omega), y3, q3, C_refN]
      exact kcR cb ri sm 1 k
    · rw [if_neg q3] at k
      have ri2 := RI_go (i := a) (x := -1) (RI_keep ri) ha (Or.inl rfl)
      have sm2 := SM_go (i := a) (x := -1) (RI_keep ri) (SM_keep ri sm) ha
      have hu : D 13 0 = nI un0 := sm.2.1.2.2.2.trans ri.2.2.2.2.2.1.1
      simp (disch := first | assumption | omega | decide | exact hX_o13 | exact hU_o | exact hX_o45 | exact hX_o47 | exact hX_o49 | exact hX_o54 | exact hU_o7 | exact hU_o9 | exact hU_o11 | exact hU_o13) only [t82_0, t82_1, t82_4, t82_5, t82_8, t82_11, t82_12, t82_14, t82_17, t82_18, t82_19, t82_22, t82_25, t82_26, t82_29, t82_30, t82_31, t82_32, t82_35, t82_36, t82_38, t82_41, t82_42, t82_43, t82_46, t82_49, t82_50, t82_53, t82_56, t82_57, t82_58, t82_61, t82_62, hC_13, hC_45, hC_47, hC_49, hC_54, gF_6_0, gF_6_1, gF_6_2, gF_6_3, gF_6_4, gF_6_5, gF_6_6, gF_6_7, gF_6_8, gF_6_9, hU_0, hU_7, hU_9, hU_11, hU_13, gF_5_0, gF_5_1, gF_5_2, gF_5_3, gF_5_4, gF_5_5, gF_5_6, gF_5_7, gF_5_8, gF_5_9, gF_5_10, gF_5_11, gF_5_12, gF_5_13, gF_3_0, gF_3_1, gF_3_2, gF_3_3, ln_add, nl_add, ln_mul, nl_mul, nI_add, nI_1, i32_nl, ite_not, lt_nn, lt_nl, lt_ln, eq_nn, eq_nl, eq_ln, if_true, if_false, kil_i, kil_r, kil_l, kil_u, rl_s, rl_n, Nat.zero_add, Nat.lt_irrefl, not_true_eq_false, not_false_eq_true, true_and, dp_1, dp_2, dp_3, dp_4, dp_5, dp_6, dp_7, dp_8, dp_9, dp_10, dp_11, dp_12, dp_13, dp_14, dp_15, dp_16, dp_17, dp_18, dp_19, dp_20, dp_21, dp_22, dp_23, dp_24, dp_25, dp_26, dp_27, dp_28, dp_29, dp_30, dp_31, dp_32, dp_33, dp_34, dp_35, dp_36, dp_37, dp_38, dp_39, U_hasGuest re, zb_0, q1, GX_3 (show a < 6 by omega), y3, q3, U_keepStep hu h8, PX_3 (show a < 6 by omega)]
      exact kcW cb (fun k h1 h2 => by rw [upd_ne (by omega), rwP_hi h8 h1]) ri2 sm2 k
  · rw [if_neg q1] at k
    simp (disch := first | assumption | omega | decide | exact hX_o13 | exact hU_o | exact hX_o45 | exact hX_o47 | exact hX_o49 | exact hX_o54 | exact hU_o7 | exact hU_o9 | exact hU_o11 | exact hU_o13) only [t82_0, t82_1, t82_4, t82_5, t82_8, t82_11, t82_12, t82_14, t82_17, t82_18, t82_19, t82_22, t82_25, t82_26, t82_29, t82_30, t82_31, t82_32, t82_35, t82_36, t82_38, t82_41, t82_42, t82_43, t82_46, t82_49, t82_50, t82_53, t82_56, t82_57, t82_58, t82_61, t82_62, hC_13, hC_45, hC_47, hC_49, hC_54, gF_6_0, gF_6_1, gF_6_2, gF_6_3, gF_6_4, gF_6_5, gF_6_6, gF_6_7, gF_6_8, gF_6_9, hU_0, hU_7, hU_9, hU_11, hU_13, gF_5_0, gF_5_1, gF_5_2, gF_5_3, gF_5_4, gF_5_5, gF_5_6, gF_5_7, gF_5_8, gF_5_9, gF_5_10, gF_5_11, gF_5_12, gF_5_13, gF_3_0, gF_3_1, gF_3_2, gF_3_3, ln_add, nl_add, ln_mul, nl_mul, nI_add, nI_1, i32_nl, ite_not, lt_nn, lt_nl, lt_ln, eq_nn, eq_nl, eq_ln, if_true, if_false, kil_i, kil_r, kil_l, kil_u, rl_s, rl_n, Nat.zero_add, Nat.lt_irrefl, not_true_eq_false, not_false_eq_true, true_and, dp_1, dp_2, dp_3, dp_4, dp_5, dp_6, dp_7, dp_8, dp_9, dp_10, dp_11, dp_12, dp_13, dp_14, dp_15, dp_16, dp_17, dp_18, dp_19, dp_20, dp_21, dp_22, dp_23, dp_24, dp_25, dp_26, dp_27, dp_28, dp_29, dp_30, dp_31, dp_32, dp_33, dp_34, dp_35, dp_36, dp_37, dp_38, dp_39, U_hasGuest re, zb_0, q1, C_refB, Bool.false_eq_true]
    exact kcR cb ri sm 0 k
theorem X_wets {w : Int32} (c : ClsAt h S g hh sn nn mn un0 n) (k : ∀ h2, CAx h2 (sp_wets un0 S w).2 → frC h h2 → Q (some (.int (sp_wets un0 S w).1)) h2) : T (d + 9) 83 0 [.ref 13, .int w, un] [] h Q := by
  obtain ⟨ab, be, V, O, D, I, c1, c2, cb, ri, sm⟩ := c
  refine T_eq (hX_self c1 c2) ?_
  have re := sm.rl ri
  have h8 := ri.2.2.2.2.2.1.2
  have hw : D 0 2 = sR S 10 := sm.1.2.2.1
  unfold sp_wets at k
  by_cases q1 : rg w 0 4 = true
  · rw [if_pos q1] at k
    by_cases q3 : sR S 10 = w
    · rw [if_pos q3] at k
      simp (disch := first | assumption | omega | decide | exact hX_o13 | exact hU_o | exact hX_o45 | exact hX_o47 | exact hX_o49 | exact hX_o54 | exact hU_o7 | exact hU_o9 | exact hU_o11 | exact hU_o13) only [t83_0, t83_1, t83_2, t83_3, t83_6, t83_9, t83_10, t83_12, t83_15, t83_16, t83_17, t83_20, t83_23, t83_24, t83_25, t83_26, t83_29, t83_30, t83_32, t83_35, t83_36, t83_37, t83_40, t83_43, t83_44, t83_47, t83_48, t83_51, t83_52, hC_13, hC_45, hC_47, hC_49, hC_54, gF_6_0, gF_6_1, gF_6_2, gF_6_3, gF_6_4, gF_6_5, gF_6_6, gF_6_7, gF_6_8, gF_6_9, hU_0, hU_7, hU_9, hU_11, hU_13, gF_5_0, gF_5_1, gF_5_2, gF_5_3, gF_5_4, gF_5_5, gF_5_6, gF_5_7, gF_5_8, gF_5_9, gF_5_10, gF_5_11, gF_5_12, gF_5_13, gF_3_0, gF_3_1, gF_3_2, gF_3_3, ln_add, nl_add, ln_mul, nl_mul, nI_add, nI_1, i32_nl, ite_not, lt_nn, lt_nl, lt_ln, eq_nn, eq_nl, eq_ln, if_true, if_false, kil_i, kil_r, kil_l, kil_u, rl_s, rl_n, Nat.zero_add, Nat.lt_irrefl, not_true_eq_false, not_false_eq_true, true_and, dp_1, dp_2, dp_3, dp_4, dp_5, dp_6, dp_7, dp_8, dp_9, dp_10, dp_11, dp_12, dp_13, dp_14, dp_15, dp_16, dp_17, dp_18, dp_19, dp_20, dp_21, dp_22, dp_23, dp_24, dp_25, dp_26, dp_27, dp_28, dp_29, dp_30, dp_31, dp_32, dp_33, dp_34, dp_35, dp_36, dp_37, dp_38, dp_39, E_withinL, zb_0, q1, hw, q3, C_refN]
      exact kcR cb ri sm 1 k
    · rw [if_neg q3] at k
      obtain ⟨z, hz, rfl⟩ := rg_l (b := 4) q1
      have ri2 := RI_wet (x := nI z) (RI_keep ri) ⟨z, hz, rfl⟩
      have sm2 := SM_wet (x := nI z) (RI_keep ri) (SM_keep ri sm)
      have hu : D 13 0 = nI un0 := sm.2.1.2.2.2.trans ri.2.2.2.2.2.1.1
      simp (disch := first | assumption | omega | decide | exact hX_o13 | exact hU_o | exact hX_o45 | exact hX_o47 | exact hX_o49 | exact hX_o54 | exact hU_o7 | exact hU_o9 | exact hU_o11 | exact hU_o13) only [t83_0, t83_1, t83_2, t83_3, t83_6, t83_9, t83_10, t83_12, t83_15, t83_16, t83_17, t83_20, t83_23, t83_24, t83_25, t83_26, t83_29, t83_30, t83_32, t83_35, t83_36, t83_37, t83_40, t83_43, t83_44, t83_47, t83_48, t83_51, t83_52, hC_13, hC_45, hC_47, hC_49, hC_54, gF_6_0, gF_6_1, gF_6_2, gF_6_3, gF_6_4, gF_6_5, gF_6_6, gF_6_7, gF_6_8, gF_6_9, hU_0, hU_7, hU_9, hU_11, hU_13, gF_5_0, gF_5_1, gF_5_2, gF_5_3, gF_5_4, gF_5_5, gF_5_6, gF_5_7, gF_5_8, gF_5_9, gF_5_10, gF_5_11, gF_5_12, gF_5_13, gF_3_0, gF_3_1, gF_3_2, gF_3_3, ln_add, nl_add, ln_mul, nl_mul, nI_add, nI_1, i32_nl, ite_not, lt_nn, lt_nl, lt_ln, eq_nn, eq_nl, eq_ln, if_true, if_false, kil_i, kil_r, kil_l, kil_u, rl_s, rl_n, Nat.zero_add, Nat.lt_irrefl, not_true_eq_false, not_false_eq_true, true_and, dp_1, dp_2, dp_3, dp_4, dp_5, dp_6, dp_7, dp_8, dp_9, dp_10, dp_11, dp_12, dp_13, dp_14, dp_15, dp_16, dp_17, dp_18, dp_19, dp_20, dp_21, dp_22, dp_23, dp_24, dp_25, dp_26, dp_27, dp_28, dp_29, dp_30, dp_31, dp_32, dp_33, dp_34, dp_35, dp_36, dp_37, dp_38, dp_39, E_withinL, zb_0, q1, hw, q3, U_keepStep hu h8, pF_5_12, hU_u0]
      exact kcW cb (fun k h1 h2 => by rw [upd_ne (by omega), rwP_hi h8 h1]) ri2 sm2 k
  · rw [if_neg q1] at k
    simp (disch := first | assumption | omega | decide | exact hX_o13 | exact hU_o | exact hX_o45 | exact hX_o47 | exact hX_o49 | exact hX_o54 | exact hU_o7 | exact hU_o9 | exact hU_o11 | exact hU_o13) only [t83_0, t83_1, t83_2, t83_3, t83_6, t83_9, t83_10, t83_12, t83_15, t83_16, t83_17, t83_20, t83_23, t83_24, t83_25, t83_26, t83_29, t83_30, t83_32, t83_35, t83_36, t83_37, t83_40, t83_43, t83_44, t83_47, t83_48, t83_51, t83_52, hC_13, hC_45, hC_47, hC_49, hC_54, gF_6_0, gF_6_1, gF_6_2, gF_6_3, gF_6_4, gF_6_5, gF_6_6, gF_6_7, gF_6_8, gF_6_9, hU_0, hU_7, hU_9, hU_11, hU_13, gF_5_0, gF_5_1, gF_5_2, gF_5_3, gF_5_4, gF_5_5, gF_5_6, gF_5_7, gF_5_8, gF_5_9, gF_5_10, gF_5_11, gF_5_12, gF_5_13, gF_3_0, gF_3_1, gF_3_2, gF_3_3, ln_add, nl_add, ln_mul, nl_mul, nI_add, nI_1, i32_nl, ite_not, lt_nn, lt_nl, lt_ln, eq_nn, eq_nl, eq_ln, if_true, if_false, kil_i, kil_r, kil_l, kil_u, rl_s, rl_n, Nat.zero_add, Nat.lt_irrefl, not_true_eq_false, not_false_eq_true, true_and, dp_1, dp_2, dp_3, dp_4, dp_5, dp_6, dp_7, dp_8, dp_9, dp_10, dp_11, dp_12, dp_13, dp_14, dp_15, dp_16, dp_17, dp_18, dp_19, dp_20, dp_21, dp_22, dp_23, dp_24, dp_25, dp_26, dp_27, dp_28, dp_29, dp_30, dp_31, dp_32, dp_33, dp_34, dp_35, dp_36, dp_37, dp_38, dp_39, E_withinL, zb_0, q1, C_refB, Bool.false_eq_true]
    exact kcR cb ri sm 0 k
theorem X_evenings {w : Int32} (c : ClsAt h S g hh sn nn mn un0 n) (k : ∀ h2, CAx h2 (sp_evenings g hh un0 S w).2 → frC h h2 → Q (some (.int (sp_evenings g hh un0 S w).1)) h2) : T (d + 9) 84 0 [.ref 13, .int w] [] h Q := by
  obtain ⟨ab, be, V, O, D, I, c1, c2, cb, ri, sm⟩ := c
  refine T_eq (hX_self c1 c2) ?_
  have h6 := ri.1.2
  have h4 := ri.2.1.2
  have h8 := ri.2.2.2.2.2.1.2
  unfold sp_evenings at k
  by_cases q1 : rg w 1 60 = true
  · rw [if_pos q1] at k
    obtain ⟨a, ha1, ha2, rfl⟩ := rg_m (a := 1) (b := 60) q1 (by omega)
    simp (disch := first | assumption | omega | decide) only [nI_clamp] at k
    have ri1 := RI_keep ri
    have sm1 := SM_keep ri sm
    have re1 := sm1.rl ri1
    obtain ⟨e, he9, he⟩ := ri1.2.2.2.2.2.2.1.2.2.2
    have hde : kpD D un0 0 3 = nI e := sm1.1.2.2.2.trans he
    have ev := goR_isEv h4 h6 a e (rwP (sR S) un0) he he9 ri1.l4
    have ri2 := RI_ev ri1 ev he (by omega)
    have sm2 := SM_ev ri1 sm1 ev he
    have re2 := sm2.rl ri2
    have hu : D 13 0 = nI un0 := sm.2.1.2.2.2.trans ri.2.2.2.2.2.1.1
    have ea := alj_alk h4 ri2.z4
    simp (disch := first | assumption | omega | decide | exact hX_o13 | exact hU_o | exact hX_o45 | exact hX_o47 | exact hX_o49 | exact hX_o54 | exact hU_o7 | exact hU_o9 | exact hU_o11 | exact hU_o13) only [t84_0, t84_1, t84_2, t84_4, t84_7, t84_10, t84_11, t84_13, t84_16, t84_17, t84_18, t84_21, t84_24, t84_25, t84_28, t84_29, t84_32, t84_33, t84_36, t84_39, hC_13, hC_45, hC_47, hC_49, hC_54, gF_6_0, gF_6_1, gF_6_2, gF_6_3, gF_6_4, gF_6_5, gF_6_6, gF_6_7, gF_6_8, gF_6_9, hU_0, hU_7, hU_9, hU_11, hU_13, gF_5_0, gF_5_1, gF_5_2, gF_5_3, gF_5_4, gF_5_5, gF_5_6, gF_5_7, gF_5_8, gF_5_9, gF_5_10, gF_5_11, gF_5_12, gF_5_13, gF_3_0, gF_3_1, gF_3_2, gF_3_3, ln_add, nl_add, ln_mul, nl_mul, nI_add, nI_1, i32_nl, ite_not, lt_nn, lt_nl, lt_ln, eq_nn, eq_nl, eq_ln, if_true, if_false, kil_i, kil_r, kil_l, kil_u, rl_s, rl_n, Nat.zero_add, Nat.lt_irrefl, not_true_eq_false, not_false_eq_true, true_and, dp_1, dp_2, dp_3, dp_4, dp_5, dp_6, dp_7, dp_8, dp_9, dp_10, dp_11, dp_12, dp_13, dp_14, dp_15, dp_16, dp_17, dp_18, dp_19, dp_20, dp_21, dp_22, dp_23, dp_24, dp_25, dp_26, dp_27, dp_28, dp_29, dp_30, dp_31, dp_32, dp_33, dp_34, dp_35, dp_36, dp_37, dp_38, dp_39, E_withinL, zb_0, q1, U_keepStep hu h8, U_passEvenings re1 hde he9 (show a < 2 ^ 20 by omega), U_allLiking re2 sm2.lk, ea]
    exact kcW cb (fun k h1 h2 => by rw [ev.2.2 k (by omega) (by omega), rwP_hi h8 h1]) ri2 sm2 k
  · rw [if_neg q1] at k
    simp (disch := first | assumption | omega | decide | exact hX_o13 | exact hU_o | exact hX_o45 | exact hX_o47 | exact hX_o49 | exact hX_o54 | exact hU_o7 | exact hU_o9 | exact hU_o11 | exact hU_o13) only [t84_0, t84_1, t84_2, t84_4, t84_7, t84_10, t84_11, t84_13, t84_16, t84_17, t84_18, t84_21, t84_24, t84_25, t84_28, t84_29, t84_32, t84_33, t84_36, t84_39, hC_13, hC_45, hC_47, hC_49, hC_54, gF_6_0, gF_6_1, gF_6_2, gF_6_3, gF_6_4, gF_6_5, gF_6_6, gF_6_7, gF_6_8, gF_6_9, hU_0, hU_7, hU_9, hU_11, hU_13, gF_5_0, gF_5_1, gF_5_2, gF_5_3, gF_5_4, gF_5_5, gF_5_6, gF_5_7, gF_5_8, gF_5_9, gF_5_10, gF_5_11, gF_5_12, gF_5_13, gF_3_0, gF_3_1, gF_3_2, gF_3_3, ln_add, nl_add, ln_mul, nl_mul, nI_add, nI_1, i32_nl, ite_not, lt_nn, lt_nl, lt_ln, eq_nn, eq_nl, eq_ln, if_true, if_false, kil_i, kil_r, kil_l, kil_u, rl_s, rl_n, Nat.zero_add, Nat.lt_irrefl, not_true_eq_false, not_false_eq_true, true_and, dp_1, dp_2, dp_3, dp_4, dp_5, dp_6, dp_7, dp_8, dp_9, dp_10, dp_11, dp_12, dp_13, dp_14, dp_15, dp_16, dp_17, dp_18, dp_19, dp_20, dp_21, dp_22, dp_23, dp_24, dp_25, dp_26, dp_27, dp_28, dp_29, dp_30, dp_31, dp_32, dp_33, dp_34, dp_35, dp_36, dp_37, dp_38, dp_39, E_withinL, zb_0, q1, C_refB, Bool.false_eq_true]
    exact kcR cb ri sm 0 k
theorem X_undo (c : ClsAt h S g hh sn nn mn un0 n) (k : ∀ h2, CAx h2 (sp_undo un0 S).2 → frC h h2 → Q (some (.int (sp_undo un0 S).1)) h2) : T (d + 9) 85 0 [.ref 13] [] h Q := by
  obtain ⟨ab, be, V, O, D, I, c1, c2, cb, ri, sm⟩ := c
  refine T_eq (hX_self c1 c2) ?_
  have h8 := ri.2.2.2.2.2.1.2
  have hu : D 13 0 = nI un0 := sm.2.1.2.2.2.trans ri.2.2.2.2.2.1.1
  unfold sp_undo at k
  cases un0 with
  | zero =>
    rw [if_pos rfl] at k
    simp (disch := first | assumption | omega | decide | exact hX_o13 | exact hU_o | exact hX_o45 | exact hX_o47 | exact hX_o49 | exact hX_o54 | exact hU_o7 | exact hU_o9 | exact hU_o11 | exact hU_o13) only [t85_0, t85_1, t85_4, t85_7, t85_10, t85_13, t85_14, t85_16, t85_19, t85_20, t85_21, t85_24, t85_27, t85_28, t85_31, t85_34, hC_13, hC_45, hC_47, hC_49, hC_54, gF_6_0, gF_6_1, gF_6_2, gF_6_3, gF_6_4, gF_6_5, gF_6_6, gF_6_7, gF_6_8, gF_6_9, hU_0, hU_7, hU_9, hU_11, hU_13, gF_5_0, gF_5_1, gF_5_2, gF_5_3, gF_5_4, gF_5_5, gF_5_6, gF_5_7, gF_5_8, gF_5_9, gF_5_10, gF_5_11, gF_5_12, gF_5_13, gF_3_0, gF_3_1, gF_3_2, gF_3_3, ln_add, nl_add, ln_mul, nl_mul, nI_add, nI_1, i32_nl, ite_not, lt_nn, lt_nl, lt_ln, eq_nn, eq_nl, eq_ln, if_true, if_false, kil_i, kil_r, kil_l, kil_u, rl_s, rl_n, Nat.zero_add, Nat.lt_irrefl, not_true_eq_false, not_false_eq_true, true_and, dp_1, dp_2, dp_3, dp_4, dp_5, dp_6, dp_7, dp_8, dp_9, dp_10, dp_11, dp_12, dp_13, dp_14, dp_15, dp_16, dp_17, dp_18, dp_19, dp_20, dp_21, dp_22, dp_23, dp_24, dp_25, dp_26, dp_27, dp_28, dp_29, dp_30, dp_31, dp_32, dp_33, dp_34, dp_35, dp_36, dp_37, dp_38, dp_39, hu, C_refN]
    exact kcR cb ri sm 1 k
  | succ u =>
    rw [if_neg (by omega), Nat.add_sub_cancel] at k
    have ri2 := RI_undo ri
    have sm2 := SM_undo ri sm
    have e := sm2.1.2.2.2
    simp (disch := first | assumption | omega | decide | exact hX_o13 | exact hU_o | exact hX_o45 | exact hX_o47 | exact hX_o49 | exact hX_o54 | exact hU_o7 | exact hU_o9 | exact hU_o11 | exact hU_o13) only [t85_0, t85_1, t85_4, t85_7, t85_10, t85_13, t85_14, t85_16, t85_19, t85_20, t85_21, t85_24, t85_27, t85_28, t85_31, t85_34, hC_13, hC_45, hC_47, hC_49, hC_54, gF_6_0, gF_6_1, gF_6_2, gF_6_3, gF_6_4, gF_6_5, gF_6_6, gF_6_7, gF_6_8, gF_6_9, hU_0, hU_7, hU_9, hU_11, hU_13, gF_5_0, gF_5_1, gF_5_2, gF_5_3, gF_5_4, gF_5_5, gF_5_6, gF_5_7, gF_5_8, gF_5_9, gF_5_10, gF_5_11, gF_5_12, gF_5_13, gF_3_0, gF_3_1, gF_3_2, gF_3_3, ln_add, nl_add, ln_mul, nl_mul, nI_add, nI_1, i32_nl, ite_not, lt_nn, lt_nl, lt_ln, eq_nn, eq_nl, eq_ln, if_true, if_false, kil_i, kil_r, kil_l, kil_u, rl_s, rl_n, Nat.zero_add, Nat.lt_irrefl, not_true_eq_false, not_false_eq_true, true_and, dp_1, dp_2, dp_3, dp_4, dp_5, dp_6, dp_7, dp_8, dp_9, dp_10, dp_11, dp_12, dp_13, dp_14, dp_15, dp_16, dp_17, dp_18, dp_19, dp_20, dp_21, dp_22, dp_23, dp_24, dp_25, dp_26, dp_27, dp_28, dp_29, dp_30, dp_31, dp_32, dp_33, dp_34, dp_35, dp_36, dp_37, dp_38, dp_39, hu, show ¬ u + 1 = 0 by omega, U_stepBack hu (show u < 8 by omega), e]
    exact kcW cb (fun k h1 h2 => rwU_o (by omega) (by omega)) ri2 sm2 k
end X3
