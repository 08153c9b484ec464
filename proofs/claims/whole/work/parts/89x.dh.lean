/-! read: a number of an item -/
section RX
variable {d : Nat} {h : Hp} {Q : Pst} {ab be : Int32} {O D E : Nat → Nat → Int32} {X : Nat → Int32} {n a e b g2 h2 w : Nat} {x2 x3 x4 x5 x6 x7 x8 : Int32} {V : Nat → Int32}
theorem leT_0 {i w : Nat} : (0 : Int) ≤ (leT i w).toInt := by
  unfold leT
  split <;> decide
theorem E_readN0 (s : StrOk h) (hO : O 46 = X) (hn : n ≤ 150) (hb : b ≤ n) (hw : w < 6) (hg : E 0 0 = nI g2) : T (d + 12) 23 0 [.ref 45, .int 0, .ref 29] [] (hZ h ab be (vq (nI n) (nI b) x3 x4 x5 (nI w) x7 x8) O D E) Q ↔ Q (some (.int (zI (decide (¬ nmR X n (tkA X n b) (tkE X n b) (leT 0 w) (moT 0 w g2 h2) = -1))))) (hZ h ab be (vq (nI n) (nI (tkE X n b)) (nI (tkA X n b)) (tkT X n (tkA X n b) (tkE X n b)) (tkV X n (tkA X n b) (tkE X n b) x5) (nI w) x7 x8) O D E) := by
  have K := @tk_num X n b (leT 0 w) (moT 0 w g2 h2) x5 leT_0
  have ST := fun Q => @E_step (d + 1) (hU h 29 E) Q ab be O D X n b x3 x4 x5 (nI w) x7 x8 s.Z hO hn hb
  simp (disch := first | assumption | omega | decide | exact hX_o13 | exact hU_o | exact hX_o45 | exact hX_o47 | exact hX_o49 | exact hX_o54 | exact hU_o7 | exact hU_o9 | exact hU_o11 | exact hU_o13) only [t23_0, t23_1, hC_13, hC_45, hC_47, hC_49, hC_54, gF_6_0, gF_6_1, gF_6_2, gF_6_3, gF_6_4, gF_6_5, gF_6_6, gF_6_7, gF_6_8, gF_6_9, hU_0, hU_7, hU_9, hU_11, hU_13, gF_5_0, gF_5_1, gF_5_2, gF_5_3, gF_5_4, gF_5_5, gF_5_6, gF_5_7, gF_5_8, gF_5_9, gF_5_10, gF_5_11, gF_5_12, gF_5_13, gF_3_0, gF_3_1, gF_3_2, gF_3_3, ln_add, nl_add, ln_mul, nl_mul, nI_add, nI_1, i32_nl, ite_not, lt_nn, lt_nl, lt_ln, eq_nn, eq_nl, eq_ln, if_true, if_false, kil_i, kil_r, kil_l, kil_u, rl_s, rl_n, Nat.zero_add, Nat.lt_irrefl, not_true_eq_false, not_false_eq_true, true_and, dp_1, dp_2, dp_3, dp_4, dp_5, dp_6, dp_7, dp_8, dp_9, dp_10, dp_11, dp_12, dp_13, dp_14, dp_15, dp_16, dp_17, dp_18, dp_19, dp_20, dp_21, dp_22, dp_23, dp_24, dp_25, dp_26, dp_27, dp_28, dp_29, dp_30, dp_31, dp_32, dp_33, dp_34, dp_35, dp_36, dp_37, dp_38, dp_39]
  refine (ST _).trans ?_
  generalize tkT X n (tkA X n b) (tkE X n b) = t at K ⊢
  generalize tkV X n (tkA X n b) (tkE X n b) x5 = v at K ⊢
  have L0 := fun Q => @E_least0 (d + 11) h Q ab be O D E w (vq (nI n) (nI (tkE X n b)) (nI (tkA X n b)) t v (nI w) x7 x8) hw rfl
  have M0 := fun Q => @E_most0 (d + 11) h Q ab be O D E g2 h2 w (vq (nI n) (nI (tkE X n b)) (nI (tkA X n b)) t v (nI w) x7 x8) hw rfl hg
  by_cases q : ¬ nmR X n (tkA X n b) (tkE X n b) (leT 0 w) (moT 0 w g2 h2) = -1
  · have q2 := K.mpr q
    rw [decide_eq_true q]
    have q3 := q2.1
    subst q3
    simp (disch := first | assumption | omega | decide | exact hX_o13 | exact hU_o | exact hX_o45 | exact hX_o47 | exact hX_o49 | exact hX_o54 | exact hU_o7 | exact hU_o9 | exact hU_o11 | exact hU_o13) only [t23_4, t23_5, t23_8, t23_9, t23_12, t23_13, t23_16, t23_17, t23_18, t23_21, t23_22, t23_23, t23_24, t23_27, t23_30, t23_33, t23_34, t23_37, t23_38, hC_13, hC_45, hC_47, hC_49, hC_54, gF_6_0, gF_6_1, gF_6_2, gF_6_3, gF_6_4, gF_6_5, gF_6_6, gF_6_7, gF_6_8, gF_6_9, hU_0, hU_7, hU_9, hU_11, hU_13, gF_5_0, gF_5_1, gF_5_2, gF_5_3, gF_5_4, gF_5_5, gF_5_6, gF_5_7, gF_5_8, gF_5_9, gF_5_10, gF_5_11, gF_5_12, gF_5_13, gF_3_0, gF_3_1, gF_3_2, gF_3_3, ln_add, nl_add, ln_mul, nl_mul, nI_add, nI_1, i32_nl, ite_not, lt_nn, lt_nl, lt_ln, eq_nn, eq_nl, eq_ln, if_true, if_false, kil_i, kil_r, kil_l, kil_u, rl_s, rl_n, Nat.zero_add, Nat.lt_irrefl, not_true_eq_false, not_false_eq_true, true_and, dp_1, dp_2, dp_3, dp_4, dp_5, dp_6, dp_7, dp_8, dp_9, dp_10, dp_11, dp_12, dp_13, dp_14, dp_15, dp_16, dp_17, dp_18, dp_19, dp_20, dp_21, dp_22, dp_23, dp_24, dp_25, dp_26, dp_27, dp_28, dp_29, dp_30, dp_31, dp_32, dp_33, dp_34, dp_35, dp_36, dp_37, dp_38, dp_39, gF_2_4, gF_2_5, vq_1, vq_2, vq_3, vq_4, vq_5, vq_6, vq_7, vq_8, L0, M0, E_within, zb_0, q2.2, and_self, nw_b, nw_z]
    exact Iff.rfl
  · have q2 : ¬ (t = 2 ∧ leT 0 w ≤ v ∧ v ≤ moT 0 w g2 h2) := fun z => q (K.mp z)
    rw [decide_eq_false q]
    by_cases q3 : t = 2
    · have q4 : ¬ (leT 0 w ≤ v ∧ v ≤ moT 0 w g2 h2) := fun z => q2 ⟨q3, z⟩
      subst q3
      simp (disch := first | assumption | omega | decide | exact hX_o45) only [t23_4, t23_5, t23_8, t23_9, t23_12, t23_13, t23_16, t23_17, t23_18, t23_21, t23_22, t23_23, t23_24, t23_27, t23_30, t23_33, t23_34, t23_37, t23_38, hC_45, kil_i, kil_r, rl_s, rl_n, gF_2_4, gF_2_5, vq_1, vq_2, vq_3, vq_4, vq_5, vq_6, vq_7, vq_8, L0, M0, E_within, zb_0, q4, not_true_eq_false, not_false_eq_true, if_true, if_false, nw_b, nw_z, true_and, ite_not]
      exact Iff.rfl
    · simp (disch := first | assumption | omega | decide | exact hX_o13 | exact hU_o | exact hX_o45 | exact hX_o47 | exact hX_o49 | exact hX_o54 | exact hU_o7 | exact hU_o9 | exact hU_o11 | exact hU_o13) only [t23_4, t23_5, t23_8, t23_9, t23_37, t23_38, hC_13, hC_45, hC_47, hC_49, hC_54, gF_6_0, gF_6_1, gF_6_2, gF_6_3, gF_6_4, gF_6_5, gF_6_6, gF_6_7, gF_6_8, gF_6_9, hU_0, hU_7, hU_9, hU_11, hU_13, gF_5_0, gF_5_1, gF_5_2, gF_5_3, gF_5_4, gF_5_5, gF_5_6, gF_5_7, gF_5_8, gF_5_9, gF_5_10, gF_5_11, gF_5_12, gF_5_13, gF_3_0, gF_3_1, gF_3_2, gF_3_3, ln_add, nl_add, ln_mul, nl_mul, nI_add, nI_1, i32_nl, ite_not, lt_nn, lt_nl, lt_ln, eq_nn, eq_nl, eq_ln, if_true, if_false, kil_i, kil_r, kil_l, kil_u, rl_s, rl_n, Nat.zero_add, Nat.lt_irrefl, not_true_eq_false, not_false_eq_true, true_and, dp_1, dp_2, dp_3, dp_4, dp_5, dp_6, dp_7, dp_8, dp_9, dp_10, dp_11, dp_12, dp_13, dp_14, dp_15, dp_16, dp_17, dp_18, dp_19, dp_20, dp_21, dp_22, dp_23, dp_24, dp_25, dp_26, dp_27, dp_28, dp_29, dp_30, dp_31, dp_32, dp_33, dp_34, dp_35, dp_36, dp_37, dp_38, dp_39, gF_2_4, gF_2_5, vq_1, vq_2, vq_3, vq_4, vq_5, vq_6, vq_7, vq_8, q3, nw_b, nw_z]
      exact Iff.rfl
theorem E_readN1 (s : StrOk h) (hO : O 46 = X) (hn : n ≤ 150) (hb : b ≤ n) (hw : w = 1 ∨ w = 2 ∨ w = 3) (hg : E 0 1 = nI h2) : T (d + 12) 23 0 [.ref 45, .int 1, .ref 29] [] (hZ h ab be (vq (nI n) (nI b) x3 x4 x5 (nI w) x7 x8) O D E) Q ↔ Q (some (.int (zI (decide (¬ nmR X n (tkA X n b) (tkE X n b) (leT 1 w) (moT 1 w g2 h2) = -1))))) (hZ h ab be (vq (nI n) (nI (tkE X n b)) (nI (tkA X n b)) (tkT X n (tkA X n b) (tkE X n b)) (tkV X n (tkA X n b) (tkE X n b) x5) (nI w) x7 x8) O D E) := by
  have K := @tk_num X n b (leT 1 w) (moT 1 w g2 h2) x5 leT_0
  have ST := fun Q => @E_step (d + 1) (hU h 29 E) Q ab be O D X n b x3 x4 x5 (nI w) x7 x8 s.Z hO hn hb
  simp (disch := first | assumption | omega | decide | exact hX_o13 | exact hU_o | exact hX_o45 | exact hX_o47 | exact hX_o49 | exact hX_o54 | exact hU_o7 | exact hU_o9 | exact hU_o11 | exact hU_o13) only [t23_0, t23_1, hC_13, hC_45, hC_47, hC_49, hC_54, gF_6_0, gF_6_1, gF_6_2, gF_6_3, gF_6_4, gF_6_5, gF_6_6, gF_6_7, gF_6_8, gF_6_9, hU_0, hU_7, hU_9, hU_11, hU_13, gF_5_0, gF_5_1, gF_5_2, gF_5_3, gF_5_4, gF_5_5, gF_5_6, gF_5_7, gF_5_8, gF_5_9, gF_5_10, gF_5_11, gF_5_12, gF_5_13, gF_3_0, gF_3_1, gF_3_2, gF_3_3, ln_add, nl_add, ln_mul, nl_mul, nI_add, nI_1, i32_nl, ite_not, lt_nn, lt_nl, lt_ln, eq_nn, eq_nl, eq_ln, if_true, if_false, kil_i, kil_r, kil_l, kil_u, rl_s, rl_n, Nat.zero_add, Nat.lt_irrefl, not_true_eq_false, not_false_eq_true, true_and, dp_1, dp_2, dp_3, dp_4, dp_5, dp_6, dp_7, dp_8, dp_9, dp_10, dp_11, dp_12, dp_13, dp_14, dp_15, dp_16, dp_17, dp_18, dp_19, dp_20, dp_21, dp_22, dp_23, dp_24, dp_25, dp_26, dp_27, dp_28, dp_29, dp_30, dp_31, dp_32, dp_33, dp_34, dp_35, dp_36, dp_37, dp_38, dp_39]
  refine (ST _).trans ?_
  generalize tkT X n (tkA X n b) (tkE X n b) = t at K ⊢
  generalize tkV X n (tkA X n b) (tkE X n b) x5 = v at K ⊢
  have L0 := fun Q => @E_least1 (d + 11) h Q ab be O D E w (vq (nI n) (nI (tkE X n b)) (nI (tkA X n b)) t v (nI w) x7 x8) (by omega) rfl
  have M0 := fun Q => @E_most1 (d + 11) h Q ab be O D E g2 h2 w (vq (nI n) (nI (tkE X n b)) (nI (tkA X n b)) t v (nI w) x7 x8) hw rfl hg
  by_cases q : ¬ nmR X n (tkA X n b) (tkE X n b) (leT 1 w) (moT 1 w g2 h2) = -1
  · have q2 := K.mpr q
    rw [decide_eq_true q]
    have q3 := q2.1
    subst q3
    simp (disch := first | assumption | omega | decide | exact hX_o13 | exact hU_o | exact hX_o45 | exact hX_o47 | exact hX_o49 | exact hX_o54 | exact hU_o7 | exact hU_o9 | exact hU_o11 | exact hU_o13) only [t23_4, t23_5, t23_8, t23_9, t23_12, t23_13, t23_16, t23_17, t23_18, t23_21, t23_22, t23_23, t23_24, t23_27, t23_30, t23_33, t23_34, t23_37, t23_38, hC_13, hC_45, hC_47, hC_49, hC_54, gF_6_0, gF_6_1, gF_6_2, gF_6_3, gF_6_4, gF_6_5, gF_6_6, gF_6_7, gF_6_8, gF_6_9, hU_0, hU_7, hU_9, hU_11, hU_13, gF_5_0, gF_5_1, gF_5_2, gF_5_3, gF_5_4, gF_5_5, gF_5_6, gF_5_7, gF_5_8, gF_5_9, gF_5_10, gF_5_11, gF_5_12, gF_5_13, gF_3_0, gF_3_1, gF_3_2, gF_3_3, ln_add, nl_add, ln_mul, nl_mul, nI_add, nI_1, i32_nl, ite_not, lt_nn, lt_nl, lt_ln, eq_nn, eq_nl, eq_ln, if_true, if_false, kil_i, kil_r, kil_l, kil_u, rl_s, rl_n, Nat.zero_add, Nat.lt_irrefl, not_true_eq_false, not_false_eq_true, true_and, dp_1, dp_2, dp_3, dp_4, dp_5, dp_6, dp_7, dp_8, dp_9, dp_10, dp_11, dp_12, dp_13, dp_14, dp_15, dp_16, dp_17, dp_18, dp_19, dp_20, dp_21, dp_22, dp_23, dp_24, dp_25, dp_26, dp_27, dp_28, dp_29, dp_30, dp_31, dp_32, dp_33, dp_34, dp_35, dp_36, dp_37, dp_38, dp_39, gF_2_4, gF_2_5, vq_1, vq_2, vq_3, vq_4, vq_5, vq_6, vq_7, vq_8, L0, M0, E_within, zb_0, q2.2, and_self, nw_b, nw_z]
    exact Iff.rfl
  · have q2 : ¬ (t = 2 ∧ leT 1 w ≤ v ∧ v ≤ moT 1 w g2 h2) := fun z => q (K.mp z)
    rw [decide_eq_false q]
    by_cases q3 : t = 2
    · have q4 : ¬ (leT 1 w ≤ v ∧ v ≤ moT 1 w g2 h2) := fun z => q2 ⟨q3, z⟩
      subst q3
      simp (disch := first | assumption | omega | decide | exact hX_o45) only [t23_4, t23_5, t23_8, t23_9, t23_12, t23_13, t23_16, t23_17, t23_18, t23_21, t23_22, t23_23, t23_24, t23_27, t23_30, t23_33, t23_34, t23_37, t23_38, hC_45, kil_i, kil_r, rl_s, rl_n, gF_2_4, gF_2_5, vq_1, vq_2, vq_3, vq_4, vq_5, vq_6, vq_7, vq_8, L0, M0, E_within, zb_0, q4, not_true_eq_false, not_false_eq_true, if_true, if_false, nw_b, nw_z, true_and, ite_not]
      exact Iff.rfl
    · simp (disch := first | assumption | omega | decide | exact hX_o13 | exact hU_o | exact hX_o45 | exact hX_o47 | exact hX_o49 | exact hX_o54 | exact hU_o7 | exact hU_o9 | exact hU_o11 | exact hU_o13) only [t23_4, t23_5, t23_8, t23_9, t23_37, t23_38, hC_13, hC_45, hC_47, hC_49, hC_54, gF_6_0, gF_6_1, gF_6_2, gF_6_3, gF_6_4, gF_6_5, gF_6_6, gF_6_7, gF_6_8, gF_6_9, hU_0, hU_7, hU_9, hU_11, hU_13, gF_5_0, gF_5_1, gF_5_2, gF_5_3, gF_5_4, gF_5_5, gF_5_6, gF_5_7, gF_5_8, gF_5_9, gF_5_10, gF_5_11, gF_5_12, gF_5_13, gF_3_0, gF_3_1, gF_3_2, gF_3_3, ln_add, nl_add, ln_mul, nl_mul, nI_add, nI_1, i32_nl, ite_not, lt_nn, lt_nl, lt_ln, eq_nn, eq_nl, eq_ln, if_true, if_false, kil_i, kil_r, kil_l, kil_u, rl_s, rl_n, Nat.zero_add, Nat.lt_irrefl, not_true_eq_false, not_false_eq_true, true_and, dp_1, dp_2, dp_3, dp_4, dp_5, dp_6, dp_7, dp_8, dp_9, dp_10, dp_11, dp_12, dp_13, dp_14, dp_15, dp_16, dp_17, dp_18, dp_19, dp_20, dp_21, dp_22, dp_23, dp_24, dp_25, dp_26, dp_27, dp_28, dp_29, dp_30, dp_31, dp_32, dp_33, dp_34, dp_35, dp_36, dp_37, dp_38, dp_39, gF_2_4, gF_2_5, vq_1, vq_2, vq_3, vq_4, vq_5, vq_6, vq_7, vq_8, q3, nw_b, nw_z]
      exact Iff.rfl
end RX
