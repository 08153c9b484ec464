/-! read: how an item begins -/
section RB
variable {d : Nat} {h : Hp} {Q : Pst} {ab be : Int32} {O D E : Nat → Nat → Int32} {X : Nat → Int32} {n a b g2 h2 : Nat} {x5 x6 x7 x8 : Int32}
theorem wdV_s {e w : Nat} (hw : wdH X n a e = some w) : wdV X n a e = nI w := by unfold wdV; rw [hw]
theorem wdV_n {e : Nat} (hw : wdH X n a e = none) : wdV X n a e = -1 := by unfold wdV; rw [hw]
theorem E_ri0n {f : Bool} (hw : wdH X n a b = none) : T (d + 13) 20 0 [.ref 45, .ref 29, .int (zI f)] [] (hZ h ab be (vq (nI n) (nI b) (nI a) (tkT X n a b) (tkV X n a b x5) x6 x7 x8) O D E) Q ↔ Q (some (.int 0)) (hZ h ab be (vq (nI n) (nI b) (nI a) (tkT X n a b) (tkV X n a b x5) (-1) x7 x8) O D E) := by
  have W := @wd_is X n a b x5
  rw [wdV_n hw] at W
  generalize tkT X n a b = t at W ⊢
  generalize tkV X n a b x5 = v at W ⊢
  by_cases t1 : t = 1
  · rw [if_pos t1] at W
    subst t1
    subst W
    simp (disch := first | assumption | omega | decide | exact hX_o13 | exact hU_o | exact hX_o45 | exact hX_o47 | exact hX_o49 | exact hX_o54 | exact hU_o7 | exact hU_o9 | exact hU_o11 | exact hU_o13) only [t20_0, t20_1, t20_2, t20_5, t20_6, t20_9, t20_10, t20_13, t20_16, t20_17, t20_20, t20_21, t20_24, t20_25, t20_52, t20_53, hC_13, hC_45, hC_47, hC_49, hC_54, gF_6_0, gF_6_1, gF_6_2, gF_6_3, gF_6_4, gF_6_5, gF_6_6, gF_6_7, gF_6_8, gF_6_9, hU_0, hU_7, hU_9, hU_11, hU_13, gF_5_0, gF_5_1, gF_5_2, gF_5_3, gF_5_4, gF_5_5, gF_5_6, gF_5_7, gF_5_8, gF_5_9, gF_5_10, gF_5_11, gF_5_12, gF_5_13, gF_3_0, gF_3_1, gF_3_2, gF_3_3, ln_add, nl_add, ln_mul, nl_mul, nI_add, nI_1, i32_nl, ite_not, lt_nn, lt_nl, lt_ln, eq_nn, eq_nl, eq_ln, if_true, if_false, kil_i, kil_r, kil_l, kil_u, rl_s, rl_n, Nat.zero_add, Nat.lt_irrefl, not_true_eq_false, not_false_eq_true, true_and, dp_1, dp_2, dp_3, dp_4, dp_5, dp_6, dp_7, dp_8, dp_9, dp_10, dp_11, dp_12, dp_13, dp_14, dp_15, dp_16, dp_17, dp_18, dp_19, dp_20, dp_21, dp_22, dp_23, dp_24, dp_25, dp_26, dp_27, dp_28, dp_29, dp_30, dp_31, dp_32, dp_33, dp_34, dp_35, dp_36, dp_37, dp_38, dp_39, gF_2_4, gF_2_5, gF_2_6, pF_2_6, vq_1, vq_2, vq_3, vq_4, vq_5, vq_6, vq_7, vq_8, hC_u45, nw_z]
  · simp (disch := first | assumption | omega | decide | exact hX_o13 | exact hU_o | exact hX_o45 | exact hX_o47 | exact hX_o49 | exact hX_o54 | exact hU_o7 | exact hU_o9 | exact hU_o11 | exact hU_o13) only [t20_0, t20_1, t20_2, t20_5, t20_6, t20_9, t20_10, t20_13, t20_16, t20_17, t20_20, t20_21, t20_24, t20_25, t20_52, t20_53, hC_13, hC_45, hC_47, hC_49, hC_54, gF_6_0, gF_6_1, gF_6_2, gF_6_3, gF_6_4, gF_6_5, gF_6_6, gF_6_7, gF_6_8, gF_6_9, hU_0, hU_7, hU_9, hU_11, hU_13, gF_5_0, gF_5_1, gF_5_2, gF_5_3, gF_5_4, gF_5_5, gF_5_6, gF_5_7, gF_5_8, gF_5_9, gF_5_10, gF_5_11, gF_5_12, gF_5_13, gF_3_0, gF_3_1, gF_3_2, gF_3_3, ln_add, nl_add, ln_mul, nl_mul, nI_add, nI_1, i32_nl, ite_not, lt_nn, lt_nl, lt_ln, eq_nn, eq_nl, eq_ln, if_true, if_false, kil_i, kil_r, kil_l, kil_u, rl_s, rl_n, Nat.zero_add, Nat.lt_irrefl, not_true_eq_false, not_false_eq_true, true_and, dp_1, dp_2, dp_3, dp_4, dp_5, dp_6, dp_7, dp_8, dp_9, dp_10, dp_11, dp_12, dp_13, dp_14, dp_15, dp_16, dp_17, dp_18, dp_19, dp_20, dp_21, dp_22, dp_23, dp_24, dp_25, dp_26, dp_27, dp_28, dp_29, dp_30, dp_31, dp_32, dp_33, dp_34, dp_35, dp_36, dp_37, dp_38, dp_39, gF_2_4, gF_2_5, gF_2_6, pF_2_6, vq_1, vq_2, vq_3, vq_4, vq_5, vq_6, vq_7, vq_8, hC_u45, t1, nw_z]
theorem E_ri0s {f : Bool} {w : Nat} (hw : wdH X n a b = some w) (hg : E 0 0 = nI g2) (hh : E 0 1 = nI h2) (g6 : g2 ≤ 6) (h4 : h2 ≤ 4) : T (d + 13) 20 0 [.ref 45, .ref 29, .int (zI f)] [] (hZ h ab be (vq (nI n) (nI b) (nI a) (tkT X n a b) (tkV X n a b x5) x6 x7 x8) O D E) Q ↔
    if (f = true ↔ w = 0) ∧ ¬ (w = 1 ∧ g2 = 6) ∧ ¬ (w = 2 ∧ h2 = 4) then T (d + 13) 20 54 [.ref 45, .ref 29, .int (zI f)] [] (hZ h ab be (vq (nI n) (nI b) (nI a) (tkT X n a b) (tkV X n a b x5) (nI w) x7 x8) O D E) Q else Q (some (.int 0)) (hZ h ab be (vq (nI n) (nI b) (nI a) (tkT X n a b) (tkV X n a b x5) (nI w) x7 x8) O D E) := by
  have W := @wd_is X n a b x5
  have w6 := (wdH_lt hw).1
  rw [wdV_s hw] at W
  generalize tkT X n a b = t at W ⊢
  generalize tkV X n a b x5 = v at W ⊢
  have nm := nm1 (w := w) (by omega)
  have n0 : ∀ w, w < 6 → ((nI w = 0) ↔ w = 0) := by decide
  by_cases t1 : t = 1
  · rw [if_pos t1] at W
    subst t1
    subst W
    have H := fun Q => @E_hasRoom (d + 12) h Q ab be O D E g2 h2 w (vq (nI n) (nI b) (nI a) 1 (nI w) (nI w) x7 x8) w6 rfl hg hh g6 h4
    by_cases q : (f = true ↔ w = 0)
    · have q2 : (zI f = if w = 0 then 1 else 0) := by
        by_cases y : w = 0
        · rw [if_pos y, q.mpr y]; rfl
        · rw [if_neg y]
          cases f with
          | true => exact absurd (q.mp rfl) y
          | false => rfl
      by_cases r : ¬ (w = 1 ∧ g2 = 6) ∧ ¬ (w = 2 ∧ h2 = 4)
      · rw [if_pos ⟨q, r⟩]
        rw [decide_eq_true r] at H
        by_cases y : w = 0
        · have z0 : (nI w = 0) = True := eq_true ((n0 w w6).mpr y)
          rw [if_pos y] at q2
          simp (disch := first | assumption | omega | decide | exact hX_o13 | exact hU_o | exact hX_o45 | exact hX_o47 | exact hX_o49 | exact hX_o54 | exact hU_o7 | exact hU_o9 | exact hU_o11 | exact hU_o13) only [t20_0, t20_1, t20_2, t20_5, t20_6, t20_9, t20_10, t20_13, t20_16, t20_17, t20_20, t20_21, t20_24, t20_25, t20_28, t20_29, t20_30, t20_33, t20_36, t20_37, t20_40, t20_41, t20_44, t20_45, t20_46, t20_49, hC_13, hC_45, hC_47, hC_49, hC_54, gF_6_0, gF_6_1, gF_6_2, gF_6_3, gF_6_4, gF_6_5, gF_6_6, gF_6_7, gF_6_8, gF_6_9, hU_0, hU_7, hU_9, hU_11, hU_13, gF_5_0, gF_5_1, gF_5_2, gF_5_3, gF_5_4, gF_5_5, gF_5_6, gF_5_7, gF_5_8, gF_5_9, gF_5_10, gF_5_11, gF_5_12, gF_5_13, gF_3_0, gF_3_1, gF_3_2, gF_3_3, ln_add, nl_add, ln_mul, nl_mul, nI_add, nI_1, i32_nl, ite_not, lt_nn, lt_nl, lt_ln, eq_nn, eq_nl, eq_ln, if_true, if_false, kil_i, kil_r, kil_l, kil_u, rl_s, rl_n, Nat.zero_add, Nat.lt_irrefl, not_true_eq_false, not_false_eq_true, true_and, dp_1, dp_2, dp_3, dp_4, dp_5, dp_6, dp_7, dp_8, dp_9, dp_10, dp_11, dp_12, dp_13, dp_14, dp_15, dp_16, dp_17, dp_18, dp_19, dp_20, dp_21, dp_22, dp_23, dp_24, dp_25, dp_26, dp_27, dp_28, dp_29, dp_30, dp_31, dp_32, dp_33, dp_34, dp_35, dp_36, dp_37, dp_38, dp_39, gF_2_4, gF_2_5, gF_2_6, pF_2_6, vq_1, vq_2, vq_3, vq_4, vq_5, vq_6, vq_7, vq_8, hC_u45, nm, z0, q2, H, zT, show ¬ (1 : Int32) = 0 by decide]
        · have z0 : (nI w = 0) = False := eq_false (fun u => y ((n0 w w6).mp u))
          rw [if_neg y] at q2
          simp (disch := first | assumption | omega | decide | exact hX_o13 | exact hU_o | exact hX_o45 | exact hX_o47 | exact hX_o49 | exact hX_o54 | exact hU_o7 | exact hU_o9 | exact hU_o11 | exact hU_o13) only [t20_0, t20_1, t20_2, t20_5, t20_6, t20_9, t20_10, t20_13, t20_16, t20_17, t20_20, t20_21, t20_24, t20_25, t20_28, t20_29, t20_30, t20_33, t20_36, t20_37, t20_40, t20_41, t20_44, t20_45, t20_46, t20_49, hC_13, hC_45, hC_47, hC_49, hC_54, gF_6_0, gF_6_1, gF_6_2, gF_6_3, gF_6_4, gF_6_5, gF_6_6, gF_6_7, gF_6_8, gF_6_9, hU_0, hU_7, hU_9, hU_11, hU_13, gF_5_0, gF_5_1, gF_5_2, gF_5_3, gF_5_4, gF_5_5, gF_5_6, gF_5_7, gF_5_8, gF_5_9, gF_5_10, gF_5_11, gF_5_12, gF_5_13, gF_3_0, gF_3_1, gF_3_2, gF_3_3, ln_add, nl_add, ln_mul, nl_mul, nI_add, nI_1, i32_nl, ite_not, lt_nn, lt_nl, lt_ln, eq_nn, eq_nl, eq_ln, if_true, if_false, kil_i, kil_r, kil_l, kil_u, rl_s, rl_n, Nat.zero_add, Nat.lt_irrefl, not_true_eq_false, not_false_eq_true, true_and, dp_1, dp_2, dp_3, dp_4, dp_5, dp_6, dp_7, dp_8, dp_9, dp_10, dp_11, dp_12, dp_13, dp_14, dp_15, dp_16, dp_17, dp_18, dp_19, dp_20, dp_21, dp_22, dp_23, dp_24, dp_25, dp_26, dp_27, dp_28, dp_29, dp_30, dp_31, dp_32, dp_33, dp_34, dp_35, dp_36, dp_37, dp_38, dp_39, gF_2_4, gF_2_5, gF_2_6, pF_2_6, vq_1, vq_2, vq_3, vq_4, vq_5, vq_6, vq_7, vq_8, hC_u45, nm, z0, q2, H, zT, show ¬ (1 : Int32) = 0 by decide]
      · rw [if_neg (fun z => r z.2)]
        rw [decide_eq_false r] at H
        by_cases y : w = 0
        · have z0 : (nI w = 0) = True := eq_true ((n0 w w6).mpr y)
          rw [if_pos y] at q2
          simp (disch := first | assumption | omega | decide | exact hX_o13 | exact hU_o | exact hX_o45 | exact hX_o47 | exact hX_o49 | exact hX_o54 | exact hU_o7 | exact hU_o9 | exact hU_o11 | exact hU_o13) only [t20_0, t20_1, t20_2, t20_5, t20_6, t20_9, t20_10, t20_13, t20_16, t20_17, t20_20, t20_21, t20_24, t20_25, t20_28, t20_29, t20_30, t20_33, t20_36, t20_37, t20_40, t20_41, t20_44, t20_45, t20_46, t20_49, t20_52, t20_53, hC_13, hC_45, hC_47, hC_49, hC_54, gF_6_0, gF_6_1, gF_6_2, gF_6_3, gF_6_4, gF_6_5, gF_6_6, gF_6_7, gF_6_8, gF_6_9, hU_0, hU_7, hU_9, hU_11, hU_13, gF_5_0, gF_5_1, gF_5_2, gF_5_3, gF_5_4, gF_5_5, gF_5_6, gF_5_7, gF_5_8, gF_5_9, gF_5_10, gF_5_11, gF_5_12, gF_5_13, gF_3_0, gF_3_1, gF_3_2, gF_3_3, ln_add, nl_add, ln_mul, nl_mul, nI_add, nI_1, i32_nl, ite_not, lt_nn, lt_nl, lt_ln, eq_nn, eq_nl, eq_ln, if_true, if_false, kil_i, kil_r, kil_l, kil_u, rl_s, rl_n, Nat.zero_add, Nat.lt_irrefl, not_true_eq_false, not_false_eq_true, true_and, dp_1, dp_2, dp_3, dp_4, dp_5, dp_6, dp_7, dp_8, dp_9, dp_10, dp_11, dp_12, dp_13, dp_14, dp_15, dp_16, dp_17, dp_18, dp_19, dp_20, dp_21, dp_22, dp_23, dp_24, dp_25, dp_26, dp_27, dp_28, dp_29, dp_30, dp_31, dp_32, dp_33, dp_34, dp_35, dp_36, dp_37, dp_38, dp_39, gF_2_4, gF_2_5, gF_2_6, pF_2_6, vq_1, vq_2, vq_3, vq_4, vq_5, vq_6, vq_7, vq_8, hC_u45, nm, z0, q2, H, zF, nw_z]
        · have z0 : (nI w = 0) = False := eq_false (fun u => y ((n0 w w6).mp u))
          rw [if_neg y] at q2
          simp (disch := first | assumption | omega | decide | exact hX_o13 | exact hU_o | exact hX_o45 | exact hX_o47 | exact hX_o49 | exact hX_o54 | exact hU_o7 | exact hU_o9 | exact hU_o11 | exact hU_o13) only [t20_0, t20_1, t20_2, t20_5, t20_6, t20_9, t20_10, t20_13, t20_16, t20_17, t20_20, t20_21, t20_24, t20_25, t20_28, t20_29, t20_30, t20_33, t20_36, t20_37, t20_40, t20_41, t20_44, t20_45, t20_46, t20_49, t20_52, t20_53, hC_13, hC_45, hC_47, hC_49, hC_54, gF_6_0, gF_6_1, gF_6_2, gF_6_3, gF_6_4, gF_6_5, gF_6_6, gF_6_7, gF_6_8, gF_6_9, hU_0, hU_7, hU_9, hU_11, hU_13, gF_5_0, gF_5_1, gF_5_2, gF_5_3, gF_5_4, gF_5_5, gF_5_6, gF_5_7, gF_5_8, gF_5_9, gF_5_10, gF_5_11, gF_5_12, gF_5_13, gF_3_0, gF_3_1, gF_3_2, gF_3_3, ln_add, nl_add, ln_mul, nl_mul, nI_add, nI_1, i32_nl, ite_not, lt_nn, lt_nl, lt_ln, eq_nn, eq_nl, eq_ln, if_true, if_false, kil_i, kil_r, kil_l, kil_u, rl_s, rl_n, Nat.zero_add, Nat.lt_irrefl, not_true_eq_false, not_false_eq_true, true_and, dp_1, dp_2, dp_3, dp_4, dp_5, dp_6, dp_7, dp_8, dp_9, dp_10, dp_11, dp_12, dp_13, dp_14, dp_15, dp_16, dp_17, dp_18, dp_19, dp_20, dp_21, dp_22, dp_23, dp_24, dp_25, dp_26, dp_27, dp_28, dp_29, dp_30, dp_31, dp_32, dp_33, dp_34, dp_35, dp_36, dp_37, dp_38, dp_39, gF_2_4, gF_2_5, gF_2_6, pF_2_6, vq_1, vq_2, vq_3, vq_4, vq_5, vq_6, vq_7, vq_8, hC_u45, nm, z0, q2, H, zF, nw_z]
    · rw [if_neg (fun z => q z.1)]
      have q2 : ¬ (zI f = if w = 0 then 1 else 0) := by
        intro z
        by_cases y : w = 0
        · rw [if_pos y] at z
          cases f with
          | true => exact q ⟨fun _ => y, fun _ => rfl⟩
          | false => exact absurd z (by decide)
        · rw [if_neg y] at z
          cases f with
          | true => exact absurd z (by decide)
          | false => exact q ⟨fun u => (by cases u), fun u => absurd u y⟩
      by_cases y : w = 0
      · have z0 : (nI w = 0) = True := eq_true ((n0 w w6).mpr y)
        rw [if_pos y] at q2
        simp (disch := first | assumption | omega | decide | exact hX_o13 | exact hU_o | exact hX_o45 | exact hX_o47 | exact hX_o49 | exact hX_o54 | exact hU_o7 | exact hU_o9 | exact hU_o11 | exact hU_o13) only [t20_0, t20_1, t20_2, t20_5, t20_6, t20_9, t20_10, t20_13, t20_16, t20_17, t20_20, t20_21, t20_24, t20_25, t20_28, t20_29, t20_30, t20_33, t20_36, t20_37, t20_40, t20_41, t20_52, t20_53, hC_13, hC_45, hC_47, hC_49, hC_54, gF_6_0, gF_6_1, gF_6_2, gF_6_3, gF_6_4, gF_6_5, gF_6_6, gF_6_7, gF_6_8, gF_6_9, hU_0, hU_7, hU_9, hU_11, hU_13, gF_5_0, gF_5_1, gF_5_2, gF_5_3, gF_5_4, gF_5_5, gF_5_6, gF_5_7, gF_5_8, gF_5_9, gF_5_10, gF_5_11, gF_5_12, gF_5_13, gF_3_0, gF_3_1, gF_3_2, gF_3_3, ln_add, nl_add, ln_mul, nl_mul, nI_add, nI_1, i32_nl, ite_not, lt_nn, lt_nl, lt_ln, eq_nn, eq_nl, eq_ln, if_true, if_false, kil_i, kil_r, kil_l, kil_u, rl_s, rl_n, Nat.zero_add, Nat.lt_irrefl, not_true_eq_false, not_false_eq_true, true_and, dp_1, dp_2, dp_3, dp_4, dp_5, dp_6, dp_7, dp_8, dp_9, dp_10, dp_11, dp_12, dp_13, dp_14, dp_15, dp_16, dp_17, dp_18, dp_19, dp_20, dp_21, dp_22, dp_23, dp_24, dp_25, dp_26, dp_27, dp_28, dp_29, dp_30, dp_31, dp_32, dp_33, dp_34, dp_35, dp_36, dp_37, dp_38, dp_39, gF_2_4, gF_2_5, gF_2_6, pF_2_6, vq_1, vq_2, vq_3, vq_4, vq_5, vq_6, vq_7, vq_8, hC_u45, nm, z0, q2, nw_z]
      · have z0 : (nI w = 0) = False := eq_false (fun u => y ((n0 w w6).mp u))
        rw [if_neg y] at q2
        simp (disch := first | assumption | omega | decide | exact hX_o13 | exact hU_o | exact hX_o45 | exact hX_o47 | exact hX_o49 | exact hX_o54 | exact hU_o7 | exact hU_o9 | exact hU_o11 | exact hU_o13) only [t20_0, t20_1, t20_2, t20_5, t20_6, t20_9, t20_10, t20_13, t20_16, t20_17, t20_20, t20_21, t20_24, t20_25, t20_28, t20_29, t20_30, t20_33, t20_36, t20_37, t20_40, t20_41, t20_52, t20_53, hC_13, hC_45, hC_47, hC_49, hC_54, gF_6_0, gF_6_1, gF_6_2, gF_6_3, gF_6_4, gF_6_5, gF_6_6, gF_6_7, gF_6_8, gF_6_9, hU_0, hU_7, hU_9, hU_11, hU_13, gF_5_0, gF_5_1, gF_5_2, gF_5_3, gF_5_4, gF_5_5, gF_5_6, gF_5_7, gF_5_8, gF_5_9, gF_5_10, gF_5_11, gF_5_12, gF_5_13, gF_3_0, gF_3_1, gF_3_2, gF_3_3, ln_add, nl_add, ln_mul, nl_mul, nI_add, nI_1, i32_nl, ite_not, lt_nn, lt_nl, lt_ln, eq_nn, eq_nl, eq_ln, if_true, if_false, kil_i, kil_r, kil_l, kil_u, rl_s, rl_n, Nat.zero_add, Nat.lt_irrefl, not_true_eq_false, not_false_eq_true, true_and, dp_1, dp_2, dp_3, dp_4, dp_5, dp_6, dp_7, dp_8, dp_9, dp_10, dp_11, dp_12, dp_13, dp_14, dp_15, dp_16, dp_17, dp_18, dp_19, dp_20, dp_21, dp_22, dp_23, dp_24, dp_25, dp_26, dp_27, dp_28, dp_29, dp_30, dp_31, dp_32, dp_33, dp_34, dp_35, dp_36, dp_37, dp_38, dp_39, gF_2_4, gF_2_5, gF_2_6, pF_2_6, vq_1, vq_2, vq_3, vq_4, vq_5, vq_6, vq_7, vq_8, hC_u45, nm, z0, q2, nw_z]
  · rw [if_neg t1] at W
    exact absurd W.symm nm
end RB
