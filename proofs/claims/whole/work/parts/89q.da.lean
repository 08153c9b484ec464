/-! place: both answer the same -/
section XP
variable {d : Nat} {h : Hp} {S : St} {g hh sn nn mn un0 n : Nat} {Q : Pst}
theorem X_place {i : Int32} {v : Nat} {w : Nat → Nat} (c : ClsAt h S g hh sn nn mn un0 n) (hv : ∀ s, KSr hh (stP (sR S)) g 0 (fun _ => 0) 0 (fun _ => 0) s = tkS v w s)
    (k1 : ¬ i = -1 → ¬ rg i 0 (g - 1 : Int) = true → ∀ h2, CAx h2 (refu S 0) → frC h h2 → Q (some (.int (-10))) h2)
    (k2 : i = -1 → ∀ x h2, x.toInt = (v : Int) → CAx h2 S → frC h h2 → Q (some (.int x)) h2)
    (k3 : ¬ i = -1 → rg i 0 (g - 1 : Int) = true → ∀ h2, CAx h2 S → frC h h2 → Q (some (.int (nI (w i.toNatClampNeg) - 1))) h2) :
    T (d + 15) 95 0 [.ref 13, .int i] [] h Q := by
  obtain ⟨ab, be, V, O, D, I, c1, c2, cb, ri, sm⟩ := c
  refine T_eq (hX_self c1 c2) ?_
  have re := sm.rl ri
  have h6 := ri.1.2
  have fin : ∀ A m C W B, RkP g m B (KSr hh (stP (sR S)) g 0 (fun _ => 0) 0 (fun _ => 0) (-1, fun _ => 0)) → m.toInt = v ∧ (∀ k, k < g → B k = nI (w k) - 1) ∧ CAx (hP h ab be V (wA O 50 A) D (nI g) (nI hh) m C W B) S := fun A m C W B r => by
    rw [hv, tkS_lo (by show (-1 : Int) < v; omega)] at r
    exact ⟨r.1, r.2 (by show (0 : Int) ≤ v; omega), CA_of cb.oP ri sm⟩
  by_cases q : i = -1
  · simp (disch := first | assumption | omega | decide | exact hX_o13 | exact hU_o | exact hX_o45 | exact hX_o47 | exact hX_o49 | exact hX_o54 | exact hU_o7 | exact hU_o9 | exact hU_o11 | exact hU_o13) only [t95_0, t95_1, t95_2, t95_26, t95_27, t95_30, t95_31, t95_34, hC_13, hC_45, hC_47, hC_49, hC_54, gF_6_0, gF_6_1, gF_6_2, gF_6_3, gF_6_4, gF_6_5, gF_6_6, gF_6_7, gF_6_8, gF_6_9, hU_0, hU_7, hU_9, hU_11, hU_13, gF_5_0, gF_5_1, gF_5_2, gF_5_3, gF_5_4, gF_5_5, gF_5_6, gF_5_7, gF_5_8, gF_5_9, gF_5_10, gF_5_11, gF_5_12, gF_5_13, gF_3_0, gF_3_1, gF_3_2, gF_3_3, ln_add, nl_add, ln_mul, nl_mul, nI_add, nI_1, i32_nl, ite_not, lt_nn, lt_nl, lt_ln, eq_nn, eq_nl, eq_ln, if_true, if_false, kil_i, kil_r, kil_l, kil_u, rl_s, rl_n, Nat.zero_add, Nat.lt_irrefl, not_true_eq_false, not_false_eq_true, true_and, dp_1, dp_2, dp_3, dp_4, dp_5, dp_6, dp_7, dp_8, dp_9, dp_10, dp_11, dp_12, dp_13, dp_14, dp_15, dp_16, dp_17, dp_18, dp_19, dp_20, dp_21, dp_22, dp_23, dp_24, dp_25, dp_26, dp_27, dp_28, dp_29, dp_30, dp_31, dp_32, dp_33, dp_34, dp_35, dp_36, dp_37, dp_38, dp_39, q]
    refine W_findBest (d := d) ri sm (fun A m C W B r => ?_)
    obtain ⟨f1, f2, f3⟩ := fin A m C W B r
    simp (disch := first | assumption | omega | decide | exact hX_o13 | exact hU_o | exact hX_o45 | exact hX_o47 | exact hX_o49 | exact hX_o54 | exact hU_o7 | exact hU_o9 | exact hU_o11 | exact hU_o13) only [t95_37, t95_38, t95_39, t95_42, t95_43, t95_46, t95_49, t95_52, t95_53, t95_56, t95_59, t95_60, t95_63, hC_13, hC_45, hC_47, hC_49, hC_54, gF_6_0, gF_6_1, gF_6_2, gF_6_3, gF_6_4, gF_6_5, gF_6_6, gF_6_7, gF_6_8, gF_6_9, hU_0, hU_7, hU_9, hU_11, hU_13, gF_5_0, gF_5_1, gF_5_2, gF_5_3, gF_5_4, gF_5_5, gF_5_6, gF_5_7, gF_5_8, gF_5_9, gF_5_10, gF_5_11, gF_5_12, gF_5_13, gF_3_0, gF_3_1, gF_3_2, gF_3_3, ln_add, nl_add, ln_mul, nl_mul, nI_add, nI_1, i32_nl, ite_not, lt_nn, lt_nl, lt_ln, eq_nn, eq_nl, eq_ln, if_true, if_false, kil_i, kil_r, kil_l, kil_u, rl_s, rl_n, Nat.zero_add, Nat.lt_irrefl, not_true_eq_false, not_false_eq_true, true_and, dp_1, dp_2, dp_3, dp_4, dp_5, dp_6, dp_7, dp_8, dp_9, dp_10, dp_11, dp_12, dp_13, dp_14, dp_15, dp_16, dp_17, dp_18, dp_19, dp_20, dp_21, dp_22, dp_23, dp_24, dp_25, dp_26, dp_27, dp_28, dp_29, dp_30, dp_31, dp_32, dp_33, dp_34, dp_35, dp_36, dp_37, dp_38, dp_39, oP_a, oP_b, oP_c, gF_4_6]
    exact k2 q m _ f1 f3 frC_X
  · by_cases q2 : rg i 0 (g - 1 : Int) = true
    · have k3 := k3 q q2
      obtain ⟨a, ha, rfl⟩ := rg_n q2
      simp (disch := first | assumption | omega | decide) only [nI_clamp] at k3
      simp (disch := first | assumption | omega | decide | exact hX_o13 | exact hU_o | exact hX_o45 | exact hX_o47 | exact hX_o49 | exact hX_o54 | exact hU_o7 | exact hU_o9 | exact hU_o11 | exact hU_o13) only [t95_0, t95_1, t95_2, t95_5, t95_6, t95_9, t95_10, t95_13, t95_16, t95_17, t95_19, t95_22, t95_23, t95_25, t95_26, t95_27, t95_30, t95_31, t95_34, hC_13, hC_45, hC_47, hC_49, hC_54, gF_6_0, gF_6_1, gF_6_2, gF_6_3, gF_6_4, gF_6_5, gF_6_6, gF_6_7, gF_6_8, gF_6_9, hU_0, hU_7, hU_9, hU_11, hU_13, gF_5_0, gF_5_1, gF_5_2, gF_5_3, gF_5_4, gF_5_5, gF_5_6, gF_5_7, gF_5_8, gF_5_9, gF_5_10, gF_5_11, gF_5_12, gF_5_13, gF_3_0, gF_3_1, gF_3_2, gF_3_3, ln_add, nl_add, ln_mul, nl_mul, nI_add, nI_1, i32_nl, ite_not, lt_nn, lt_nl, lt_ln, eq_nn, eq_nl, eq_ln, if_true, if_false, kil_i, kil_r, kil_l, kil_u, rl_s, rl_n, Nat.zero_add, Nat.lt_irrefl, not_true_eq_false, not_false_eq_true, true_and, dp_1, dp_2, dp_3, dp_4, dp_5, dp_6, dp_7, dp_8, dp_9, dp_10, dp_11, dp_12, dp_13, dp_14, dp_15, dp_16, dp_17, dp_18, dp_19, dp_20, dp_21, dp_22, dp_23, dp_24, dp_25, dp_26, dp_27, dp_28, dp_29, dp_30, dp_31, dp_32, dp_33, dp_34, dp_35, dp_36, dp_37, dp_38, dp_39, U_hasGuest re, zb_0, q, q2]
      refine W_findBest (d := d) ri sm (fun A m C W B r => ?_)
      obtain ⟨f1, f2, f3⟩ := fin A m C W B r
      simp (disch := first | assumption | omega | decide | exact hX_o13 | exact hU_o | exact hX_o45 | exact hX_o47 | exact hX_o49 | exact hX_o54 | exact hU_o7 | exact hU_o9 | exact hU_o11 | exact hU_o13) only [t95_37, t95_38, t95_39, t95_42, t95_43, t95_46, t95_49, t95_52, t95_53, t95_56, t95_59, t95_60, t95_63, hC_13, hC_45, hC_47, hC_49, hC_54, gF_6_0, gF_6_1, gF_6_2, gF_6_3, gF_6_4, gF_6_5, gF_6_6, gF_6_7, gF_6_8, gF_6_9, hU_0, hU_7, hU_9, hU_11, hU_13, gF_5_0, gF_5_1, gF_5_2, gF_5_3, gF_5_4, gF_5_5, gF_5_6, gF_5_7, gF_5_8, gF_5_9, gF_5_10, gF_5_11, gF_5_12, gF_5_13, gF_3_0, gF_3_1, gF_3_2, gF_3_3, ln_add, nl_add, ln_mul, nl_mul, nI_add, nI_1, i32_nl, ite_not, lt_nn, lt_nl, lt_ln, eq_nn, eq_nl, eq_ln, if_true, if_false, kil_i, kil_r, kil_l, kil_u, rl_s, rl_n, Nat.zero_add, Nat.lt_irrefl, not_true_eq_false, not_false_eq_true, true_and, dp_1, dp_2, dp_3, dp_4, dp_5, dp_6, dp_7, dp_8, dp_9, dp_10, dp_11, dp_12, dp_13, dp_14, dp_15, dp_16, dp_17, dp_18, dp_19, dp_20, dp_21, dp_22, dp_23, dp_24, dp_25, dp_26, dp_27, dp_28, dp_29, dp_30, dp_31, dp_32, dp_33, dp_34, dp_35, dp_36, dp_37, dp_38, dp_39, oP_a, oP_b, oP_c, gF_4_3, q, G_n hP_53 (show a < 6 by omega) (by decide), f2 a ha]
      exact k3 _ f3 frC_X
    · simp (disch := first | assumption | omega | decide | exact hX_o13 | exact hU_o | exact hX_o45 | exact hX_o47 | exact hX_o49 | exact hX_o54 | exact hU_o7 | exact hU_o9 | exact hU_o11 | exact hU_o13) only [t95_0, t95_1, t95_2, t95_5, t95_6, t95_9, t95_10, t95_13, t95_16, t95_17, t95_19, t95_22, t95_23, t95_25, hC_13, hC_45, hC_47, hC_49, hC_54, gF_6_0, gF_6_1, gF_6_2, gF_6_3, gF_6_4, gF_6_5, gF_6_6, gF_6_7, gF_6_8, gF_6_9, hU_0, hU_7, hU_9, hU_11, hU_13, gF_5_0, gF_5_1, gF_5_2, gF_5_3, gF_5_4, gF_5_5, gF_5_6, gF_5_7, gF_5_8, gF_5_9, gF_5_10, gF_5_11, gF_5_12, gF_5_13, gF_3_0, gF_3_1, gF_3_2, gF_3_3, ln_add, nl_add, ln_mul, nl_mul, nI_add, nI_1, i32_nl, ite_not, lt_nn, lt_nl, lt_ln, eq_nn, eq_nl, eq_ln, if_true, if_false, kil_i, kil_r, kil_l, kil_u, rl_s, rl_n, Nat.zero_add, Nat.lt_irrefl, not_true_eq_false, not_false_eq_true, true_and, dp_1, dp_2, dp_3, dp_4, dp_5, dp_6, dp_7, dp_8, dp_9, dp_10, dp_11, dp_12, dp_13, dp_14, dp_15, dp_16, dp_17, dp_18, dp_19, dp_20, dp_21, dp_22, dp_23, dp_24, dp_25, dp_26, dp_27, dp_28, dp_29, dp_30, dp_31, dp_32, dp_33, dp_34, dp_35, dp_36, dp_37, dp_38, dp_39, U_hasGuest re, zb_0, q, q2, C_refB, Bool.false_eq_true]
      exact k1 q q2 _ (CA_of (cb.ref 0) ri sm) frC_X
end XP
set_option maxHeartbeats 1000000 in
theorem LC_place : LC 758 := by
  intro d L xs i h Q hi hL I K
  obtain ⟨I0, S, m, g, hh, sn, nn, mn, un0, n, c⟩ := I
  have F := CL_f c
  have ho := CL_o c
  have i1 := I0.1
  obtain ⟨v, w, hv, hp⟩ := plS_f (R := sR S) F.1.2 F.2.1.2
  simp (disch := first | assumption | omega) only [t221_758, t221_759, t221_760, t221_761, t221_762, t221_763, t221_764, i1, aL_3n, nl_add]
  refine X_place (w := w) c hv (fun q1 q2 h2 c2 f2 => ?_) (fun q1 x h2 ex c2 f2 => ?_) (fun q1 q2 h2 c2 f2 => ?_)
  · have m2 := MA_frC m f2
    have J0 := Iv_frC I0 f2
    have ho := MA_o m2
    have i2 := J0.1
    simp (disch := first | assumption | omega) only [t221_767, t221_768, t221_769, t221_770, t221_771, t221_772, t221_773, i2, aL_3n, nl_add, rl_s]
    refine M_place m2 F.1.1 F.1.2 F.2.1.1 F.2.1.2 (fun p1 p2 h3 m3 f3 => ?_) (fun p1 B0 h3 m3 f3 => absurd p1 q1) (fun p1 p2 B0 h3 m3 f3 => absurd p2 q2)
    simp only [t221_776, rl_s, if_true]
    exact K h3 (Iv_mk J0 c2 m3 f3)
  · have m2 := MA_frC m f2
    have J0 := Iv_frC I0 f2
    have ho := MA_o m2
    have i2 := J0.1
    simp (disch := first | assumption | omega) only [t221_767, t221_768, t221_769, t221_770, t221_771, t221_772, t221_773, i2, aL_3n, nl_add, rl_s]
    refine M_place m2 F.1.1 F.1.2 F.2.1.1 F.2.1.2 (fun p1 p2 h3 m3 f3 => absurd q1 p1) (fun p1 B0 h3 m3 f3 => ?_) (fun p1 p2 B0 h3 m3 f3 => absurd q1 p1)
    obtain ⟨e1, e2, e3⟩ := hp B0
    have ev : x = (plS g hh (sR S) B0).1 := Int32.toInt_inj.mp (ex.trans e1.symm)
    rw [ev]
    simp only [t221_776, rl_s, if_true]
    exact K h3 (Iv_mk J0 (CA_tried c2 e3) m3 f3)
  · have m2 := MA_frC m f2
    have J0 := Iv_frC I0 f2
    have ho := MA_o m2
    have i2 := J0.1
    simp (disch := first | assumption | omega) only [t221_767, t221_768, t221_769, t221_770, t221_771, t221_772, t221_773, i2, aL_3n, nl_add, rl_s]
    refine M_place m2 F.1.1 F.1.2 F.2.1.1 F.2.1.2 (fun p1 p2 h3 m3 f3 => absurd q2 p2) (fun p1 B0 h3 m3 f3 => absurd p1 q1) (fun p1 p2 B0 h3 m3 f3 => ?_)
    obtain ⟨e1, e2, e3⟩ := hp B0
    obtain ⟨a, ha, ea⟩ := rg_n q2
    have ek : (xs (i + 1)).toNatClampNeg = a := by rw [ea]; exact nI_clamp (by have := F.1.2; omega)
    have ev : (plS g hh (sR S) B0).2.1 (xs (i + 1)).toNatClampNeg = nI (w (xs (i + 1)).toNatClampNeg) := e2 _ (by omega)
    rw [ev]
    simp only [t221_776, rl_s, if_true]
    exact K h3 (Iv_mk J0 (CA_tried c2 e3) m3 f3)
