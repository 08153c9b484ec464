/-! read: the class's loop over the items -/
section RL
variable {d : Nat} {h : Hp} {Q : Pst} {ab be : Int32} {O D : Nat → Nat → Int32} {X : Nat → Int32} {n : Nat}
theorem rdL_tf : ∀ f a b it g2 h2 (R R2 : Nat → Int32), (rdL X n true f a b it g2 h2 R).1 = (rdL X n false f a b it g2 h2 R2).1 ∧ (rdL X n true f a b it g2 h2 R).2.1 = (rdL X n false f a b it g2 h2 R2).2.1 := by
  intro f
  induction f with
  | zero => intro a b it g2 h2 R R2; exact ⟨rfl, rfl⟩
  | succ f ih =>
    intro a b it g2 h2 R R2
    unfold rdL
    by_cases q : ¬ it = 0 ∧ n ≤ a
    · rw [if_pos q, if_pos q]; exact ⟨rfl, rfl⟩
    · rw [if_neg q, if_neg q]
      cases hw : wdH X n a b with
      | none => exact ⟨rfl, rfl⟩
      | some w =>
        simp only []
        by_cases qs : ¬ (w = 0 ↔ it = 0)
        · rw [if_pos qs, if_pos qs]; exact ⟨rfl, rfl⟩
        · rw [if_neg qs, if_neg qs]
          by_cases qo : (itm X n a b g2 h2 w).1 = true
          · rw [if_pos qo, if_pos qo]
            by_cases q5 : tkA X n (itm X n a b g2 h2 w).2.2.2.2 < n ∧ X (tkA X n (itm X n a b g2 h2 w).2.2.2.2) = 59
            · rw [if_pos q5, if_pos q5]; exact ih _ _ _ _ _ _ _
            · rw [if_neg q5, if_neg q5]; exact ⟨rfl, rfl⟩
          · rw [if_neg qo, if_neg qo]; exact ⟨rfl, rfl⟩
section RQ
variable {dg : Bool} {f a b it g2 h2 w : Nat} {R : Nat → Int32}
theorem rdL_0 (q : ¬ it = 0 ∧ n ≤ a) : rdL X n dg (f + 1) a b it g2 h2 R = (some it, a, R) := by
  unfold rdL; rw [if_pos q]
theorem rdL_n (q : ¬ (¬ it = 0 ∧ n ≤ a)) (hw : wdH X n a b = none) : rdL X n dg (f + 1) a b it g2 h2 R = (none, a, R) := by
  unfold rdL; rw [if_neg q, hw]
theorem rdL_x (q : ¬ (¬ it = 0 ∧ n ≤ a)) (hw : wdH X n a b = some w) (qs : ¬ (w = 0 ↔ it = 0)) : rdL X n dg (f + 1) a b it g2 h2 R = (none, a, R) := by
  unfold rdL; rw [if_neg q, hw]
  simp only []
  rw [if_pos qs]
theorem rdL_3 (q : ¬ (¬ it = 0 ∧ n ≤ a)) (hw : wdH X n a b = some w) (qs : w = 0 ↔ it = 0) (qo : ¬ (itm X n a b g2 h2 w).1 = true) : rdL X n dg (f + 1) a b it g2 h2 R = (none, (itm X n a b g2 h2 w).2.2.2.1, R) := by
  unfold rdL; rw [if_neg q, hw]
  simp only []
  rw [if_neg (not_not_intro qs), if_neg qo]
theorem rdL_2 (q : ¬ (¬ it = 0 ∧ n ≤ a)) (hw : wdH X n a b = some w) (qs : w = 0 ↔ it = 0) (qo : (itm X n a b g2 h2 w).1 = true) (q5 : ¬ (tkA X n (itm X n a b g2 h2 w).2.2.2.2 < n ∧ X (tkA X n (itm X n a b g2 h2 w).2.2.2.2) = 59)) : rdL X n true (f + 1) a b it g2 h2 R = (none, tkA X n (itm X n a b g2 h2 w).2.2.2.2, cmdR w (itm X n a b g2 h2 w).2.1 (itm X n a b g2 h2 w).2.2.1 R) := by
  unfold rdL; rw [if_neg q, hw]
  simp only []
  rw [if_neg (not_not_intro qs), if_pos qo, if_neg q5, if_pos trivial]
theorem rdL_1 (q : ¬ (¬ it = 0 ∧ n ≤ a)) (hw : wdH X n a b = some w) (qs : w = 0 ↔ it = 0) (qo : (itm X n a b g2 h2 w).1 = true) (q5 : tkA X n (itm X n a b g2 h2 w).2.2.2.2 < n ∧ X (tkA X n (itm X n a b g2 h2 w).2.2.2.2) = 59) : rdL X n true (f + 1) a b it g2 h2 R = rdL X n true f (tkA X n (tkE X n (itm X n a b g2 h2 w).2.2.2.2)) (tkE X n (tkE X n (itm X n a b g2 h2 w).2.2.2.2)) (it + 1) (itG (itm X n a b g2 h2 w) w g2) (itH (itm X n a b g2 h2 w) w h2) (cmdR w (itm X n a b g2 h2 w).2.1 (itm X n a b g2 h2 w).2.2.1 R) := by
  conv => lhs; unfold rdL
  rw [if_neg q, hw]
  simp only []
  rw [if_neg (not_not_intro qs), if_pos qo, if_pos q5, if_pos trivial]
end RQ
theorem tk_end {a e : Nat} : tkT X n a e = 0 ↔ ¬ a < n := by
  unfold tkT
  constructor
  · intro z
    split at z
    · split at z
      · exact absurd z (by decide)
      · split at z
        · split at z
          · exact absurd z (by decide)
          · exact absurd z (by decide)
        · split at z
          · exact absurd z (by decide)
          · exact absurd z (by decide)
    · assumption
  · intro z; rw [if_neg z]
theorem hZ_14 {V : Nat → Int32} {E : Nat → Nat → Int32} : hZ h ab be V O D E = hU (hU (hC h ab be V O) 29 E) 14 D := by
  show hU (hC (hU h 29 E) ab be V O) 14 D = _
  rw [hC_hU29]
theorem r0R_w {w it : Nat} {R : Nat → Int32} (qs : w = 0 ↔ it = 0) : r0R w R = r0R it R := by
  unfold r0R
  by_cases z : it = 0
  · rw [if_pos z, if_pos (qs.mpr z)]
  · rw [if_neg z, if_neg (fun y => z (qs.mp y))]
theorem L_rd (s : StrOk h) (hO : O 46 = X) (hn : n ≤ 150) : ∀ f p it g2 h2 (R : Nat → Int32) (E : Nat → Nat → Int32) (x3 x4 x5 x6 x7 x8 : Int32), p ≤ n → it ≤ p → n < tkA X n p + f → (it = 0 → g2 = 0 ∧ h2 = 0) → RI (r0R it R) g2 h2 0 0 0 0 → SM E (r0R it R) g2 h2 0 0 0 0 →
    (∀ itn R3 g3 h3 E3 x2 x3 x4 x5 x6 x7 x8, rdL X n true f (tkA X n p) (tkE X n p) it g2 h2 R = (some itn, R3) → RI R3.2 g3 h3 0 0 0 0 → SM E3 R3.2 g3 h3 0 0 0 0 → (∀ j, 208 ≤ j → R3.2 j = R j) → Q (some (.int (nI itn))) (hZ h ab be (vq (nI n) x2 x3 x4 x5 x6 x7 x8) O (tkD D E3) E3)) →
    (∀ R3 E3 x2 x4 x5 x6 x7 x8, rdL X n true f (tkA X n p) (tkE X n p) it g2 h2 R = (none, R3) → Q (some (.int (-10 - nI R3.1))) (hZ h ab be (vq (nI n) x2 (nI R3.1) x4 x5 x6 x7 x8) O D E3)) →
    T (d + 14) 80 18 [.ref 13, .int (nI it)] [] (hZ h ab be (vq (nI n) (nI p) x3 x4 x5 x6 x7 x8) O D E) Q := by
  intro f
  induction f with
  | zero => intro p it g2 h2 R E x3 x4 x5 x6 x7 x8 hp _ hf; have := tkA_le (X := X) hp; omega
  | succ f ih =>
    intro p it g2 h2 R E x3 x4 x5 x6 x7 x8 hp hit hf h0 ri sm kS kF
    have g6 := ri.1.2
    have h4 := ri.2.1.2
    have eg : E 0 0 = nI g2 := sm.1.1.trans ri.1.1
    have eh : E 0 1 = nI h2 := sm.1.2.1.trans ri.2.1.1
    have ha := tkA_le (X := X) hp
    have hb := tkE_le (X := X) hp
    have pa := tkA_ge (X := X) (n := n) (b := p)
    have te := @tk_end X n (tkA X n p) (tkE X n p)
    have ST := fun Q => @E_step (d + 3) (hU h 29 E) Q ab be O D X n p x3 x4 x5 x6 x7 x8 s.Z hO hn hp
    have gt : tkA X n p < n → tkA X n p + 1 ≤ tkE X n p := tkE_gt
    have l0 : (nI it ≤ 0) ↔ it = 0 := by
      rw [i32_le, nI_toInt (by omega), i32_0]; omega
    rw [t80_18]
    simp (disch := first | assumption | omega | decide | exact hX_o13 | exact hU_o | exact hX_o45 | exact hX_o47 | exact hX_o49 | exact hX_o54 | exact hU_o7 | exact hU_o9 | exact hU_o11 | exact hU_o13) only [t80_19, t80_22, t80_25, t80_26, t80_29, hC_13, hC_45, hC_47, hC_49, hC_54, gF_6_0, gF_6_1, gF_6_2, gF_6_3, gF_6_4, gF_6_5, gF_6_6, gF_6_7, gF_6_8, gF_6_9, hU_0, hU_7, hU_9, hU_11, hU_13, gF_5_0, gF_5_1, gF_5_2, gF_5_3, gF_5_4, gF_5_5, gF_5_6, gF_5_7, gF_5_8, gF_5_9, gF_5_10, gF_5_11, gF_5_12, gF_5_13, gF_3_0, gF_3_1, gF_3_2, gF_3_3, ln_add, nl_add, ln_mul, nl_mul, nI_add, nI_1, i32_nl, ite_not, lt_nn, lt_nl, lt_ln, eq_nn, eq_nl, eq_ln, if_true, if_false, kil_i, kil_r, kil_l, kil_u, rl_s, rl_n, Nat.zero_add, Nat.lt_irrefl, not_true_eq_false, not_false_eq_true, true_and, dp_1, dp_2, dp_3, dp_4, dp_5, dp_6, dp_7, dp_8, dp_9, dp_10, dp_11, dp_12, dp_13, dp_14, dp_15, dp_16, dp_17, dp_18, dp_19, dp_20, dp_21, dp_22, dp_23, dp_24, dp_25, dp_26, dp_27, dp_28, dp_29, dp_30, dp_31, dp_32, dp_33, dp_34, dp_35, dp_36, dp_37, dp_38, dp_39, show ¬ 150 < it by omega]
    refine (ST _).2 ?_
    generalize tkA X n p = a at *
    generalize tkE X n p = b at *
    by_cases q : ¬ it = 0 ∧ n ≤ a
    · have q1 := q.1
      have t0 : tkT X n a b = 0 := te.mpr (by omega)
      rw [rdL_0 q] at kS
      have er : r0R it R = R := if_neg q1
      rw [er] at ri sm
      obtain ⟨⟨f1, f2⟩, ⟨f3, f4⟩, ⟨f5, f6⟩, ⟨f7, f8⟩⟩ := ri.four sm
      simp (disch := first | assumption | omega | decide | exact hX_o13 | exact hU_o | exact hX_o45 | exact hX_o47 | exact hX_o49 | exact hX_o54 | exact hU_o7 | exact hU_o9 | exact hU_o11 | exact hU_o13) only [t80_32, t80_33, t80_36, t80_37, t80_40, t80_43, t80_46, t80_47, t80_50, t80_51, t80_54, hC_13, hC_45, hC_47, hC_49, hC_54, gF_6_0, gF_6_1, gF_6_2, gF_6_3, gF_6_4, gF_6_5, gF_6_6, gF_6_7, gF_6_8, gF_6_9, hU_0, hU_7, hU_9, hU_11, hU_13, gF_5_0, gF_5_1, gF_5_2, gF_5_3, gF_5_4, gF_5_5, gF_5_6, gF_5_7, gF_5_8, gF_5_9, gF_5_10, gF_5_11, gF_5_12, gF_5_13, gF_3_0, gF_3_1, gF_3_2, gF_3_3, ln_add, nl_add, ln_mul, nl_mul, nI_add, nI_1, i32_nl, ite_not, lt_nn, lt_nl, lt_ln, eq_nn, eq_nl, eq_ln, if_true, if_false, kil_i, kil_r, kil_l, kil_u, rl_s, rl_n, Nat.zero_add, Nat.lt_irrefl, not_true_eq_false, not_false_eq_true, true_and, dp_1, dp_2, dp_3, dp_4, dp_5, dp_6, dp_7, dp_8, dp_9, dp_10, dp_11, dp_12, dp_13, dp_14, dp_15, dp_16, dp_17, dp_18, dp_19, dp_20, dp_21, dp_22, dp_23, dp_24, dp_25, dp_26, dp_27, dp_28, dp_29, dp_30, dp_31, dp_32, dp_33, dp_34, dp_35, dp_36, dp_37, dp_38, dp_39, l0, q1, t0, gF_2_4, vq_4, show isO ((hZ h ab be (vq (nI n) (nI b) (nI a) (tkT X n a b) (tkV X n a b x5) x6 x7 x8) O D E).2.2 14) 5 from hU_o]
      refine T_eq hZ_14.symm ?_
      refine (U_takeFrom (d := d + 10) (b := 14) (b2 := 29) (Or.inl (by decide)) f1 f2 f3 f4 f5 f6 f7 f8).2 ?_
      show T (d + 14) 80 57 [.ref 13, .int (nI it)] (rl none []) (hU (hU (hC h ab be _ O) 29 E) 14 (tkD D E)) Q
      refine T_eq hZ_14 ?_
      simp only [t80_57, t80_58, rl_n]
      exact kS it _ g2 h2 E _ _ _ _ _ _ _ rfl ri sm (fun _ _ => rfl)
    · have e59 : T (d + 14) 80 32 [.ref 13, .int (nI it)] [] (hZ h ab be (vq (nI n) (nI b) (nI a) (tkT X n a b) (tkV X n a b x5) x6 x7 x8) O D E) Q ↔ T (d + 14) 80 59 [.ref 13, .int (nI it)] [] (hZ h ab be (vq (nI n) (nI b) (nI a) (tkT X n a b) (tkV X n a b x5) x6 x7 x8) O D E) Q := by
        by_cases z : it = 0
        · rw [t80_32, t80_33, if_pos (l0.mpr z)]
        · have t0 : ¬ tkT X n a b = 0 := fun y => q ⟨z, by have := te.mp y; omega⟩
          simp (disch := first | assumption | omega | decide | exact hX_o13 | exact hU_o | exact hX_o45 | exact hX_o47 | exact hX_o49 | exact hX_o54 | exact hU_o7 | exact hU_o9 | exact hU_o11 | exact hU_o13) only [t80_32, t80_33, t80_36, t80_37, t80_40, t80_43, hC_13, hC_45, hC_47, hC_49, hC_54, gF_6_0, gF_6_1, gF_6_2, gF_6_3, gF_6_4, gF_6_5, gF_6_6, gF_6_7, gF_6_8, gF_6_9, hU_0, hU_7, hU_9, hU_11, hU_13, gF_5_0, gF_5_1, gF_5_2, gF_5_3, gF_5_4, gF_5_5, gF_5_6, gF_5_7, gF_5_8, gF_5_9, gF_5_10, gF_5_11, gF_5_12, gF_5_13, gF_3_0, gF_3_1, gF_3_2, gF_3_3, ln_add, nl_add, ln_mul, nl_mul, nI_add, nI_1, i32_nl, ite_not, lt_nn, lt_nl, lt_ln, eq_nn, eq_nl, eq_ln, if_true, if_false, kil_i, kil_r, kil_l, kil_u, rl_s, rl_n, Nat.zero_add, Nat.lt_irrefl, not_true_eq_false, not_false_eq_true, true_and, dp_1, dp_2, dp_3, dp_4, dp_5, dp_6, dp_7, dp_8, dp_9, dp_10, dp_11, dp_12, dp_13, dp_14, dp_15, dp_16, dp_17, dp_18, dp_19, dp_20, dp_21, dp_22, dp_23, dp_24, dp_25, dp_26, dp_27, dp_28, dp_29, dp_30, dp_31, dp_32, dp_33, dp_34, dp_35, dp_36, dp_37, dp_38, dp_39, l0, z, t0, gF_2_4, vq_4]
      refine e59.2 ?_
      have e76 : T (d + 14) 80 59 [.ref 13, .int (nI it)] [] (hZ h ab be (vq (nI n) (nI b) (nI a) (tkT X n a b) (tkV X n a b x5) x6 x7 x8) O D E) Q ↔ T (d + 13) 20 0 [.ref 45, .ref 29, .int (zI (decide (it = 0)))] [] (hZ h ab be (vq (nI n) (nI b) (nI a) (tkT X n a b) (tkV X n a b x5) x6 x7 x8) O D E) (fun x h2 => T (d + 14) 80 79 [.ref 13, .int (nI it)] (rl x []) h2 Q) := by
        by_cases z : it = 0
        · simp (disch := first | assumption | omega | decide | exact hX_o13 | exact hU_o | exact hX_o45 | exact hX_o47 | exact hX_o49 | exact hX_o54 | exact hU_o7 | exact hU_o9 | exact hU_o11 | exact hU_o13) only [t80_59, t80_60, t80_63, t80_64, t80_67, t80_68, t80_71, t80_72, t80_75, t80_76, hC_13, hC_45, hC_47, hC_49, hC_54, gF_6_0, gF_6_1, gF_6_2, gF_6_3, gF_6_4, gF_6_5, gF_6_6, gF_6_7, gF_6_8, gF_6_9, hU_0, hU_7, hU_9, hU_11, hU_13, gF_5_0, gF_5_1, gF_5_2, gF_5_3, gF_5_4, gF_5_5, gF_5_6, gF_5_7, gF_5_8, gF_5_9, gF_5_10, gF_5_11, gF_5_12, gF_5_13, gF_3_0, gF_3_1, gF_3_2, gF_3_3, ln_add, nl_add, ln_mul, nl_mul, nI_add, nI_1, i32_nl, ite_not, lt_nn, lt_nl, lt_ln, eq_nn, eq_nl, eq_ln, if_true, if_false, kil_i, kil_r, kil_l, kil_u, rl_s, rl_n, Nat.zero_add, Nat.lt_irrefl, not_true_eq_false, not_false_eq_true, true_and, dp_1, dp_2, dp_3, dp_4, dp_5, dp_6, dp_7, dp_8, dp_9, dp_10, dp_11, dp_12, dp_13, dp_14, dp_15, dp_16, dp_17, dp_18, dp_19, dp_20, dp_21, dp_22, dp_23, dp_24, dp_25, dp_26, dp_27, dp_28, dp_29, dp_30, dp_31, dp_32, dp_33, dp_34, dp_35, dp_36, dp_37, dp_38, dp_39, z, zT, decide_true]
        · simp (disch := first | assumption | omega | decide | exact hX_o13 | exact hU_o | exact hX_o45 | exact hX_o47 | exact hX_o49 | exact hX_o54 | exact hU_o7 | exact hU_o9 | exact hU_o11 | exact hU_o13) only [t80_59, t80_60, t80_63, t80_64, t80_67, t80_68, t80_71, t80_72, t80_75, t80_76, hC_13, hC_45, hC_47, hC_49, hC_54, gF_6_0, gF_6_1, gF_6_2, gF_6_3, gF_6_4, gF_6_5, gF_6_6, gF_6_7, gF_6_8, gF_6_9, hU_0, hU_7, hU_9, hU_11, hU_13, gF_5_0, gF_5_1, gF_5_2, gF_5_3, gF_5_4, gF_5_5, gF_5_6, gF_5_7, gF_5_8, gF_5_9, gF_5_10, gF_5_11, gF_5_12, gF_5_13, gF_3_0, gF_3_1, gF_3_2, gF_3_3, ln_add, nl_add, ln_mul, nl_mul, nI_add, nI_1, i32_nl, ite_not, lt_nn, lt_nl, lt_ln, eq_nn, eq_nl, eq_ln, if_true, if_false, kil_i, kil_r, kil_l, kil_u, rl_s, rl_n, Nat.zero_add, Nat.lt_irrefl, not_true_eq_false, not_false_eq_true, true_and, dp_1, dp_2, dp_3, dp_4, dp_5, dp_6, dp_7, dp_8, dp_9, dp_10, dp_11, dp_12, dp_13, dp_14, dp_15, dp_16, dp_17, dp_18, dp_19, dp_20, dp_21, dp_22, dp_23, dp_24, dp_25, dp_26, dp_27, dp_28, dp_29, dp_30, dp_31, dp_32, dp_33, dp_34, dp_35, dp_36, dp_37, dp_38, dp_39, z, zF, decide_false]
      refine e76.2 ?_
      have bad : ∀ (y x2 x4 x5 x6 x7 x8 : Int32) E3, (T (d + 14) 80 79 [.ref 13, .int (nI it)] (rl (some (.int 0)) []) (hZ h ab be (vq (nI n) x2 y x4 x5 x6 x7 x8) O D E3) Q ↔ Q (some (.int (-10 - y))) (hZ h ab be (vq (nI n) x2 y x4 x5 x6 x7 x8) O D E3)) := by
        intro y x2 x4 x5 x6 x7 x8 E3
        simp (disch := first | assumption | omega | decide | exact hX_o13 | exact hU_o | exact hX_o45 | exact hX_o47 | exact hX_o49 | exact hX_o54 | exact hU_o7 | exact hU_o9 | exact hU_o11 | exact hU_o13) only [t80_79, t80_82, t80_84, t80_85, t80_88, t80_91, t80_92, hC_13, hC_45, hC_47, hC_49, hC_54, gF_6_0, gF_6_1, gF_6_2, gF_6_3, gF_6_4, gF_6_5, gF_6_6, gF_6_7, gF_6_8, gF_6_9, hU_0, hU_7, hU_9, hU_11, hU_13, gF_5_0, gF_5_1, gF_5_2, gF_5_3, gF_5_4, gF_5_5, gF_5_6, gF_5_7, gF_5_8, gF_5_9, gF_5_10, gF_5_11, gF_5_12, gF_5_13, gF_3_0, gF_3_1, gF_3_2, gF_3_3, ln_add, nl_add, ln_mul, nl_mul, nI_add, nI_1, i32_nl, ite_not, lt_nn, lt_nl, lt_ln, eq_nn, eq_nl, eq_ln, if_true, if_false, kil_i, kil_r, kil_l, kil_u, rl_s, rl_n, Nat.zero_add, Nat.lt_irrefl, not_true_eq_false, not_false_eq_true, true_and, dp_1, dp_2, dp_3, dp_4, dp_5, dp_6, dp_7, dp_8, dp_9, dp_10, dp_11, dp_12, dp_13, dp_14, dp_15, dp_16, dp_17, dp_18, dp_19, dp_20, dp_21, dp_22, dp_23, dp_24, dp_25, dp_26, dp_27, dp_28, dp_29, dp_30, dp_31, dp_32, dp_33, dp_34, dp_35, dp_36, dp_37, dp_38, dp_39, gF_2_3, vq_3]
      cases hw : wdH X n a b with
      | none =>
        refine (E_ri0n hw).2 ?_
        refine (bad _ _ _ _ _ _ _ _).2 ?_
        exact kF (_, _) E _ _ _ _ _ _ (rdL_n q hw)
      | some w =>
        obtain ⟨w6, han⟩ := wdH_lt hw
        have gt := gt han
        by_cases qs : w = 0 ↔ it = 0
        · have hf2 : decide (it = 0) = true ↔ w = 0 := by rw [decide_eq_true_eq]; exact qs.symm
          have ib := itm_b (X := X) (g2 := g2) (h2 := h2) hb ha w
          have ri' : RI (r0R w R) g2 h2 0 0 0 0 := by rw [r0R_w qs]; exact ri
          have sm' : SM E (r0R w R) g2 h2 0 0 0 0 := by rw [r0R_w qs]; exact sm
          refine E_ri s hO hn hb hw hf2 eg eh g6 h4 ?_ ?_ ?_
          · intro o1 o2 x3 x4 x5 y8 hy
            have e2 := rdL_1 (f := f) (R := R) q hw qs o1 o2
            have e26 : ∀ (V : Nat → Int32) (E : Nat → Nat → Int32), T (d + 14) 80 79 [.ref 13, .int (nI it)] (rl (some (.int 1)) []) (hZ h ab be V O D E) Q ↔ T (d + 13) 26 0 [.ref 45, .ref 29] [] (hZ h ab be V O D E) (fun x h2 => T (d + 14) 80 104 [.ref 13, .int (nI it)] (rl x []) h2 Q) := by
              intro V E
              simp (disch := first | assumption | omega | decide | exact hX_o13 | exact hU_o | exact hX_o45 | exact hX_o47 | exact hX_o49 | exact hX_o54 | exact hU_o7 | exact hU_o9 | exact hU_o11 | exact hU_o13) only [t80_79, t80_93, t80_94, t80_97, t80_98, t80_101, hC_13, hC_45, hC_47, hC_49, hC_54, gF_6_0, gF_6_1, gF_6_2, gF_6_3, gF_6_4, gF_6_5, gF_6_6, gF_6_7, gF_6_8, gF_6_9, hU_0, hU_7, hU_9, hU_11, hU_13, gF_5_0, gF_5_1, gF_5_2, gF_5_3, gF_5_4, gF_5_5, gF_5_6, gF_5_7, gF_5_8, gF_5_9, gF_5_10, gF_5_11, gF_5_12, gF_5_13, gF_3_0, gF_3_1, gF_3_2, gF_3_3, ln_add, nl_add, ln_mul, nl_mul, nI_add, nI_1, i32_nl, ite_not, lt_nn, lt_nl, lt_ln, eq_nn, eq_nl, eq_ln, if_true, if_false, kil_i, kil_r, kil_l, kil_u, rl_s, rl_n, Nat.zero_add, Nat.lt_irrefl, not_true_eq_false, not_false_eq_true, true_and, dp_1, dp_2, dp_3, dp_4, dp_5, dp_6, dp_7, dp_8, dp_9, dp_10, dp_11, dp_12, dp_13, dp_14, dp_15, dp_16, dp_17, dp_18, dp_19, dp_20, dp_21, dp_22, dp_23, dp_24, dp_25, dp_26, dp_27, dp_28, dp_29, dp_30, dp_31, dp_32, dp_33, dp_34, dp_35, dp_36, dp_37, dp_38, dp_39, z10]
            refine (e26 _ _).2 ?_
            refine T_eq hZ_Y.symm ?_
            refine E_carry (d := d + 7) w6 o1 (fun z => h0 (qs.mp z)) rfl rfl hy ri' sm' (fun E2 ri2 sm2 hk => ?_)
            show T (d + 14) 80 104 [.ref 13, .int (nI it)] (rl none []) (hU (hX h ab be _ O D) 29 E2) Q
            refine T_eq hZ_Y ?_
            simp only [t80_104, t80_107, rl_n, kil_r, nI_1]
            generalize (itm X n a b g2 h2 w) = o at *
            obtain ⟨o01, o02, o03, oa, ob⟩ := o
            simp only [] at *
            have hb3 := tkE_le (X := X) ib.2.1
            have g4 := tkA_ge (X := X) (n := n) (b := ob)
            have g5 := tkE_gt (X := X) (n := n) (b := ob) o2.1
            have g7 := tkA_ge (X := X) (n := n) (b := tkE X n ob)
            have er : ∀ R2, r0R (it + 1) R2 = R2 := fun R2 => if_neg (by omega)
            refine ih (tkE X n ob) (it + 1) _ _ _ E2 _ _ _ _ _ _ hb3 (by omega) (by omega) (fun z => absurd z (by omega)) (by rw [er]; exact ri2) (by rw [er]; exact sm2) (fun itn R3 g3 h3 E3 x2 x3 x4 x5 x6 x7 x8 e ri3 sm3 hk3 => ?_) (fun R3 E3 x2 x4 x5 x6 x7 x8 e => ?_)
            · exact kS itn R3 g3 h3 E3 _ _ _ _ _ _ _ (e2.trans e) ri3 sm3 (fun j hj => (hk3 j hj).trans (hk j hj))
            · exact kF R3 E3 _ _ _ _ _ _ (e2.trans e)
          · intro o1 o2 x2 x4 x5 x6 x7 x8
            refine (bad _ _ _ _ _ _ _ _).2 ?_
            exact kF (_, _) E _ _ _ _ _ _ (rdL_2 q hw qs o1 o2)
          · intro o1 x2 x4 x5 x6 x7 x8
            refine (bad _ _ _ _ _ _ _ _).2 ?_
            exact kF (_, _) E _ _ _ _ _ _ (rdL_3 q hw qs o1)
        · have hf2 : ¬ (decide (it = 0) = true ↔ w = 0) := by rw [decide_eq_true_eq]; exact fun z => qs z.symm
          refine (E_ri0s hw eg eh g6 h4).2 ?_
          rw [if_neg (fun z => hf2 z.1)]
          refine (bad _ _ _ _ _ _ _ _).2 ?_
          exact kF (_, _) E _ _ _ _ _ _ (rdL_x q hw qs)
end RL
