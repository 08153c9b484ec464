/-! the class: an uplands changed -/
theorem fq_0 {a b c e : Int32} : fq a b c e 0 = a := rfl
theorem fq_1 {a b c e : Int32} : fq a b c e 1 = b := rfl
theorem fq_2 {a b c e : Int32} : fq a b c e 2 = c := rfl
theorem fq_3 {a b c e : Int32} : fq a b c e 3 = e := rfl
section U3
variable {d : Nat} {h : Hp} {Q : Pst} {b b0 g hh : Nat} {D : Nat → Nat → Int32} {R : Nat → Int32}
def anD (D : Nat → Nat → Int32) (w : Int32) : Nat → Nat → Int32 := wN (wN (wN (wN (wA D 0 (fq 0 0 w 0)) 7 0) 9 0) 11 0) 13 0
theorem U_startAnew {w : Int32} : T (d + 1) 53 0 [.ref b, .int w] [] (hU h b D) Q ↔ Q none (hU h b (anD D w)) := by
  simp (disch := first | assumption | omega | decide | exact hU_o | exact hU_o7 | exact hU_o9 | exact hU_o11 | exact hU_o13) only [t53_0, t53_1, t53_2, t53_5, t53_6, t53_7, t53_10, t53_11, t53_12, t53_15, t53_16, t53_17, t53_20, t53_21, t53_24, t53_27, t53_28, t53_29, t53_32, t53_35, t53_36, t53_37, t53_40, t53_43, t53_44, t53_45, t53_48, t53_51, t53_52, hU_0, hU_7, hU_9, hU_11, hU_13, gF_5_0, gF_5_1, gF_5_2, gF_5_3, gF_5_4, gF_5_5, gF_5_6, gF_5_7, gF_5_8, gF_5_9, gF_5_10, gF_5_11, gF_5_12, gF_5_13, gF_3_0, gF_3_1, gF_3_2, gF_3_3, ln_add, nl_add, ln_mul, nl_mul, nI_add, nI_1, i32_nl, ite_not, lt_nn, lt_nl, lt_ln, eq_nn, eq_nl, eq_ln, if_true, if_false, kil_i, kil_r, kil_l, kil_u, rl_s, rl_n, Nat.zero_add, Nat.lt_irrefl, not_true_eq_false, not_false_eq_true, true_and, dp_1, dp_2, dp_3, dp_4, dp_5, dp_6, dp_7, dp_8, dp_9, dp_10, dp_11, dp_12, dp_13, dp_14, dp_15, dp_16, dp_17, dp_18, dp_19, dp_20, dp_21, dp_22, dp_23, dp_24, dp_25, dp_26, dp_27, dp_28, dp_29, dp_30, dp_31, dp_32, dp_33, dp_34, dp_35, dp_36, dp_37, dp_38, dp_39, pF_5_10, pF_5_11, pF_5_12, pF_5_13, hU_u0, wA_s, wA_wA, fq_0, fq_1, fq_2, fq_3, D_7, D_9, D_11, D_13, anD]
def agD (D : Nat → Nat → Int32) (g : Nat) (k s : Int32) : Nat → Nat → Int32 := wA (wN (wA (wA (wA D 1 (upd (D 1) g k)) 2 (upd (D 2) g s)) 3 (upd (D 3) g (-1))) 13 0) 0 (fq (nI (g + 1)) (D 0 1) (D 0 2) (D 0 3))
theorem U_addGuest {k s : Int32} (hg : D 0 0 = nI g) (h6 : g < 6) : T (d + 1) 57 0 [.ref b, .int k, .int s] [] (hU h b D) Q ↔ Q (some (.int (nI g))) (hU h b (agD D g k s)) := by
  simp (disch := first | assumption | omega | decide | exact hU_o | exact hU_o7 | exact hU_o9 | exact hU_o11 | exact hU_o13) only [t57_0, t57_1, t57_4, t57_5, t57_8, t57_9, t57_12, t57_13, t57_16, t57_17, t57_20, t57_21, t57_24, t57_25, t57_28, t57_29, t57_32, t57_33, t57_36, t57_37, t57_40, t57_43, t57_44, t57_45, t57_46, t57_49, t57_50, t57_51, t57_54, t57_55, t57_58, t57_59, t57_60, hU_0, hU_7, hU_9, hU_11, hU_13, gF_5_0, gF_5_1, gF_5_2, gF_5_3, gF_5_4, gF_5_5, gF_5_6, gF_5_7, gF_5_8, gF_5_9, gF_5_10, gF_5_11, gF_5_12, gF_5_13, gF_3_0, gF_3_1, gF_3_2, gF_3_3, ln_add, nl_add, ln_mul, nl_mul, nI_add, nI_1, i32_nl, ite_not, lt_nn, lt_nl, lt_ln, eq_nn, eq_nl, eq_ln, if_true, if_false, kil_i, kil_r, kil_l, kil_u, rl_s, rl_n, Nat.zero_add, Nat.lt_irrefl, not_true_eq_false, not_false_eq_true, true_and, dp_1, dp_2, dp_3, dp_4, dp_5, dp_6, dp_7, dp_8, dp_9, dp_10, dp_11, dp_12, dp_13, dp_14, dp_15, dp_16, dp_17, dp_18, dp_19, dp_20, dp_21, dp_22, dp_23, dp_24, dp_25, dp_26, dp_27, dp_28, dp_29, dp_30, dp_31, dp_32, dp_33, dp_34, dp_35, dp_36, dp_37, dp_38, dp_39, pF_5_10, hU_u0, wA_s, wA_o, wN_o, wN_s, fq_0, hg, P_1 h6, P_2 h6, P_3 h6, D_13, sub1, agD]
def ahD (D : Nat → Nat → Int32) (g : Nat) (k s : Int32) : Nat → Nat → Int32 := wA (wN (wA (wA (wA D 4 (upd (D 4) g k)) 5 (upd (D 5) g s)) 6 (upd (D 6) g 0)) 13 0) 0 (fq (D 0 0) (nI (g + 1)) (D 0 2) (D 0 3))
theorem U_addHouse {k s : Int32} (hg : D 0 1 = nI g) (h6 : g < 4) : T (d + 1) 58 0 [.ref b, .int k, .int s] [] (hU h b D) Q ↔ Q (some (.int (nI g))) (hU h b (ahD D g k s)) := by
  simp (disch := first | assumption | omega | decide | exact hU_o | exact hU_o7 | exact hU_o9 | exact hU_o11 | exact hU_o13) only [t58_0, t58_1, t58_4, t58_5, t58_8, t58_9, t58_12, t58_13, t58_16, t58_17, t58_20, t58_21, t58_24, t58_25, t58_28, t58_29, t58_32, t58_33, t58_36, t58_37, t58_40, t58_43, t58_44, t58_45, t58_46, t58_49, t58_50, t58_51, t58_54, t58_55, t58_58, t58_59, t58_60, hU_0, hU_7, hU_9, hU_11, hU_13, gF_5_0, gF_5_1, gF_5_2, gF_5_3, gF_5_4, gF_5_5, gF_5_6, gF_5_7, gF_5_8, gF_5_9, gF_5_10, gF_5_11, gF_5_12, gF_5_13, gF_3_0, gF_3_1, gF_3_2, gF_3_3, ln_add, nl_add, ln_mul, nl_mul, nI_add, nI_1, i32_nl, ite_not, lt_nn, lt_nl, lt_ln, eq_nn, eq_nl, eq_ln, if_true, if_false, kil_i, kil_r, kil_l, kil_u, rl_s, rl_n, Nat.zero_add, Nat.lt_irrefl, not_true_eq_false, not_false_eq_true, true_and, dp_1, dp_2, dp_3, dp_4, dp_5, dp_6, dp_7, dp_8, dp_9, dp_10, dp_11, dp_12, dp_13, dp_14, dp_15, dp_16, dp_17, dp_18, dp_19, dp_20, dp_21, dp_22, dp_23, dp_24, dp_25, dp_26, dp_27, dp_28, dp_29, dp_30, dp_31, dp_32, dp_33, dp_34, dp_35, dp_36, dp_37, dp_38, dp_39, pF_5_11, hU_u0, wA_s, wA_o, wN_o, wN_s, fq_1, hg, P_4 h6, P_5 h6, P_6 h6, D_13, sub1, ahD]
/-- what a step keeps -/
def stq (D : Nat → Nat → Int32) (q : Nat) : Int32 := if q < 6 then D 3 q else if q < 10 then D 6 (q - 6) else if q = 10 then D 0 2 else D 0 3
def ksF (D E : Nat → Nat → Int32) (u n : Nat) : Nat → Int32 := fun k => if u * 12 ≤ k ∧ k < u * 12 + n then stq D (k - u * 12) else E 14 k
def ksI (D E : Nat → Nat → Int32) (u n : Nat) : Nat → Nat → Int32 := wA (wN E 13 (nI (u + 1))) 14 (ksF D E u n)
theorem ksF_s {E : Nat → Nat → Int32} {u n : Nat} : upd (ksF D E u n) (u * 12 + n) (stq D n) = ksF D E u (n + 1) := by
  funext k
  unfold ksF upd
  simp only []
  by_cases q : k = u * 12 + n
  · rw [if_pos q, if_pos (by omega), q, Nat.add_sub_cancel_left]
  · rw [if_neg q]
    by_cases q2 : u * 12 ≤ k ∧ k < u * 12 + n
    · rw [if_pos q2, if_pos (by omega)]
    · rw [if_neg q2, if_neg (by omega)]
theorem ksI_0 {E : Nat → Nat → Int32} {u : Nat} : ksI D E u 0 = wN E 13 (nI (u + 1)) := by
  funext a
  unfold ksI wA
  by_cases q : a = 14
  · rw [if_pos q, q]
    funext k
    unfold ksF
    rw [if_neg (by omega), wN_o (by decide)]
  · rw [if_neg q]
theorem ksI_s {E : Nat → Nat → Int32} {u n : Nat} : wA (ksI D E u n) 14 (upd (ksI D E u n 14) (u * 12 + n) (stq D n)) = ksI D E u (n + 1) := by
  unfold ksI
  rw [wA_s, wA_wA, ksF_s]
theorem ksI_o {E : Nat → Nat → Int32} {u n a : Nat} (h1 : a ≠ 13) (h2 : a ≠ 14) : ksI D E u n a = E a := by
  unfold ksI
  rw [wA_o h2, wN_o h1]
theorem ksI_13 {E : Nat → Nat → Int32} {u n k : Nat} : ksI D E u n 13 k = nI (u + 1) := by
  unfold ksI
  rw [wA_o (by decide), wN_s]
theorem U_keep1 {E : Nat → Nat → Int32} {u : Nat} {x : Value} (hu : u < 8) (e3 : E 3 = D 3) (e6 : E 6 = D 6) (e0 : E 0 = D 0) : T (d + 3) 72 7 [.ref b, x] [] (hU h b (wN E 13 (nI (u + 1)))) Q ↔ Q none (hU h b (ksI D E u 12)) := by
  have k3 : ∀ n, ksI D E u n 3 = D 3 := fun n => by rw [ksI_o (by decide) (by decide), e3]
  have k6 : ∀ n, ksI D E u n 6 = D 6 := fun n => by rw [ksI_o (by decide) (by decide), e6]
  have k0 : ∀ n, ksI D E u n 0 = D 0 := fun n => by rw [ksI_o (by decide) (by decide), e0]
  rw [← ksI_0 (D := D)]
  simp (disch := first | assumption | omega | decide | exact hU_o | exact hU_o7 | exact hU_o9 | exact hU_o11 | exact hU_o13) only [t72_7, t72_8, hU_0, hU_7, hU_9, hU_11, hU_13, gF_5_0, gF_5_1, gF_5_2, gF_5_3, gF_5_4, gF_5_5, gF_5_6, gF_5_7, gF_5_8, gF_5_9, gF_5_10, gF_5_11, gF_5_12, gF_5_13, gF_3_0, gF_3_1, gF_3_2, gF_3_3, ln_add, nl_add, ln_mul, nl_mul, nI_add, nI_1, i32_nl, ite_not, lt_nn, lt_nl, lt_ln, eq_nn, eq_nl, eq_ln, if_true, if_false, kil_i, kil_r, kil_l, kil_u, rl_s, rl_n, Nat.zero_add, Nat.lt_irrefl, not_true_eq_false, not_false_eq_true, true_and, dp_1, dp_2, dp_3, dp_4, dp_5, dp_6, dp_7, dp_8, dp_9, dp_10, dp_11, dp_12, dp_13, dp_14, dp_15, dp_16, dp_17, dp_18, dp_19, dp_20, dp_21, dp_22, dp_23, dp_24, dp_25, dp_26, dp_27, dp_28, dp_29, dp_30, dp_31, dp_32, dp_33, dp_34, dp_35, dp_36, dp_37, dp_38, dp_39]
  have L := loop_d (P := fun i (_ : Unit) (_ : Unit) => T (d + 3) 72 9 [.ref b, .int (nI i)] [] (hU h b (ksI D E u i)) Q) (F := fun _ s => s) (E := fun _ => T (d + 3) 72 39 [.ref b, .int (nI 0)] [] (hU h b (ksI D E u 6)) Q) (g := 6) ?_ ?_
  · refine (L () ()).trans ?_
    have L2 := loop_d (P := fun i (_ : Unit) (_ : Unit) => T (d + 3) 72 39 [.ref b, .int (nI i)] [] (hU h b (ksI D E u (6 + i))) Q) (F := fun _ s => s) (E := fun _ => Q none (hU h b (ksI D E u 12))) (g := 4) ?_ ?_
    · exact L2 () ()
    · intro i _ _ hi
      refine ⟨(), ?_⟩
      have es : stq D (6 + i) = D 6 i := by unfold stq; rw [if_neg (by omega), if_pos (by omega), Nat.add_sub_cancel_left]
      rw [show 6 + (i + 1) = (6 + i) + 1 by omega, ← ksI_s (D := D), es, t72_39]
      simp (disch := first | assumption | omega | decide | exact hU_o | exact hU_o7 | exact hU_o9 | exact hU_o11 | exact hU_o13) only [t72_0, t72_1, t72_4, t72_7, t72_8, t72_9, t72_10, t72_12, t72_15, t72_16, t72_19, t72_20, t72_21, t72_24, t72_25, t72_28, t72_31, t72_34, t72_37, t72_38, t72_40, t72_41, t72_44, t72_45, t72_48, t72_50, t72_51, t72_52, t72_53, t72_56, t72_57, t72_60, t72_63, t72_66, t72_69, t72_70, t72_73, t72_75, t72_76, t72_79, t72_82, t72_83, t72_86, t72_88, t72_89, t72_92, t72_95, hU_0, hU_7, hU_9, hU_11, hU_13, gF_5_0, gF_5_1, gF_5_2, gF_5_3, gF_5_4, gF_5_5, gF_5_6, gF_5_7, gF_5_8, gF_5_9, gF_5_10, gF_5_11, gF_5_12, gF_5_13, gF_3_0, gF_3_1, gF_3_2, gF_3_3, ln_add, nl_add, ln_mul, nl_mul, nI_add, nI_1, i32_nl, ite_not, lt_nn, lt_nl, lt_ln, eq_nn, eq_nl, eq_ln, if_true, if_false, kil_i, kil_r, kil_l, kil_u, rl_s, rl_n, Nat.zero_add, Nat.lt_irrefl, not_true_eq_false, not_false_eq_true, true_and, dp_1, dp_2, dp_3, dp_4, dp_5, dp_6, dp_7, dp_8, dp_9, dp_10, dp_11, dp_12, dp_13, dp_14, dp_15, dp_16, dp_17, dp_18, dp_19, dp_20, dp_21, dp_22, dp_23, dp_24, dp_25, dp_26, dp_27, dp_28, dp_29, dp_30, dp_31, dp_32, dp_33, dp_34, dp_35, dp_36, dp_37, dp_38, dp_39, hi, G_6 (show i < 4 by omega), k6, S_13 (D := ksI D E u (6 + i)) (q := 6 + i) ksI_13 hu (by omega)]
    · intro _ _
      have e10 : stq D 10 = D 0 2 := rfl
      have e11 : stq D 11 = D 0 3 := rfl
      show T (d + 3) 72 39 [.ref b, .int (nI 4)] [] (hU h b (ksI D E u 10)) Q ↔ _
      have z10 : ∀ (x : Int32) (Q2 : Pst), (T (d + 2) 37 0 [.ref (b + 13), .int 10, .int x] [] (hU h b (ksI D E u 10)) Q2 ↔ Q2 none (hU h b (wA (ksI D E u 10) 14 (upd (ksI D E u 10 14) (u * 12 + 10) x)))) := fun x Q2 => Sl_13 (q := 10) ksI_13 hu (by decide)
      have z11 : ∀ (x : Int32) (Q2 : Pst), (T (d + 2) 37 0 [.ref (b + 13), .int 11, .int x] [] (hU h b (ksI D E u 11)) Q2 ↔ Q2 none (hU h b (wA (ksI D E u 11) 14 (upd (ksI D E u 11 14) (u * 12 + 11) x)))) := fun x Q2 => Sl_13 (q := 11) ksI_13 hu (by decide)
      have s10 := ksI_s (D := D) (E := E) (u := u) (n := 10)
      have s11 := ksI_s (D := D) (E := E) (u := u) (n := 11)
      rw [e10] at s10
      rw [e11] at s11
      rw [t72_39]
      simp (disch := first | assumption | omega | decide | exact hU_o | exact hU_o7 | exact hU_o9 | exact hU_o11 | exact hU_o13) only [t72_40, t72_41, t72_69, t72_70, t72_73, t72_75, t72_76, t72_79, t72_82, t72_83, t72_86, t72_88, t72_89, t72_92, t72_95, hU_0, hU_7, hU_9, hU_11, hU_13, gF_5_0, gF_5_1, gF_5_2, gF_5_3, gF_5_4, gF_5_5, gF_5_6, gF_5_7, gF_5_8, gF_5_9, gF_5_10, gF_5_11, gF_5_12, gF_5_13, gF_3_0, gF_3_1, gF_3_2, gF_3_3, ln_add, nl_add, ln_mul, nl_mul, nI_add, nI_1, i32_nl, ite_not, lt_nn, lt_nl, lt_ln, eq_nn, eq_nl, eq_ln, if_true, if_false, kil_i, kil_r, kil_l, kil_u, rl_s, rl_n, Nat.zero_add, Nat.lt_irrefl, not_true_eq_false, not_false_eq_true, true_and, dp_1, dp_2, dp_3, dp_4, dp_5, dp_6, dp_7, dp_8, dp_9, dp_10, dp_11, dp_12, dp_13, dp_14, dp_15, dp_16, dp_17, dp_18, dp_19, dp_20, dp_21, dp_22, dp_23, dp_24, dp_25, dp_26, dp_27, dp_28, dp_29, dp_30, dp_31, dp_32, dp_33, dp_34, dp_35, dp_36, dp_37, dp_38, dp_39, k0, z10, z11, s10, s11]
  · intro i _ _ hi
    refine ⟨(), ?_⟩
    have es : stq D i = D 3 i := by unfold stq; rw [if_pos (by omega)]
    rw [← ksI_s (D := D), es, t72_9]
    simp (disch := first | assumption | omega | decide | exact hU_o | exact hU_o7 | exact hU_o9 | exact hU_o11 | exact hU_o13) only [t72_10, t72_12, t72_15, t72_16, t72_19, t72_20, t72_21, t72_24, t72_25, t72_28, t72_31, t72_34, hU_0, hU_7, hU_9, hU_11, hU_13, gF_5_0, gF_5_1, gF_5_2, gF_5_3, gF_5_4, gF_5_5, gF_5_6, gF_5_7, gF_5_8, gF_5_9, gF_5_10, gF_5_11, gF_5_12, gF_5_13, gF_3_0, gF_3_1, gF_3_2, gF_3_3, ln_add, nl_add, ln_mul, nl_mul, nI_add, nI_1, i32_nl, ite_not, lt_nn, lt_nl, lt_ln, eq_nn, eq_nl, eq_ln, if_true, if_false, kil_i, kil_r, kil_l, kil_u, rl_s, rl_n, Nat.zero_add, Nat.lt_irrefl, not_true_eq_false, not_false_eq_true, true_and, dp_1, dp_2, dp_3, dp_4, dp_5, dp_6, dp_7, dp_8, dp_9, dp_10, dp_11, dp_12, dp_13, dp_14, dp_15, dp_16, dp_17, dp_18, dp_19, dp_20, dp_21, dp_22, dp_23, dp_24, dp_25, dp_26, dp_27, dp_28, dp_29, dp_30, dp_31, dp_32, dp_33, dp_34, dp_35, dp_36, dp_37, dp_38, dp_39, hi, G_3 (show i < 6 by omega), k3, S_13 (D := ksI D E u i) (q := i) ksI_13 hu (by omega)]
  · intro _ _
    rw [t72_9]
    simp (disch := first | assumption | omega | decide | exact hU_o | exact hU_o7 | exact hU_o9 | exact hU_o11 | exact hU_o13) only [t72_10, t72_12, t72_37, t72_38, hU_0, hU_7, hU_9, hU_11, hU_13, gF_5_0, gF_5_1, gF_5_2, gF_5_3, gF_5_4, gF_5_5, gF_5_6, gF_5_7, gF_5_8, gF_5_9, gF_5_10, gF_5_11, gF_5_12, gF_5_13, gF_3_0, gF_3_1, gF_3_2, gF_3_3, ln_add, nl_add, ln_mul, nl_mul, nI_add, nI_1, i32_nl, ite_not, lt_nn, lt_nl, lt_ln, eq_nn, eq_nl, eq_ln, if_true, if_false, kil_i, kil_r, kil_l, kil_u, rl_s, rl_n, Nat.zero_add, Nat.lt_irrefl, not_true_eq_false, not_false_eq_true, true_and, dp_1, dp_2, dp_3, dp_4, dp_5, dp_6, dp_7, dp_8, dp_9, dp_10, dp_11, dp_12, dp_13, dp_14, dp_15, dp_16, dp_17, dp_18, dp_19, dp_20, dp_21, dp_22, dp_23, dp_24, dp_25, dp_26, dp_27, dp_28, dp_29, dp_30, dp_31, dp_32, dp_33, dp_34, dp_35, dp_36, dp_37, dp_38, dp_39]
    exact Iff.rfl
/-- a step more to be undone -/
def kpD (D : Nat → Nat → Int32) (u : Nat) : Nat → Nat → Int32 := if u = 8 then ksI D (shU D) 7 12 else ksI D D u 12
theorem U_keepStep {u : Nat} {x : Value} (hu : D 13 0 = nI u) (h8 : u ≤ 8) : T (d + 3) 72 0 [.ref b, x] [] (hU h b D) Q ↔ Q none (hU h b (kpD D u)) := by
  unfold kpD
  by_cases q : u = 8
  · subst q
    rw [if_pos rfl]
    have e : wN (shU D) 13 (nI (7 + 1)) = shU D := by unfold shU; rw [wN_wN]
    have K := U_keep1 (d := d) (h := h) (Q := Q) (b := b) (D := D) (E := shU D) (u := 7) (x := x) (by omega) (by unfold shU; rw [wN_o (by decide), wA_o (by decide)]) (by unfold shU; rw [wN_o (by decide), wA_o (by decide)]) (by unfold shU; rw [wN_o (by decide), wA_o (by decide)])
    rw [e] at K
    simp (disch := first | assumption | omega | decide | exact hU_o | exact hU_o7 | exact hU_o9 | exact hU_o11 | exact hU_o13) only [t72_0, t72_1, t72_4, hU_0, hU_7, hU_9, hU_11, hU_13, gF_5_0, gF_5_1, gF_5_2, gF_5_3, gF_5_4, gF_5_5, gF_5_6, gF_5_7, gF_5_8, gF_5_9, gF_5_10, gF_5_11, gF_5_12, gF_5_13, gF_3_0, gF_3_1, gF_3_2, gF_3_3, ln_add, nl_add, ln_mul, nl_mul, nI_add, nI_1, i32_nl, ite_not, lt_nn, lt_nl, lt_ln, eq_nn, eq_nl, eq_ln, if_true, if_false, kil_i, kil_r, kil_l, kil_u, rl_s, rl_n, Nat.zero_add, Nat.lt_irrefl, not_true_eq_false, not_false_eq_true, true_and, dp_1, dp_2, dp_3, dp_4, dp_5, dp_6, dp_7, dp_8, dp_9, dp_10, dp_11, dp_12, dp_13, dp_14, dp_15, dp_16, dp_17, dp_18, dp_19, dp_20, dp_21, dp_22, dp_23, dp_24, dp_25, dp_26, dp_27, dp_28, dp_29, dp_30, dp_31, dp_32, dp_33, dp_34, dp_35, dp_36, dp_37, dp_38, dp_39, O_13f hu]
    exact K
  · rw [if_neg q]
    simp (disch := first | assumption | omega | decide | exact hU_o | exact hU_o7 | exact hU_o9 | exact hU_o11 | exact hU_o13) only [t72_0, t72_1, t72_4, hU_0, hU_7, hU_9, hU_11, hU_13, gF_5_0, gF_5_1, gF_5_2, gF_5_3, gF_5_4, gF_5_5, gF_5_6, gF_5_7, gF_5_8, gF_5_9, gF_5_10, gF_5_11, gF_5_12, gF_5_13, gF_3_0, gF_3_1, gF_3_2, gF_3_3, ln_add, nl_add, ln_mul, nl_mul, nI_add, nI_1, i32_nl, ite_not, lt_nn, lt_nl, lt_ln, eq_nn, eq_nl, eq_ln, if_true, if_false, kil_i, kil_r, kil_l, kil_u, rl_s, rl_n, Nat.zero_add, Nat.lt_irrefl, not_true_eq_false, not_false_eq_true, true_and, dp_1, dp_2, dp_3, dp_4, dp_5, dp_6, dp_7, dp_8, dp_9, dp_10, dp_11, dp_12, dp_13, dp_14, dp_15, dp_16, dp_17, dp_18, dp_19, dp_20, dp_21, dp_22, dp_23, dp_24, dp_25, dp_26, dp_27, dp_28, dp_29, dp_30, dp_31, dp_32, dp_33, dp_34, dp_35, dp_36, dp_37, dp_38, dp_39, O_13 hu (show u < 8 by omega)]
    exact U_keep1 (by omega) rfl rfl rfl
/-- back by a step -/
def sbF (D : Nat → Nat → Int32) (a o u n : Nat) : Nat → Int32 := fun k => if k < n then D 14 (u * 12 + (o + k)) else D a k
theorem sbF_s {a o u n : Nat} : upd (sbF D a o u n) n (D 14 (u * 12 + (o + n))) = sbF D a o u (n + 1) := by
  funext k
  unfold sbF upd
  simp only []
  by_cases q : k = n
  · rw [if_pos q, if_pos (by omega), q]
  · rw [if_neg q]
    by_cases q2 : k < n
    · rw [if_pos q2, if_pos (by omega)]
    · rw [if_neg q2, if_neg (by omega)]
theorem sbF_0 {a o u : Nat} : wA D a (sbF D a o u 0) = D := by
  funext q
  unfold wA
  by_cases e : q = a
  · rw [if_pos e, e]; funext k; unfold sbF; rw [if_neg (by omega)]
  · rw [if_neg e]
def sbD (D : Nat → Nat → Int32) (u : Nat) : Nat → Nat → Int32 := wN (wA (wA (wA D 3 (sbF D 3 0 u 6)) 6 (sbF D 6 6 u 4)) 0 (fq (D 0 0) (D 0 1) (D 14 (u * 12 + 10)) (D 14 (u * 12 + 11)))) 13 (nI u)
theorem U_stepBack {u : Nat} (hu : D 13 0 = nI (u + 1)) (h8 : u < 8) : T (d + 3) 73 0 [.ref b, un] [] (hU h b D) Q ↔ Q none (hU h b (sbD D u)) := by
  have k13 : ∀ f, wA D 3 f 13 0 = nI (u + 1) := fun f => by rw [wA_o (by decide)]; exact hu
  have j13 : ∀ f f2, wA (wA D 3 f) 6 f2 13 0 = nI (u + 1) := fun f f2 => by rw [wA_o (by decide), wA_o (by decide)]; exact hu
  have i13 : ∀ f f2 f3, wA (wA (wA D 3 f) 6 f2) 0 f3 13 0 = nI (u + 1) := fun f f2 f3 => by rw [wA_o (by decide), wA_o (by decide), wA_o (by decide)]; exact hu
  simp (disch := first | assumption | omega | decide | exact hU_o | exact hU_o7 | exact hU_o9 | exact hU_o11 | exact hU_o13) only [t73_0, t73_1, hU_0, hU_7, hU_9, hU_11, hU_13, gF_5_0, gF_5_1, gF_5_2, gF_5_3, gF_5_4, gF_5_5, gF_5_6, gF_5_7, gF_5_8, gF_5_9, gF_5_10, gF_5_11, gF_5_12, gF_5_13, gF_3_0, gF_3_1, gF_3_2, gF_3_3, ln_add, nl_add, ln_mul, nl_mul, nI_add, nI_1, i32_nl, ite_not, lt_nn, lt_nl, lt_ln, eq_nn, eq_nl, eq_ln, if_true, if_false, kil_i, kil_r, kil_l, kil_u, rl_s, rl_n, Nat.zero_add, Nat.lt_irrefl, not_true_eq_false, not_false_eq_true, true_and, dp_1, dp_2, dp_3, dp_4, dp_5, dp_6, dp_7, dp_8, dp_9, dp_10, dp_11, dp_12, dp_13, dp_14, dp_15, dp_16, dp_17, dp_18, dp_19, dp_20, dp_21, dp_22, dp_23, dp_24, dp_25, dp_26, dp_27, dp_28, dp_29, dp_30, dp_31, dp_32, dp_33, dp_34, dp_35, dp_36, dp_37, dp_38, dp_39]
  have L := loop_d (P := fun i (_ : Unit) (_ : Unit) => T (d + 3) 73 2 [.ref b, .int (nI i)] [] (hU h b (wA D 3 (sbF D 3 0 u i))) Q) (F := fun _ s => s) (E := fun _ => T (d + 3) 73 32 [.ref b, .int (nI 0)] [] (hU h b (wA D 3 (sbF D 3 0 u 6))) Q) (g := 6) ?_ ?_
  · have L1 := L () ()
    rw [sbF_0] at L1
    refine L1.trans ?_
    have L2 := loop_d (P := fun i (_ : Unit) (_ : Unit) => T (d + 3) 73 32 [.ref b, .int (nI i)] [] (hU h b (wA (wA D 3 (sbF D 3 0 u 6)) 6 (sbF D 6 6 u i))) Q) (F := fun _ s => s) (E := fun _ => Q none (hU h b (sbD D u))) (g := 4) ?_ ?_
    · have L3 := L2 () ()
      have e6 : wA (wA D 3 (sbF D 3 0 u 6)) 6 (sbF D 6 6 u 0) = wA D 3 (sbF D 3 0 u 6) := by
        funext q
        by_cases e : q = 6
        · rw [e, wA_s, wA_o (by decide)]; funext k; unfold sbF; rw [if_neg (by omega)]
        · rw [wA_o e]
      rw [e6] at L3
      exact L3
    · intro i _ _ hi
      refine ⟨(), ?_⟩
      have z : ∀ f f2 (Q2 : Pst), (T (d + 2) 40 0 [.ref (b + 13), .int (nI (6 + i))] [] (hU h b (wA (wA D 3 f) 6 f2)) Q2 ↔ Q2 (some (.int (D 14 (u * 12 + (6 + i))))) (hU h b (wA (wA D 3 f) 6 f2))) := fun f f2 Q2 => by rw [L_13 (q := 6 + i) (j13 f f2) h8 (by omega), wA_o (by decide), wA_o (by decide)]
      rw [← sbF_s (a := 6) (n := i), t73_32]
      simp (disch := first | assumption | omega | decide | exact hU_o | exact hU_o7 | exact hU_o9 | exact hU_o11 | exact hU_o13) only [t73_33, t73_34, t73_37, t73_38, t73_41, t73_42, t73_43, t73_46, t73_48, t73_49, t73_50, t73_53, t73_56, t73_59, hU_0, hU_7, hU_9, hU_11, hU_13, gF_5_0, gF_5_1, gF_5_2, gF_5_3, gF_5_4, gF_5_5, gF_5_6, gF_5_7, gF_5_8, gF_5_9, gF_5_10, gF_5_11, gF_5_12, gF_5_13, gF_3_0, gF_3_1, gF_3_2, gF_3_3, ln_add, nl_add, ln_mul, nl_mul, nI_add, nI_1, i32_nl, ite_not, lt_nn, lt_nl, lt_ln, eq_nn, eq_nl, eq_ln, if_true, if_false, kil_i, kil_r, kil_l, kil_u, rl_s, rl_n, Nat.zero_add, Nat.lt_irrefl, not_true_eq_false, not_false_eq_true, true_and, dp_1, dp_2, dp_3, dp_4, dp_5, dp_6, dp_7, dp_8, dp_9, dp_10, dp_11, dp_12, dp_13, dp_14, dp_15, dp_16, dp_17, dp_18, dp_19, dp_20, dp_21, dp_22, dp_23, dp_24, dp_25, dp_26, dp_27, dp_28, dp_29, dp_30, dp_31, dp_32, dp_33, dp_34, dp_35, dp_36, dp_37, dp_38, dp_39, hi, P_6 (show i < 4 by omega), z, wA_s, wA_o, wA_wA]
    · intro _ _
      have y10 : ∀ f f2 (Q2 : Pst), (T (d + 2) 40 0 [.ref (b + 13), .int 10] [] (hU h b (wA (wA D 3 f) 6 f2)) Q2 ↔ Q2 (some (.int (D 14 (u * 12 + 10)))) (hU h b (wA (wA D 3 f) 6 f2))) := fun f f2 Q2 => by
        have := Ll_13 (d := d) (h := h) (b := b) (Q := Q2) (D := wA (wA D 3 f) 6 f2) (q := 10) (j13 f f2) h8 (by decide)
        rw [wA_o (by decide), wA_o (by decide)] at this
        exact this
      have y11 : ∀ f f2 f3 (Q2 : Pst), (T (d + 2) 40 0 [.ref (b + 13), .int 11] [] (hU h b (wA (wA (wA D 3 f) 6 f2) 0 f3)) Q2 ↔ Q2 (some (.int (D 14 (u * 12 + 11)))) (hU h b (wA (wA (wA D 3 f) 6 f2) 0 f3))) := fun f f2 f3 Q2 => by
        have := Ll_13 (d := d) (h := h) (b := b) (Q := Q2) (D := wA (wA (wA D 3 f) 6 f2) 0 f3) (q := 11) (i13 f f2 f3) h8 (by decide)
        rw [wA_o (by decide), wA_o (by decide), wA_o (by decide)] at this
        exact this
      have yK : ∀ f f2 f3 (Q2 : Pst), (T (d + 2) 41 0 [.ref (b + 13)] [] (hU h b (wA (wA (wA D 3 f) 6 f2) 0 f3)) Q2 ↔ Q2 none (hU h b (wN (wA (wA (wA D 3 f) 6 f2) 0 f3) 13 (nI u)))) := fun f f2 f3 Q2 => K_13 (i13 f f2 f3) h8
      rw [t73_32]
      simp (disch := first | assumption | omega | decide | exact hU_o | exact hU_o7 | exact hU_o9 | exact hU_o11 | exact hU_o13) only [t73_33, t73_34, t73_62, t73_63, t73_64, t73_67, t73_69, t73_72, t73_75, t73_76, t73_77, t73_80, t73_82, t73_85, t73_88, t73_89, t73_92, t73_95, hU_0, hU_7, hU_9, hU_11, hU_13, gF_5_0, gF_5_1, gF_5_2, gF_5_3, gF_5_4, gF_5_5, gF_5_6, gF_5_7, gF_5_8, gF_5_9, gF_5_10, gF_5_11, gF_5_12, gF_5_13, gF_3_0, gF_3_1, gF_3_2, gF_3_3, ln_add, nl_add, ln_mul, nl_mul, nI_add, nI_1, i32_nl, ite_not, lt_nn, lt_nl, lt_ln, eq_nn, eq_nl, eq_ln, if_true, if_false, kil_i, kil_r, kil_l, kil_u, rl_s, rl_n, Nat.zero_add, Nat.lt_irrefl, not_true_eq_false, not_false_eq_true, true_and, dp_1, dp_2, dp_3, dp_4, dp_5, dp_6, dp_7, dp_8, dp_9, dp_10, dp_11, dp_12, dp_13, dp_14, dp_15, dp_16, dp_17, dp_18, dp_19, dp_20, dp_21, dp_22, dp_23, dp_24, dp_25, dp_26, dp_27, dp_28, dp_29, dp_30, dp_31, dp_32, dp_33, dp_34, dp_35, dp_36, dp_37, dp_38, dp_39, y10, y11, yK, pF_5_12, pF_5_13, hU_u0, wA_s, wA_o, wA_wA, fq_0, fq_1, fq_2, fq_3, sbD]
  · intro i _ _ hi
    refine ⟨(), ?_⟩
    have z : ∀ f (Q2 : Pst), (T (d + 2) 40 0 [.ref (b + 13), .int (nI i)] [] (hU h b (wA D 3 f)) Q2 ↔ Q2 (some (.int (D 14 (u * 12 + i)))) (hU h b (wA D 3 f))) := fun f Q2 => by rw [L_13 (q := i) (k13 f) h8 (by omega), wA_o (by decide)]
    rw [← sbF_s (a := 3) (n := i), Nat.zero_add, t73_2]
    simp (disch := first | assumption | omega | decide | exact hU_o | exact hU_o7 | exact hU_o9 | exact hU_o11 | exact hU_o13) only [t73_3, t73_5, t73_8, t73_9, t73_12, t73_13, t73_14, t73_17, t73_18, t73_21, t73_24, t73_27, hU_0, hU_7, hU_9, hU_11, hU_13, gF_5_0, gF_5_1, gF_5_2, gF_5_3, gF_5_4, gF_5_5, gF_5_6, gF_5_7, gF_5_8, gF_5_9, gF_5_10, gF_5_11, gF_5_12, gF_5_13, gF_3_0, gF_3_1, gF_3_2, gF_3_3, ln_add, nl_add, ln_mul, nl_mul, nI_add, nI_1, i32_nl, ite_not, lt_nn, lt_nl, lt_ln, eq_nn, eq_nl, eq_ln, if_true, if_false, kil_i, kil_r, kil_l, kil_u, rl_s, rl_n, Nat.zero_add, Nat.lt_irrefl, not_true_eq_false, not_false_eq_true, true_and, dp_1, dp_2, dp_3, dp_4, dp_5, dp_6, dp_7, dp_8, dp_9, dp_10, dp_11, dp_12, dp_13, dp_14, dp_15, dp_16, dp_17, dp_18, dp_19, dp_20, dp_21, dp_22, dp_23, dp_24, dp_25, dp_26, dp_27, dp_28, dp_29, dp_30, dp_31, dp_32, dp_33, dp_34, dp_35, dp_36, dp_37, dp_38, dp_39, hi, P_3 (show i < 6 by omega), z, wA_s, wA_o, wA_wA]
  · intro _ _
    rw [t73_2]
    simp (disch := first | assumption | omega | decide | exact hU_o | exact hU_o7 | exact hU_o9 | exact hU_o11 | exact hU_o13) only [t73_3, t73_5, t73_30, t73_31, hU_0, hU_7, hU_9, hU_11, hU_13, gF_5_0, gF_5_1, gF_5_2, gF_5_3, gF_5_4, gF_5_5, gF_5_6, gF_5_7, gF_5_8, gF_5_9, gF_5_10, gF_5_11, gF_5_12, gF_5_13, gF_3_0, gF_3_1, gF_3_2, gF_3_3, ln_add, nl_add, ln_mul, nl_mul, nI_add, nI_1, i32_nl, ite_not, lt_nn, lt_nl, lt_ln, eq_nn, eq_nl, eq_ln, if_true, if_false, kil_i, kil_r, kil_l, kil_u, rl_s, rl_n, Nat.zero_add, Nat.lt_irrefl, not_true_eq_false, not_false_eq_true, true_and, dp_1, dp_2, dp_3, dp_4, dp_5, dp_6, dp_7, dp_8, dp_9, dp_10, dp_11, dp_12, dp_13, dp_14, dp_15, dp_16, dp_17, dp_18, dp_19, dp_20, dp_21, dp_22, dp_23, dp_24, dp_25, dp_26, dp_27, dp_28, dp_29, dp_30, dp_31, dp_32, dp_33, dp_34, dp_35, dp_36, dp_37, dp_38, dp_39]
    exact Iff.rfl
/-- evenings gone by -/
def peF (D : Nat → Nat → Int32) (R : Nat → Int32) (g b0 p i : Nat) : Nat → Int32 := fun k => if k < i then lkx (D 6 k) (mor R g b0 k) (nI p) else D 6 k
theorem peF_s {p i : Nat} : upd (peF D R g b0 p i) i (lkx (D 6 i) (mor R g b0 i) (nI p)) = peF D R g b0 p (i + 1) := by
  funext k
  unfold peF upd
  simp only []
  by_cases q : k = i
  · rw [if_pos q, if_pos (by omega), q]
  · rw [if_neg q]
    by_cases q2 : k < i
    · rw [if_pos q2, if_pos (by omega)]
    · rw [if_neg q2, if_neg (by omega)]
def peD (D : Nat → Nat → Int32) (R : Nat → Int32) (g hh b0 e p : Nat) : Nat → Nat → Int32 := wA (wA D 6 (peF D R g b0 p hh)) 0 (fq (D 0 0) (D 0 1) (D 0 2) (nI (e + p)))
theorem Rl.w6 (r : Rl D R g hh b0) (f : Nat → Int32) : Rl (wA D 6 f) R g hh b0 := by
  unfold Rl at *
  simpa (disch := first | assumption | omega | decide | exact hU_o | exact hU_o7 | exact hU_o9 | exact hU_o11 | exact hU_o13) only [wA_o] using r
theorem min_n {n e : Nat} : (if 999 - e < n then nI (999 - e) else nI n) = nI (min n (999 - e)) := by
  by_cases q : 999 - e < n
  · rw [if_pos q]; congr 1; omega
  · rw [if_neg q]; congr 1; omega
theorem U_passEvenings {n e : Nat} {x : Value} (r : Rl D R g hh b0) (he : D 0 3 = nI e) (h9 : e ≤ 999) (hn : n < 2 ^ 20) : T (d + 4) 71 0 [.ref b, .int (nI n), un, x] [] (hU h b D) Q ↔ Q none (hU h b (peD D R g hh b0 e (min n (999 - e)))) := by
  obtain ⟨-, ⟨r1, r2⟩, -⟩ := id r
  have e9 : (999 : Int32) - nI e = nI (999 - e) := pk_sub (a := 999) h9
  simp (disch := first | assumption | omega | decide | exact hU_o | exact hU_o7 | exact hU_o9 | exact hU_o11 | exact hU_o13) only [t71_0, t71_1, t71_4, t71_5, t71_8, t71_9, t71_12, t71_13, t71_14, hU_0, hU_7, hU_9, hU_11, hU_13, gF_5_0, gF_5_1, gF_5_2, gF_5_3, gF_5_4, gF_5_5, gF_5_6, gF_5_7, gF_5_8, gF_5_9, gF_5_10, gF_5_11, gF_5_12, gF_5_13, gF_3_0, gF_3_1, gF_3_2, gF_3_3, ln_add, nl_add, ln_mul, nl_mul, nI_add, nI_1, i32_nl, ite_not, lt_nn, lt_nl, lt_ln, eq_nn, eq_nl, eq_ln, if_true, if_false, kil_i, kil_r, kil_l, kil_u, rl_s, rl_n, Nat.zero_add, Nat.lt_irrefl, not_true_eq_false, not_false_eq_true, true_and, dp_1, dp_2, dp_3, dp_4, dp_5, dp_6, dp_7, dp_8, dp_9, dp_10, dp_11, dp_12, dp_13, dp_14, dp_15, dp_16, dp_17, dp_18, dp_19, dp_20, dp_21, dp_22, dp_23, dp_24, dp_25, dp_26, dp_27, dp_28, dp_29, dp_30, dp_31, dp_32, dp_33, dp_34, dp_35, dp_36, dp_37, dp_38, dp_39, he, e9, min_n]
  generalize min n (999 - e) = p
  have L := loop_d (P := fun i (_ : Unit) (_ : Unit) => T (d + 4) 71 15 [.ref b, .int (nI n), .int (nI p), .int (nI i)] [] (hU h b (wA D 6 (peF D R g b0 p i))) Q) (F := fun _ s => s) (E := fun _ => Q none (hU h b (peD D R g hh b0 e p))) (g := hh) ?_ ?_
  · have L3 := L () ()
    have e6 : wA D 6 (peF D R g b0 p 0) = D := by
      funext q
      by_cases e : q = 6
      · rw [e, wA_s]; funext k; unfold peF; rw [if_neg (by omega)]
      · rw [wA_o e]
    rw [e6] at L3
    exact L3
  · intro i _ _ hi
    refine ⟨(), ?_⟩
    have hx : wA D 6 (peF D R g b0 p i) 6 i = D 6 i := by
      rw [wA_s]; unfold peF; rw [if_neg (by omega)]
    rw [← peF_s, t71_15]
    simp (disch := first | assumption | omega | decide | exact hU_o | exact hU_o7 | exact hU_o9 | exact hU_o11 | exact hU_o13) only [t71_16, t71_17, t71_20, t71_23, t71_24, t71_27, t71_28, t71_29, t71_30, t71_31, t71_34, t71_37, t71_40, hU_0, hU_7, hU_9, hU_11, hU_13, gF_5_0, gF_5_1, gF_5_2, gF_5_3, gF_5_4, gF_5_5, gF_5_6, gF_5_7, gF_5_8, gF_5_9, gF_5_10, gF_5_11, gF_5_12, gF_5_13, gF_3_0, gF_3_1, gF_3_2, gF_3_3, ln_add, nl_add, ln_mul, nl_mul, nI_add, nI_1, i32_nl, ite_not, lt_nn, lt_nl, lt_ln, eq_nn, eq_nl, eq_ln, if_true, if_false, kil_i, kil_r, kil_l, kil_u, rl_s, rl_n, Nat.zero_add, Nat.lt_irrefl, not_true_eq_false, not_false_eq_true, true_and, dp_1, dp_2, dp_3, dp_4, dp_5, dp_6, dp_7, dp_8, dp_9, dp_10, dp_11, dp_12, dp_13, dp_14, dp_15, dp_16, dp_17, dp_18, dp_19, dp_20, dp_21, dp_22, dp_23, dp_24, dp_25, dp_26, dp_27, dp_28, dp_29, dp_30, dp_31, dp_32, dp_33, dp_34, dp_35, dp_36, dp_37, dp_38, dp_39, wA_o, r1, hi, U_likingAfter (r.w6 (peF D R g b0 p i)) hi hx, P_6 (show i < 4 by omega), wA_wA, wA_s]
  · intro _ _
    rw [t71_15]
    simp (disch := first | assumption | omega | decide | exact hU_o | exact hU_o7 | exact hU_o9 | exact hU_o11 | exact hU_o13) only [t71_16, t71_17, t71_20, t71_43, t71_44, t71_45, t71_48, t71_49, t71_50, t71_53, hU_0, hU_7, hU_9, hU_11, hU_13, gF_5_0, gF_5_1, gF_5_2, gF_5_3, gF_5_4, gF_5_5, gF_5_6, gF_5_7, gF_5_8, gF_5_9, gF_5_10, gF_5_11, gF_5_12, gF_5_13, gF_3_0, gF_3_1, gF_3_2, gF_3_3, ln_add, nl_add, ln_mul, nl_mul, nI_add, nI_1, i32_nl, ite_not, lt_nn, lt_nl, lt_ln, eq_nn, eq_nl, eq_ln, if_true, if_false, kil_i, kil_r, kil_l, kil_u, rl_s, rl_n, Nat.zero_add, Nat.lt_irrefl, not_true_eq_false, not_false_eq_true, true_and, dp_1, dp_2, dp_3, dp_4, dp_5, dp_6, dp_7, dp_8, dp_9, dp_10, dp_11, dp_12, dp_13, dp_14, dp_15, dp_16, dp_17, dp_18, dp_19, dp_20, dp_21, dp_22, dp_23, dp_24, dp_25, dp_26, dp_27, dp_28, dp_29, dp_30, dp_31, dp_32, dp_33, dp_34, dp_35, dp_36, dp_37, dp_38, dp_39, wA_o, r1, he, pF_5_13, hU_u0, peD]
end U3
