/-! read: words and numbers -/
theorem ext_all {c : Nat → Bool} : ∀ f e x, e ≤ x → x < ext c f e → c x = true := by
  intro f
  induction f with
  | zero => intro e x h1 h2; exact absurd h2 (by show ¬ x < e; omega)
  | succ f ih =>
    intro e x h1 h2
    have h3 : ext c (f + 1) e = if c e = true then ext c f (e + 1) else e := rfl
    rw [h3] at h2
    by_cases q : c e = true
    · rw [if_pos q] at h2
      by_cases z : x = e
      · rw [z]; exact q
      · exact ih (e + 1) x (by omega) h2
    · rw [if_neg q] at h2; omega
theorem isLt_0 {X : Nat → Int32} {n x : Nat} (h : isLt X n x = true) : ¬ X x = 0 := by
  intro z
  unfold isLt at h
  rw [z, show rg 0 97 122 = false by decide, Bool.and_false] at h
  cases h
def nuV (X : Nat → Int32) (n : Nat) : Nat → Nat → Int32 → Int32
  | 0, _, v => v
  | f + 1, e, v => if isFg X n e = true then nuV X n f (e + 1) (10 * v + X e - 48) else v
def vDW (X : Nat → Int32) (a e : Nat) : Int32 := itr (fun k v => if wdB X a e k = true then nI k else v) 6 0 (-1)
theorem nw_zb {c : Prop} [Decidable c] : narrow .boolean (.int (zb c)) = Value.int (zb c) := by
  unfold zb
  by_cases q : c
  · rw [if_pos q]; decide
  · rw [if_neg q]; decide
theorem C_isLetter {d : Nat} {x : Int32} {h : Hp} {Q : Pst} : T (d + 1) 32 0 [.int x] [] h Q ↔ Q (some (.int (zb (rg x 97 122 = true)))) h := by
  simp (disch := first | assumption | omega | decide | exact hX_o13 | exact hU_o | exact hX_o45 | exact hX_o47 | exact hX_o49 | exact hX_o54 | exact hU_o7 | exact hU_o9 | exact hU_o11 | exact hU_o13) only [t32_0, t32_1, t32_3, t32_5, t32_8, hC_13, hC_45, hC_47, hC_49, hC_54, gF_6_0, gF_6_1, gF_6_2, gF_6_3, gF_6_4, gF_6_5, gF_6_6, gF_6_7, gF_6_8, gF_6_9, hU_0, hU_7, hU_9, hU_11, hU_13, gF_5_0, gF_5_1, gF_5_2, gF_5_3, gF_5_4, gF_5_5, gF_5_6, gF_5_7, gF_5_8, gF_5_9, gF_5_10, gF_5_11, gF_5_12, gF_5_13, gF_3_0, gF_3_1, gF_3_2, gF_3_3, ln_add, nl_add, ln_mul, nl_mul, nI_add, nI_1, i32_nl, ite_not, lt_nn, lt_nl, lt_ln, eq_nn, eq_nl, eq_ln, if_true, if_false, kil_i, kil_r, kil_l, kil_u, rl_s, rl_n, Nat.zero_add, Nat.lt_irrefl, not_true_eq_false, not_false_eq_true, true_and, dp_1, dp_2, dp_3, dp_4, dp_5, dp_6, dp_7, dp_8, dp_9, dp_10, dp_11, dp_12, dp_13, dp_14, dp_15, dp_16, dp_17, dp_18, dp_19, dp_20, dp_21, dp_22, dp_23, dp_24, dp_25, dp_26, dp_27, dp_28, dp_29, dp_30, dp_31, dp_32, dp_33, dp_34, dp_35, dp_36, dp_37, dp_38, dp_39, E_withinL, nw_zb]
theorem C_isFigure {d : Nat} {x : Int32} {h : Hp} {Q : Pst} : T (d + 1) 33 0 [.int x] [] h Q ↔ Q (some (.int (zb (rg x 48 57 = true)))) h := by
  simp (disch := first | assumption | omega | decide | exact hX_o13 | exact hU_o | exact hX_o45 | exact hX_o47 | exact hX_o49 | exact hX_o54 | exact hU_o7 | exact hU_o9 | exact hU_o11 | exact hU_o13) only [t33_0, t33_1, t33_3, t33_5, t33_8, hC_13, hC_45, hC_47, hC_49, hC_54, gF_6_0, gF_6_1, gF_6_2, gF_6_3, gF_6_4, gF_6_5, gF_6_6, gF_6_7, gF_6_8, gF_6_9, hU_0, hU_7, hU_9, hU_11, hU_13, gF_5_0, gF_5_1, gF_5_2, gF_5_3, gF_5_4, gF_5_5, gF_5_6, gF_5_7, gF_5_8, gF_5_9, gF_5_10, gF_5_11, gF_5_12, gF_5_13, gF_3_0, gF_3_1, gF_3_2, gF_3_3, ln_add, nl_add, ln_mul, nl_mul, nI_add, nI_1, i32_nl, ite_not, lt_nn, lt_nl, lt_ln, eq_nn, eq_nl, eq_ln, if_true, if_false, kil_i, kil_r, kil_l, kil_u, rl_s, rl_n, Nat.zero_add, Nat.lt_irrefl, not_true_eq_false, not_false_eq_true, true_and, dp_1, dp_2, dp_3, dp_4, dp_5, dp_6, dp_7, dp_8, dp_9, dp_10, dp_11, dp_12, dp_13, dp_14, dp_15, dp_16, dp_17, dp_18, dp_19, dp_20, dp_21, dp_22, dp_23, dp_24, dp_25, dp_26, dp_27, dp_28, dp_29, dp_30, dp_31, dp_32, dp_33, dp_34, dp_35, dp_36, dp_37, dp_38, dp_39, E_withinL, nw_zb]
section TW
variable {d : Nat} {h : Hp} {Q : Pst} {ab be : Int32} {O D : Nat → Nat → Int32} {X : Nat → Int32} {n a e b : Nat} {x2 x3 x4 x5 x6 x7 x8 : Int32}
theorem E_spelling {k : Nat} (hk : k < 6) : T d 31 0 [.int (nI k)] [] h Q ↔ Q (some (.ref (1 + k))) h := by
  rw [t31_0, t31_1, swn hk]
  have hc : k = 0 ∨ k = 1 ∨ k = 2 ∨ k = 3 ∨ k = 4 ∨ k = 5 := by omega
  rcases hc with rfl | rfl | rfl | rfl | rfl | rfl
  · rw [if_pos rfl, t31_36, t31_38]
  · rw [if_neg (by decide), if_pos rfl, t31_39, t31_41]
  · rw [if_neg (by decide), if_neg (by decide), if_pos rfl, t31_42, t31_44]
  · rw [if_neg (by decide), if_neg (by decide), if_neg (by decide), if_pos rfl, t31_45, t31_47]
  · rw [if_neg (by decide), if_neg (by decide), if_neg (by decide), if_neg (by decide), if_pos rfl, t31_48, t31_50]
  · rw [if_neg (by decide), if_neg (by decide), if_neg (by decide), if_neg (by decide), if_neg (by decide), t31_51, t31_53]
theorem e46V (hO : O 46 = X) {V : Nat → Int32} : (hX h ab be V O D).2.2 46 = oI 150 X := by rw [hC_46, hO]
theorem L_tw (hO : O 46 = X) (hn : n ≤ 150) : ∀ f e, e ≤ n → n < e + f → (T (d + 9) 28 0 [.ref 45, un] [] (hX h ab be (vq (nI n) (nI e) x3 x4 x5 x6 x7 x8) O D) Q ↔ T (d + 9) 28 41 [.ref 45, un] [] (hX h ab be (vq (nI n) (nI (ext (isLt X n) f e)) x3 x4 x5 x6 x7 x8) O D) Q) := by
  intro f
  induction f with
  | zero => intro e h1 h2; omega
  | succ f ih =>
    intro e h1 h2
    have hx : ext (isLt X n) (f + 1) e = if isLt X n e = true then ext (isLt X n) f (e + 1) else e := rfl
    rw [hx, t28_0]
    by_cases q : e < n
    · by_cases q2 : rg (X e) 97 122 = true
      · have q3 : isLt X n e = true := by unfold isLt; rw [q2, decide_eq_true q]; rfl
        rw [if_pos q3]
        simp (disch := first | assumption | omega | decide | exact hX_o13 | exact hU_o | exact hX_o45 | exact hX_o47 | exact hX_o49 | exact hX_o54 | exact hU_o7 | exact hU_o9 | exact hU_o11 | exact hU_o13) only [t28_1, t28_4, t28_5, t28_8, t28_11, t28_12, t28_15, t28_16, t28_19, t28_22, t28_25, t28_28, t28_29, t28_30, t28_33, t28_34, t28_35, t28_38, hC_13, hC_45, hC_47, hC_49, hC_54, gF_6_0, gF_6_1, gF_6_2, gF_6_3, gF_6_4, gF_6_5, gF_6_6, gF_6_7, gF_6_8, gF_6_9, hU_0, hU_7, hU_9, hU_11, hU_13, gF_5_0, gF_5_1, gF_5_2, gF_5_3, gF_5_4, gF_5_5, gF_5_6, gF_5_7, gF_5_8, gF_5_9, gF_5_10, gF_5_11, gF_5_12, gF_5_13, gF_3_0, gF_3_1, gF_3_2, gF_3_3, ln_add, nl_add, ln_mul, nl_mul, nI_add, nI_1, i32_nl, ite_not, lt_nn, lt_nl, lt_ln, eq_nn, eq_nl, eq_ln, if_true, if_false, kil_i, kil_r, kil_l, kil_u, rl_s, rl_n, Nat.zero_add, Nat.lt_irrefl, not_true_eq_false, not_false_eq_true, true_and, dp_1, dp_2, dp_3, dp_4, dp_5, dp_6, dp_7, dp_8, dp_9, dp_10, dp_11, dp_12, dp_13, dp_14, dp_15, dp_16, dp_17, dp_18, dp_19, dp_20, dp_21, dp_22, dp_23, dp_24, dp_25, dp_26, dp_27, dp_28, dp_29, dp_30, dp_31, dp_32, dp_33, dp_34, dp_35, dp_36, dp_37, dp_38, dp_39, C_isLetter, gF_2_0, gF_2_1, gF_2_2, pF_2_2, vq_1, vq_2, vq_3, vq_4, vq_5, vq_6, vq_7, vq_8, q, G_n (e46V hO) (show e < 150 by omega) (show 150 < 2 ^ 31 by decide), zb_0, q2, hC_u45]
        exact ih (e + 1) (by omega) (by omega)
      · have q3 : ¬ isLt X n e = true := by unfold isLt; rw [Bool.and_eq_true]; exact fun z => q2 z.2
        rw [if_neg q3]
        simp (disch := first | assumption | omega | decide | exact hX_o13 | exact hU_o | exact hX_o45 | exact hX_o47 | exact hX_o49 | exact hX_o54 | exact hU_o7 | exact hU_o9 | exact hU_o11 | exact hU_o13) only [t28_1, t28_4, t28_5, t28_8, t28_11, t28_12, t28_15, t28_16, t28_19, t28_22, t28_25, hC_13, hC_45, hC_47, hC_49, hC_54, gF_6_0, gF_6_1, gF_6_2, gF_6_3, gF_6_4, gF_6_5, gF_6_6, gF_6_7, gF_6_8, gF_6_9, hU_0, hU_7, hU_9, hU_11, hU_13, gF_5_0, gF_5_1, gF_5_2, gF_5_3, gF_5_4, gF_5_5, gF_5_6, gF_5_7, gF_5_8, gF_5_9, gF_5_10, gF_5_11, gF_5_12, gF_5_13, gF_3_0, gF_3_1, gF_3_2, gF_3_3, ln_add, nl_add, ln_mul, nl_mul, nI_add, nI_1, i32_nl, ite_not, lt_nn, lt_nl, lt_ln, eq_nn, eq_nl, eq_ln, if_true, if_false, kil_i, kil_r, kil_l, kil_u, rl_s, rl_n, Nat.zero_add, Nat.lt_irrefl, not_true_eq_false, not_false_eq_true, true_and, dp_1, dp_2, dp_3, dp_4, dp_5, dp_6, dp_7, dp_8, dp_9, dp_10, dp_11, dp_12, dp_13, dp_14, dp_15, dp_16, dp_17, dp_18, dp_19, dp_20, dp_21, dp_22, dp_23, dp_24, dp_25, dp_26, dp_27, dp_28, dp_29, dp_30, dp_31, dp_32, dp_33, dp_34, dp_35, dp_36, dp_37, dp_38, dp_39, C_isLetter, gF_2_0, gF_2_1, gF_2_2, vq_1, vq_2, q, G_n (e46V hO) (show e < 150 by omega) (show 150 < 2 ^ 31 by decide), zb_0, q2, Bool.false_eq_true]
    · have q3 : ¬ isLt X n e = true := by unfold isLt; rw [Bool.and_eq_true, decide_eq_true_eq]; exact fun z => q z.1
      rw [if_neg q3]
      simp (disch := first | assumption | omega | decide | exact hX_o13 | exact hU_o | exact hX_o45 | exact hX_o47 | exact hX_o49 | exact hX_o54 | exact hU_o7 | exact hU_o9 | exact hU_o11 | exact hU_o13) only [t28_1, t28_4, t28_5, t28_8, hC_13, hC_45, hC_47, hC_49, hC_54, gF_6_0, gF_6_1, gF_6_2, gF_6_3, gF_6_4, gF_6_5, gF_6_6, gF_6_7, gF_6_8, gF_6_9, hU_0, hU_7, hU_9, hU_11, hU_13, gF_5_0, gF_5_1, gF_5_2, gF_5_3, gF_5_4, gF_5_5, gF_5_6, gF_5_7, gF_5_8, gF_5_9, gF_5_10, gF_5_11, gF_5_12, gF_5_13, gF_3_0, gF_3_1, gF_3_2, gF_3_3, ln_add, nl_add, ln_mul, nl_mul, nI_add, nI_1, i32_nl, ite_not, lt_nn, lt_nl, lt_ln, eq_nn, eq_nl, eq_ln, if_true, if_false, kil_i, kil_r, kil_l, kil_u, rl_s, rl_n, Nat.zero_add, Nat.lt_irrefl, not_true_eq_false, not_false_eq_true, true_and, dp_1, dp_2, dp_3, dp_4, dp_5, dp_6, dp_7, dp_8, dp_9, dp_10, dp_11, dp_12, dp_13, dp_14, dp_15, dp_16, dp_17, dp_18, dp_19, dp_20, dp_21, dp_22, dp_23, dp_24, dp_25, dp_26, dp_27, dp_28, dp_29, dp_30, dp_31, dp_32, dp_33, dp_34, dp_35, dp_36, dp_37, dp_38, dp_39, gF_2_1, gF_2_2, vq_1, vq_2, q]
theorem E_takeWord (s : StrOk h) (hO : O 46 = X) (hn : n ≤ 150) (la : isLt X n a = true) : T (d + 9) 28 0 [.ref 45, un] [] (hX h ab be (vq (nI n) (nI a) (nI a) x4 x5 x6 x7 x8) O D) Q ↔ Q none (hX h ab be (vq (nI n) (nI (ext (isLt X n) (n + 1) (a + 1))) (nI a) 1 (vDW X a (ext (isLt X n) (n + 1) (a + 1))) x6 x7 x8) O D) := by
  have ha := isLt_lt la
  have hx : ext (isLt X n) (n + 2) a = ext (isLt X n) (n + 1) (a + 1) := by
    show (if isLt X n a = true then ext (isLt X n) (n + 1) (a + 1) else a) = _
    rw [if_pos la]
  obtain ⟨e, he⟩ : ∃ e, e = ext (isLt X n) (n + 1) (a + 1) := ⟨_, rfl⟩
  have h1 : a ≤ e := by rw [he]; exact Nat.le_trans (Nat.le_succ a) (ext_ge _ _)
  have h2 : e ≤ n := by rw [he]; exact ext_le (fun k hk => isLt_lt hk) _ _ (by omega)
  have hX0 : ∀ x, a ≤ x → x < e → ¬ X x = 0 := fun x h3 h4 => by
    refine isLt_0 (n := n) ?_
    rw [he, ← hx] at h4
    exact ext_all _ _ _ h3 h4
  refine (L_tw hO hn (n + 2) a (by omega) (by omega)).trans ?_
  rw [hx, ← he]
  have L := loop_d (P := fun k (v : Int32) (_ : Unit) => T (d + 9) 28 53 [.ref 45, .int (nI k)] [] (hX h ab be (vq (nI n) (nI e) (nI a) 1 v x6 x7 x8) O D) Q) (F := fun k v => if wdB X a e k = true then nI k else v) (E := fun v => Q none (hX h ab be (vq (nI n) (nI e) (nI a) 1 v x6 x7 x8) O D)) (g := 6) ?_ ?_
  · simp (disch := first | assumption | omega | decide | exact hX_o13 | exact hU_o | exact hX_o45 | exact hX_o47 | exact hX_o49 | exact hX_o54 | exact hU_o7 | exact hU_o9 | exact hU_o11 | exact hU_o13) only [t28_41, t28_42, t28_43, t28_46, t28_47, t28_48, t28_51, t28_52, hC_13, hC_45, hC_47, hC_49, hC_54, gF_6_0, gF_6_1, gF_6_2, gF_6_3, gF_6_4, gF_6_5, gF_6_6, gF_6_7, gF_6_8, gF_6_9, hU_0, hU_7, hU_9, hU_11, hU_13, gF_5_0, gF_5_1, gF_5_2, gF_5_3, gF_5_4, gF_5_5, gF_5_6, gF_5_7, gF_5_8, gF_5_9, gF_5_10, gF_5_11, gF_5_12, gF_5_13, gF_3_0, gF_3_1, gF_3_2, gF_3_3, ln_add, nl_add, ln_mul, nl_mul, nI_add, nI_1, i32_nl, ite_not, lt_nn, lt_nl, lt_ln, eq_nn, eq_nl, eq_ln, if_true, if_false, kil_i, kil_r, kil_l, kil_u, rl_s, rl_n, Nat.zero_add, Nat.lt_irrefl, not_true_eq_false, not_false_eq_true, true_and, dp_1, dp_2, dp_3, dp_4, dp_5, dp_6, dp_7, dp_8, dp_9, dp_10, dp_11, dp_12, dp_13, dp_14, dp_15, dp_16, dp_17, dp_18, dp_19, dp_20, dp_21, dp_22, dp_23, dp_24, dp_25, dp_26, dp_27, dp_28, dp_29, dp_30, dp_31, dp_32, dp_33, dp_34, dp_35, dp_36, dp_37, dp_38, dp_39, pF_2_4, pF_2_5, vq_1, vq_2, vq_3, vq_4, vq_5, vq_6, vq_7, vq_8, hC_u45]
    exact L (-1) ()
  · intro k v _ hk
    refine ⟨(), ?_⟩
    rw [t28_53]
    by_cases q : wdB X a e k = true
    · simp (disch := first | assumption | omega | decide | exact hX_o13 | exact hU_o | exact hX_o45 | exact hX_o47 | exact hX_o49 | exact hX_o54 | exact hU_o7 | exact hU_o9 | exact hU_o11 | exact hU_o13) only [t28_54, t28_56, t28_59, t28_60, t28_61, t28_64, t28_67, t28_70, t28_71, t28_72, t28_75, t28_78, hC_13, hC_45, hC_47, hC_49, hC_54, gF_6_0, gF_6_1, gF_6_2, gF_6_3, gF_6_4, gF_6_5, gF_6_6, gF_6_7, gF_6_8, gF_6_9, hU_0, hU_7, hU_9, hU_11, hU_13, gF_5_0, gF_5_1, gF_5_2, gF_5_3, gF_5_4, gF_5_5, gF_5_6, gF_5_7, gF_5_8, gF_5_9, gF_5_10, gF_5_11, gF_5_12, gF_5_13, gF_3_0, gF_3_1, gF_3_2, gF_3_3, ln_add, nl_add, ln_mul, nl_mul, nI_add, nI_1, i32_nl, ite_not, lt_nn, lt_nl, lt_ln, eq_nn, eq_nl, eq_ln, if_true, if_false, kil_i, kil_r, kil_l, kil_u, rl_s, rl_n, Nat.zero_add, Nat.lt_irrefl, not_true_eq_false, not_false_eq_true, true_and, dp_1, dp_2, dp_3, dp_4, dp_5, dp_6, dp_7, dp_8, dp_9, dp_10, dp_11, dp_12, dp_13, dp_14, dp_15, dp_16, dp_17, dp_18, dp_19, dp_20, dp_21, dp_22, dp_23, dp_24, dp_25, dp_26, dp_27, dp_28, dp_29, dp_30, dp_31, dp_32, dp_33, dp_34, dp_35, dp_36, dp_37, dp_38, dp_39, hk, E_spelling hk, E_isSpelt s hk hO hn h1 h2 hX0, q, zT, show ¬ (1 : Int32) = 0 by decide, pF_2_5, vq_1, vq_2, vq_3, vq_4, vq_5, vq_6, vq_7, vq_8, hC_u45]
    · have q2 : wdB X a e k = false := by cases hw : wdB X a e k with
        | true => exact absurd hw q
        | false => rfl
      simp (disch := first | assumption | omega | decide | exact hX_o13 | exact hU_o | exact hX_o45 | exact hX_o47 | exact hX_o49 | exact hX_o54 | exact hU_o7 | exact hU_o9 | exact hU_o11 | exact hU_o13) only [t28_54, t28_56, t28_59, t28_60, t28_61, t28_64, t28_67, t28_70, t28_71, t28_72, t28_75, t28_78, hC_13, hC_45, hC_47, hC_49, hC_54, gF_6_0, gF_6_1, gF_6_2, gF_6_3, gF_6_4, gF_6_5, gF_6_6, gF_6_7, gF_6_8, gF_6_9, hU_0, hU_7, hU_9, hU_11, hU_13, gF_5_0, gF_5_1, gF_5_2, gF_5_3, gF_5_4, gF_5_5, gF_5_6, gF_5_7, gF_5_8, gF_5_9, gF_5_10, gF_5_11, gF_5_12, gF_5_13, gF_3_0, gF_3_1, gF_3_2, gF_3_3, ln_add, nl_add, ln_mul, nl_mul, nI_add, nI_1, i32_nl, ite_not, lt_nn, lt_nl, lt_ln, eq_nn, eq_nl, eq_ln, if_true, if_false, kil_i, kil_r, kil_l, kil_u, rl_s, rl_n, Nat.zero_add, Nat.lt_irrefl, not_true_eq_false, not_false_eq_true, true_and, dp_1, dp_2, dp_3, dp_4, dp_5, dp_6, dp_7, dp_8, dp_9, dp_10, dp_11, dp_12, dp_13, dp_14, dp_15, dp_16, dp_17, dp_18, dp_19, dp_20, dp_21, dp_22, dp_23, dp_24, dp_25, dp_26, dp_27, dp_28, dp_29, dp_30, dp_31, dp_32, dp_33, dp_34, dp_35, dp_36, dp_37, dp_38, dp_39, hk, E_spelling hk, E_isSpelt s hk hO hn h1 h2 hX0, q2, zF, Bool.false_eq_true]
  · intro v _
    rw [t28_53]
    simp (disch := first | assumption | omega | decide | exact hX_o13 | exact hU_o | exact hX_o45 | exact hX_o47 | exact hX_o49 | exact hX_o54 | exact hU_o7 | exact hU_o9 | exact hU_o11 | exact hU_o13) only [t28_54, t28_56, t28_81, hC_13, hC_45, hC_47, hC_49, hC_54, gF_6_0, gF_6_1, gF_6_2, gF_6_3, gF_6_4, gF_6_5, gF_6_6, gF_6_7, gF_6_8, gF_6_9, hU_0, hU_7, hU_9, hU_11, hU_13, gF_5_0, gF_5_1, gF_5_2, gF_5_3, gF_5_4, gF_5_5, gF_5_6, gF_5_7, gF_5_8, gF_5_9, gF_5_10, gF_5_11, gF_5_12, gF_5_13, gF_3_0, gF_3_1, gF_3_2, gF_3_3, ln_add, nl_add, ln_mul, nl_mul, nI_add, nI_1, i32_nl, ite_not, lt_nn, lt_nl, lt_ln, eq_nn, eq_nl, eq_ln, if_true, if_false, kil_i, kil_r, kil_l, kil_u, rl_s, rl_n, Nat.zero_add, Nat.lt_irrefl, not_true_eq_false, not_false_eq_true, true_and, dp_1, dp_2, dp_3, dp_4, dp_5, dp_6, dp_7, dp_8, dp_9, dp_10, dp_11, dp_12, dp_13, dp_14, dp_15, dp_16, dp_17, dp_18, dp_19, dp_20, dp_21, dp_22, dp_23, dp_24, dp_25, dp_26, dp_27, dp_28, dp_29, dp_30, dp_31, dp_32, dp_33, dp_34, dp_35, dp_36, dp_37, dp_38, dp_39]
theorem vDW_eq (la : isLt X n a = true) : vDW X a e = match wdH X n a e with
    | some w => nI w
    | none => -1 := by
  have uq : ∀ k, k < 6 → ∀ k2, k2 < 6 → (∀ j, j < 8 → wtab (8 * k + j) = wtab (8 * k2 + j)) → k = k2 := by decide +kernel
  have one : ∀ k k2, k < 6 → k2 < 6 → wdB X a e k = true → wdB X a e k2 = true → k = k2 := fun k k2 h1 h2 h3 h4 => uq k h1 k2 h2 fun j hj => by
    rw [← (wdB_iff.mp h3).2 j hj, ← (wdB_iff.mp h4).2 j hj]
  have e1 : wdH X n a e = (fnd (fun w (_ : Unit) => wdB X a e w) (fun _ s => s) 6 0 ()).1 := by
    unfold wdH; simp only [la, Bool.true_and]
  rw [e1]
  have key : ∀ m, m ≤ 6 → (∀ w, w < m → wdB X a e w = false) → itr (fun k v => if wdB X a e k = true then nI k else v) m 0 (-1) = -1 := fun m hm hw => by
    have := itr_inv (F := fun k v => if wdB X a e k = true then nI k else v) (I := fun _ v => v = -1) m 0 (-1) rfl (fun j v _ hj hv => by
      show (if wdB X a e j = true then nI j else v) = -1
      rw [hw j (by omega)]; exact hv)
    exact this
  rcases fnd_spec (c := fun w => wdB X a e w) 6 0 with ⟨h1, h2⟩ | ⟨w, h1, h2, h3, h4, h5⟩
  · rw [h1]
    exact key 6 (Nat.le_refl 6) fun w hw => h2 w (Nat.zero_le _) (by omega)
  · rw [h1]
    have := itr_inv (F := fun k v => if wdB X a e k = true then nI k else v) (I := fun m v => (w < m → v = nI w)) 6 0 (-1) (fun h => absurd h (Nat.not_lt_zero _)) (fun j v _ hj hv hw => by
      show (if wdB X a e j = true then nI j else v) = nI w
      by_cases q : wdB X a e j = true
      · rw [if_pos q, one j w (by omega) (by omega) q h4]
      · rw [if_neg q]
        refine hv ?_
        by_cases z : w = j
        · rw [← z] at q; exact absurd h4 q
        · omega)
    exact this (by omega)
end TW
