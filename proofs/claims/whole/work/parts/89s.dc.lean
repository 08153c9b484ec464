/-! read: is a word spelt so -/
theorem nw_z : (narrow .boolean (.int 0) = Value.int 0) = True := by decide
def lnS (k : Nat) : Nat := lenS.getD k 0
def byS (k j : Nat) : Int32 := (bytS.getD k []).getD j 0
def StrOk (h : Hp) : Prop := ∀ a, 1 ≤ a → a < 13 → h.2.2 a = strC a
theorem StrOk.s {h : Hp} (s : StrOk h) {k : Nat} (hk : k < 6) : h.2.2 (1 + k) = oO 100 [.ref (7 + k), .int 0] := by
  rw [s (1 + k) (by omega) (by omega)]; unfold strC
  rw [if_neg (by omega), if_pos (by omega), show 1 + k - 1 = k by omega]
theorem StrOk.b {h : Hp} (s : StrOk h) {k : Nat} (hk : k < 6) : h.2.2 (7 + k) = .inl (2, lnS k, byS k) := by
  rw [s (7 + k) (by omega) (by omega)]; unfold strC
  rw [if_neg (by omega), if_neg (by omega), if_pos (by omega), show 7 + k - 7 = k by omega]; rfl
theorem byS_n : ∀ k, k < 6 → lnS k ≤ 8 ∧ 0 < lnS k ∧ ∀ j, j < 8 → byS k j = wtab (8 * k + j) ∧ (j < lnS k → ¬ wtab (8 * k + j) = 0) ∧ (lnS k ≤ j → wtab (8 * k + j) = 0) ∧ ∃ c, c < 128 ∧ byS k j = nI c := by
  have h1 : ∀ k, k < 6 → lnS k ≤ 8 ∧ 0 < lnS k ∧ ∀ j, j < 8 → byS k j = wtab (8 * k + j) ∧ (j < lnS k → ¬ wtab (8 * k + j) = 0) ∧ (lnS k ≤ j → wtab (8 * k + j) = 0) ∧ (byS k j = nI (byS k j).toNatClampNeg ∧ (byS k j).toNatClampNeg < 128) := by decide +kernel
  intro k hk
  obtain ⟨a, b, c⟩ := h1 k hk
  exact ⟨a, b, fun j hj => ⟨(c j hj).1, (c j hj).2.1, (c j hj).2.2.1, _, (c j hj).2.2.2.2, (c j hj).2.2.2.1⟩⟩
def alB (X : Nat → Int32) (a k : Nat) : Nat → Nat → Bool
  | 0, _ => true
  | r + 1, j => decide (byS k j = X (a + j)) && alB X a k r (j + 1)
theorem alB_iff {X : Nat → Int32} {a k : Nat} : ∀ r j, alB X a k r j = true ↔ ∀ x, j ≤ x → x < j + r → byS k x = X (a + x) := by
  intro r
  induction r with
  | zero => intro j; exact ⟨fun _ x h1 h2 => by omega, fun _ => rfl⟩
  | succ r ih =>
    intro j
    unfold alB
    rw [Bool.and_eq_true, decide_eq_true_eq, ih]
    constructor
    · rintro ⟨h1, h2⟩ x h3 h4
      by_cases e : x = j
      · rw [e]; exact h1
      · exact h2 x (by omega) (by omega)
    · exact fun h => ⟨h j (Nat.le_refl j) (by omega), fun x h1 h2 => h x (by omega) (by omega)⟩
theorem itr_and {p : Nat → Bool} : ∀ n i b0, itr (fun k b => b && p k) n i b0 = true ↔ b0 = true ∧ ∀ x, i ≤ x → x < i + n → p x = true := by
  intro n
  induction n with
  | zero => intro i b0; exact ⟨fun h => ⟨h, fun x h1 h2 => by omega⟩, fun h => h.1⟩
  | succ n ih =>
    intro i b0
    show itr _ n (i + 1) (b0 && p i) = true ↔ _
    rw [ih, Bool.and_eq_true]
    constructor
    · rintro ⟨⟨h1, h2⟩, h3⟩
      refine ⟨h1, fun x h4 h5 => ?_⟩
      by_cases e : x = i
      · rw [e]; exact h2
      · exact h3 x (by omega) (by omega)
    · rintro ⟨h1, h2⟩
      exact ⟨⟨h1, h2 i (Nat.le_refl i) (by omega)⟩, fun x h3 h4 => h2 x (by omega) (by omega)⟩
theorem wdB_iff {X : Nat → Int32} {a e w : Nat} : wdB X a e w = true ↔ e ≤ a + 8 ∧ ∀ x, x < 8 → chA X a e x = wtab (8 * w + x) := by
  unfold wdB
  rw [itr_and, decide_eq_true_eq]
  constructor
  · rintro ⟨h1, h2⟩
    exact ⟨h1, fun x hx => of_decide_eq_true (h2 x (Nat.zero_le _) (by omega))⟩
  · rintro ⟨h1, h2⟩
    exact ⟨h1, fun x _ hx => decide_eq_true (h2 x (by omega))⟩
theorem sp_eq {X : Nat → Int32} {a e k : Nat} (hk : k < 6) (hae : a ≤ e) (hX : ∀ x, a ≤ x → x < e → ¬ X x = 0) : (decide (lnS k = e - a) && alB X a k (lnS k) 0) = wdB X a e k := by
  obtain ⟨b1, b2, b3⟩ := byS_n k hk
  rw [Bool.eq_iff_iff, wdB_iff, Bool.and_eq_true, decide_eq_true_eq, alB_iff]
  constructor
  · rintro ⟨h1, h2⟩
    refine ⟨by omega, fun x hx => ?_⟩
    unfold chA
    by_cases q : a + x < e
    · rw [if_pos q, ← h2 x (Nat.zero_le _) (by omega)]; exact (b3 x hx).1
    · rw [if_neg q]; exact ((b3 x hx).2.2.1 (by omega)).symm
  · rintro ⟨h1, h2⟩
    have hl : lnS k = e - a := by
      by_cases q : e - a < lnS k
      · have h3 := h2 (e - a) (by omega)
        unfold chA at h3
        rw [if_neg (by omega)] at h3
        exact absurd h3.symm ((b3 _ (by omega)).2.1 q)
      · by_cases q2 : lnS k < e - a
        · have h3 := h2 (lnS k) (by omega)
          unfold chA at h3
          rw [if_pos (by omega), (b3 _ (by omega)).2.2.1 (Nat.le_refl _)] at h3
          exact absurd h3 (hX _ (by omega) (by omega))
        · omega
    refine ⟨hl, fun x _ hx => ?_⟩
    have h3 := h2 x (by omega)
    unfold chA at h3
    rw [if_pos (by omega)] at h3
    rw [(b3 x (by omega)).1, h3]
section SP
variable {d : Nat} {h : Hp} {Q : Pst} {ab be : Int32} {O D : Nat → Nat → Int32} {X : Nat → Int32} {n a e : Nat} {x4 x5 x6 x7 x8 : Int32}
theorem L_spelt {k : Nat} (s : StrOk h) (hk : k < 6) (hO : O 46 = X) (hn : n ≤ 150) (hl : a + lnS k ≤ n) : ∀ r j, j + r = lnS k → (T (d + 6) 30 20 [.ref 45, .ref (1 + k), .int (nI j)] [] (hX h ab be (vq (nI n) (nI e) (nI a) x4 x5 x6 x7 x8) O D) Q ↔ Q (some (.int (zI (alB X a k r j)))) (hX h ab be (vq (nI n) (nI e) (nI a) x4 x5 x6 x7 x8) O D)) := by
  have e1 : (hX h ab be (vq (nI n) (nI e) (nI a) x4 x5 x6 x7 x8) O D).2.2 (1 + k) = oO 100 [.ref (7 + k), .int 0] := by rw [hX_out (by omega)]; exact s.s hk
  have e2 : (hX h ab be (vq (nI n) (nI e) (nI a) x4 x5 x6 x7 x8) O D).2.2 (7 + k) = .inl (2, lnS k, byS k) := by rw [hX_out (by omega)]; exact s.b hk
  have ho := isO_S e1
  obtain ⟨b1, b2, b3⟩ := byS_n k hk
  intro r
  induction r with
  | zero =>
    intro j hj
    have hj : j = lnS k := hj
    subst hj
    rw [t30_20]
    simp (disch := first | assumption | omega | decide | exact hX_o13 | exact hU_o | exact hX_o45 | exact hX_o47 | exact hX_o49 | exact hX_o54 | exact hU_o7 | exact hU_o9 | exact hU_o11 | exact hU_o13) only [t30_21, t30_22, t30_25, t30_57, t30_58, hC_13, hC_45, hC_47, hC_49, hC_54, gF_6_0, gF_6_1, gF_6_2, gF_6_3, gF_6_4, gF_6_5, gF_6_6, gF_6_7, gF_6_8, gF_6_9, hU_0, hU_7, hU_9, hU_11, hU_13, gF_5_0, gF_5_1, gF_5_2, gF_5_3, gF_5_4, gF_5_5, gF_5_6, gF_5_7, gF_5_8, gF_5_9, gF_5_10, gF_5_11, gF_5_12, gF_5_13, gF_3_0, gF_3_1, gF_3_2, gF_3_3, ln_add, nl_add, ln_mul, nl_mul, nI_add, nI_1, i32_nl, ite_not, lt_nn, lt_nl, lt_ln, eq_nn, eq_nl, eq_ln, if_true, if_false, kil_i, kil_r, kil_l, kil_u, rl_s, rl_n, Nat.zero_add, Nat.lt_irrefl, not_true_eq_false, not_false_eq_true, true_and, dp_1, dp_2, dp_3, dp_4, dp_5, dp_6, dp_7, dp_8, dp_9, dp_10, dp_11, dp_12, dp_13, dp_14, dp_15, dp_16, dp_17, dp_18, dp_19, dp_20, dp_21, dp_22, dp_23, dp_24, dp_25, dp_26, dp_27, dp_28, dp_29, dp_30, dp_31, dp_32, dp_33, dp_34, dp_35, dp_36, dp_37, dp_38, dp_39, E_strLen e1 e2, nw_b, nw_z]
    exact Iff.rfl
  | succ r ih =>
    intro j hj
    obtain ⟨-, -, -, c, hc, ec⟩ := b3 j (by omega)
    have eX : (hX h ab be (vq (nI n) (nI e) (nI a) x4 x5 x6 x7 x8) O D).2.2 46 = oI 150 X := by rw [hC_46, hO]
    have hz : alB X a k (r + 1) j = (decide (byS k j = X (a + j)) && alB X a k r (j + 1)) := rfl
    rw [hz, ec, t30_20]
    by_cases q : nI c = X (a + j)
    · simp (disch := first | assumption | omega | decide | exact hX_o13 | exact hU_o | exact hX_o45 | exact hX_o47 | exact hX_o49 | exact hX_o54 | exact hU_o7 | exact hU_o9 | exact hU_o11 | exact hU_o13) only [t30_21, t30_22, t30_25, t30_28, t30_29, t30_30, t30_33, t30_34, t30_37, t30_38, t30_41, t30_42, t30_43, t30_46, t30_51, t30_54, hC_13, hC_45, hC_47, hC_49, hC_54, gF_6_0, gF_6_1, gF_6_2, gF_6_3, gF_6_4, gF_6_5, gF_6_6, gF_6_7, gF_6_8, gF_6_9, hU_0, hU_7, hU_9, hU_11, hU_13, gF_5_0, gF_5_1, gF_5_2, gF_5_3, gF_5_4, gF_5_5, gF_5_6, gF_5_7, gF_5_8, gF_5_9, gF_5_10, gF_5_11, gF_5_12, gF_5_13, gF_3_0, gF_3_1, gF_3_2, gF_3_3, ln_add, nl_add, ln_mul, nl_mul, nI_add, nI_1, i32_nl, ite_not, lt_nn, lt_nl, lt_ln, eq_nn, eq_nl, eq_ln, if_true, if_false, kil_i, kil_r, kil_l, kil_u, rl_s, rl_n, Nat.zero_add, Nat.lt_irrefl, not_true_eq_false, not_false_eq_true, true_and, dp_1, dp_2, dp_3, dp_4, dp_5, dp_6, dp_7, dp_8, dp_9, dp_10, dp_11, dp_12, dp_13, dp_14, dp_15, dp_16, dp_17, dp_18, dp_19, dp_20, dp_21, dp_22, dp_23, dp_24, dp_25, dp_26, dp_27, dp_28, dp_29, dp_30, dp_31, dp_32, dp_33, dp_34, dp_35, dp_36, dp_37, dp_38, dp_39, E_strLen e1 e2, show j < lnS k by omega, E_charAt e1 e2 (show j < lnS k by omega) (show lnS k < 2 ^ 30 by omega) hc ec, gF_2_0, gF_2_3, vq_1, vq_2, vq_3, G_n eX (show a + j < 150 by omega) (show 150 < 2 ^ 31 by decide), q, decide_true, Bool.true_and]
      exact ih (j + 1) (by omega)
    · simp (disch := first | assumption | omega | decide | exact hX_o13 | exact hU_o | exact hX_o45 | exact hX_o47 | exact hX_o49 | exact hX_o54 | exact hU_o7 | exact hU_o9 | exact hU_o11 | exact hU_o13) only [t30_21, t30_22, t30_25, t30_28, t30_29, t30_30, t30_33, t30_34, t30_37, t30_38, t30_41, t30_42, t30_43, t30_46, t30_49, t30_50, hC_13, hC_45, hC_47, hC_49, hC_54, gF_6_0, gF_6_1, gF_6_2, gF_6_3, gF_6_4, gF_6_5, gF_6_6, gF_6_7, gF_6_8, gF_6_9, hU_0, hU_7, hU_9, hU_11, hU_13, gF_5_0, gF_5_1, gF_5_2, gF_5_3, gF_5_4, gF_5_5, gF_5_6, gF_5_7, gF_5_8, gF_5_9, gF_5_10, gF_5_11, gF_5_12, gF_5_13, gF_3_0, gF_3_1, gF_3_2, gF_3_3, ln_add, nl_add, ln_mul, nl_mul, nI_add, nI_1, i32_nl, ite_not, lt_nn, lt_nl, lt_ln, eq_nn, eq_nl, eq_ln, if_true, if_false, kil_i, kil_r, kil_l, kil_u, rl_s, rl_n, Nat.zero_add, Nat.lt_irrefl, not_true_eq_false, not_false_eq_true, true_and, dp_1, dp_2, dp_3, dp_4, dp_5, dp_6, dp_7, dp_8, dp_9, dp_10, dp_11, dp_12, dp_13, dp_14, dp_15, dp_16, dp_17, dp_18, dp_19, dp_20, dp_21, dp_22, dp_23, dp_24, dp_25, dp_26, dp_27, dp_28, dp_29, dp_30, dp_31, dp_32, dp_33, dp_34, dp_35, dp_36, dp_37, dp_38, dp_39, E_strLen e1 e2, show j < lnS k by omega, E_charAt e1 e2 (show j < lnS k by omega) (show lnS k < 2 ^ 30 by omega) hc ec, gF_2_0, gF_2_3, vq_1, vq_2, vq_3, G_n eX (show a + j < 150 by omega) (show 150 < 2 ^ 31 by decide), q, decide_false, Bool.false_and, nw_b, nw_z]
      exact Iff.rfl
theorem E_isSpelt {k : Nat} (s : StrOk h) (hk : k < 6) (hO : O 46 = X) (hn : n ≤ 150) (hae : a ≤ e) (he : e ≤ n) (hX0 : ∀ x, a ≤ x → x < e → ¬ X x = 0) : T (d + 6) 30 0 [.ref 45, .ref (1 + k), un] [] (hX h ab be (vq (nI n) (nI e) (nI a) x4 x5 x6 x7 x8) O D) Q ↔ Q (some (.int (zI (wdB X a e k)))) (hX h ab be (vq (nI n) (nI e) (nI a) x4 x5 x6 x7 x8) O D) := by
  have e1 : (hX h ab be (vq (nI n) (nI e) (nI a) x4 x5 x6 x7 x8) O D).2.2 (1 + k) = oO 100 [.ref (7 + k), .int 0] := by rw [hX_out (by omega)]; exact s.s hk
  have e2 : (hX h ab be (vq (nI n) (nI e) (nI a) x4 x5 x6 x7 x8) O D).2.2 (7 + k) = .inl (2, lnS k, byS k) := by rw [hX_out (by omega)]; exact s.b hk
  have ho := isO_S e1
  obtain ⟨b1, b2, b3⟩ := byS_n k hk
  rw [← sp_eq hk hae hX0]
  by_cases q : lnS k = e - a
  · simp (disch := first | assumption | omega | decide | exact hX_o13 | exact hU_o | exact hX_o45 | exact hX_o47 | exact hX_o49 | exact hX_o54 | exact hU_o7 | exact hU_o9 | exact hU_o11 | exact hU_o13) only [t30_0, t30_1, t30_4, t30_5, t30_8, t30_9, t30_12, t30_13, t30_16, t30_17, t30_18, t30_19, hC_13, hC_45, hC_47, hC_49, hC_54, gF_6_0, gF_6_1, gF_6_2, gF_6_3, gF_6_4, gF_6_5, gF_6_6, gF_6_7, gF_6_8, gF_6_9, hU_0, hU_7, hU_9, hU_11, hU_13, gF_5_0, gF_5_1, gF_5_2, gF_5_3, gF_5_4, gF_5_5, gF_5_6, gF_5_7, gF_5_8, gF_5_9, gF_5_10, gF_5_11, gF_5_12, gF_5_13, gF_3_0, gF_3_1, gF_3_2, gF_3_3, ln_add, nl_add, ln_mul, nl_mul, nI_add, nI_1, i32_nl, ite_not, lt_nn, lt_nl, lt_ln, eq_nn, eq_nl, eq_ln, if_true, if_false, kil_i, kil_r, kil_l, kil_u, rl_s, rl_n, Nat.zero_add, Nat.lt_irrefl, not_true_eq_false, not_false_eq_true, true_and, dp_1, dp_2, dp_3, dp_4, dp_5, dp_6, dp_7, dp_8, dp_9, dp_10, dp_11, dp_12, dp_13, dp_14, dp_15, dp_16, dp_17, dp_18, dp_19, dp_20, dp_21, dp_22, dp_23, dp_24, dp_25, dp_26, dp_27, dp_28, dp_29, dp_30, dp_31, dp_32, dp_33, dp_34, dp_35, dp_36, dp_37, dp_38, dp_39, E_strLen e1 e2, gF_2_2, gF_2_3, vq_1, vq_2, vq_3, sub_nn hae, q]
    have L := @L_spelt d h Q ab be O D X n a e x4 x5 x6 x7 x8 k s hk hO hn (by omega) (lnS k) 0 (Nat.zero_add _)
    rw [q] at L
    refine L.trans ?_
    rw [decide_true, Bool.true_and]
  · simp (disch := first | assumption | omega | decide | exact hX_o13 | exact hU_o | exact hX_o45 | exact hX_o47 | exact hX_o49 | exact hX_o54 | exact hU_o7 | exact hU_o9 | exact hU_o11 | exact hU_o13) only [t30_0, t30_1, t30_4, t30_5, t30_8, t30_9, t30_12, t30_13, t30_16, t30_17, hC_13, hC_45, hC_47, hC_49, hC_54, gF_6_0, gF_6_1, gF_6_2, gF_6_3, gF_6_4, gF_6_5, gF_6_6, gF_6_7, gF_6_8, gF_6_9, hU_0, hU_7, hU_9, hU_11, hU_13, gF_5_0, gF_5_1, gF_5_2, gF_5_3, gF_5_4, gF_5_5, gF_5_6, gF_5_7, gF_5_8, gF_5_9, gF_5_10, gF_5_11, gF_5_12, gF_5_13, gF_3_0, gF_3_1, gF_3_2, gF_3_3, ln_add, nl_add, ln_mul, nl_mul, nI_add, nI_1, i32_nl, ite_not, lt_nn, lt_nl, lt_ln, eq_nn, eq_nl, eq_ln, if_true, if_false, kil_i, kil_r, kil_l, kil_u, rl_s, rl_n, Nat.zero_add, Nat.lt_irrefl, not_true_eq_false, not_false_eq_true, true_and, dp_1, dp_2, dp_3, dp_4, dp_5, dp_6, dp_7, dp_8, dp_9, dp_10, dp_11, dp_12, dp_13, dp_14, dp_15, dp_16, dp_17, dp_18, dp_19, dp_20, dp_21, dp_22, dp_23, dp_24, dp_25, dp_26, dp_27, dp_28, dp_29, dp_30, dp_31, dp_32, dp_33, dp_34, dp_35, dp_36, dp_37, dp_38, dp_39, E_strLen e1 e2, gF_2_2, gF_2_3, vq_1, vq_2, vq_3, sub_nn hae, q, decide_false, Bool.false_and, nw_b, nw_z]
    exact Iff.rfl
end SP
