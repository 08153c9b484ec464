/-! place: the class's own search -/
def oP (O : Nat → Nat → Int32) (x0 x1 m : Int32) (C W B : Nat → Int32) : Nat → Nat → Int32 := fun q => if q = 49 then fq x0 x1 m 0 else if q = 51 then C else if q = 52 then W else if q = 53 then B else O q
section OP
variable {O D : Nat → Nat → Int32} {x0 x1 m m2 : Int32} {C W B C2 W2 B2 : Nat → Int32} {h : Hp} {ab be : Int32} {V : Nat → Int32} {d : Nat} {Q : Pst}
abbrev hP (h : Hp) (ab be : Int32) (V : Nat → Int32) (O D : Nat → Nat → Int32) (x0 x1 m : Int32) (C W B : Nat → Int32) : Hp := hX h ab be V (oP O x0 x1 m C W B) D
theorem oP_49 : wA (oP O x0 x1 m C W B) 49 (fq x0 x1 m2 0) = oP O x0 x1 m2 C W B := by
  funext q; unfold wA oP
  by_cases e : q = 49
  · rw [if_pos e, if_pos e]
  · rw [if_neg e, if_neg e, if_neg e]
theorem oP_51 : wA (oP O x0 x1 m C W B) 51 C2 = oP O x0 x1 m C2 W B := by
  funext q; unfold wA oP
  by_cases e : q = 51
  · subst e; rfl
  · simp only [e, if_false]
theorem oP_52 : wA (oP O x0 x1 m C W B) 52 W2 = oP O x0 x1 m C W2 B := by
  funext q; unfold wA oP
  by_cases e : q = 52
  · subst e; rfl
  · simp only [e, if_false]
theorem oP_53 : wA (oP O x0 x1 m C W B) 53 B2 = oP O x0 x1 m C W B2 := by
  funext q; unfold wA oP
  by_cases e : q = 53
  · subst e; rfl
  · simp only [e, if_false]
theorem oP_a : oP O x0 x1 m C W B 49 0 = x0 := rfl
theorem oP_b : oP O x0 x1 m C W B 49 1 = x1 := rfl
theorem oP_c : oP O x0 x1 m C W B 49 2 = m := rfl
theorem hP_49 : (hP h ab be V O D x0 x1 m C W B).2.2 49 = oO 4 [.ref 50, .ref 51, .ref 52, .ref 53, .int x0, .int x1, .int m] := hC_49
theorem hP_50 : (hP h ab be V O D x0 x1 m C W B).2.2 50 = oI 24 (O 50) := hC_50
theorem hP_51 : (hP h ab be V O D x0 x1 m C W B).2.2 51 = oI 4 C := hC_51
theorem hP_52 : (hP h ab be V O D x0 x1 m C W B).2.2 52 = oI 6 W := hC_52
theorem hP_53 : (hP h ab be V O D x0 x1 m C W B).2.2 53 = oI 6 B := hC_53
theorem hP_u49 : hup (hP h ab be V O D x0 x1 m C W B) 49 (oO 4 [.ref 50, .ref 51, .ref 52, .ref 53, .int x0, .int x1, .int m2]) = hP h ab be V O D x0 x1 m2 C W B := by
  rw [hC_u49, oP_49]
theorem gP_50 {k : Nat} (hk : k < 24) : T d 122 0 [.ref 50, .int (nI k)] [] (hP h ab be V O D x0 x1 m C W B) Q ↔ Q (some (.int (O 50 k))) (hP h ab be V O D x0 x1 m C W B) := G_n hP_50 hk (by decide)
theorem gP_51 {k : Nat} (hk : k < 4) : T d 122 0 [.ref 51, .int (nI k)] [] (hP h ab be V O D x0 x1 m C W B) Q ↔ Q (some (.int (C k))) (hP h ab be V O D x0 x1 m C W B) := G_n hP_51 hk (by decide)
theorem pP_51 {k : Nat} {x : Int32} (hk : k < 4) : T d 123 0 [.ref 51, .int (nI k), .int x] [] (hP h ab be V O D x0 x1 m C W B) Q ↔ Q none (hP h ab be V O D x0 x1 m (upd C k x) W B) := by rw [P_n hP_51 hk (by decide), hC_u51, oP_51]
theorem pP_52 {k : Nat} {x : Int32} (hk : k < 6) : T d 123 0 [.ref 52, .int (nI k), .int x] [] (hP h ab be V O D x0 x1 m C W B) Q ↔ Q none (hP h ab be V O D x0 x1 m C (upd W k x) B) := by rw [P_n hP_52 hk (by decide), hC_u52, oP_52]
theorem E_keep {x : Int32} : T (d + 2) 48 0 [.ref 49, .int x] [] (hP h ab be V O D x0 x1 m C W B) Q ↔ Q none (if m < x then hP h ab be V O D x0 x1 x C W (cpy W B 0 0 6) else hP h ab be V O D x0 x1 m C W B) := by
  by_cases q : m < x
  · simp (disch := first | assumption | omega | decide | exact hX_o13 | exact hU_o | exact hX_o45 | exact hX_o47 | exact hX_o49 | exact hX_o54 | exact hU_o7 | exact hU_o9 | exact hU_o11 | exact hU_o13) only [t48_0, t48_1, t48_2, t48_5, t48_8, t48_9, t48_10, t48_13, t48_14, t48_17, t48_18, t48_21, t48_24, hC_13, hC_45, hC_47, hC_49, hC_54, gF_6_0, gF_6_1, gF_6_2, gF_6_3, gF_6_4, gF_6_5, gF_6_6, gF_6_7, gF_6_8, gF_6_9, hU_0, hU_7, hU_9, hU_11, hU_13, gF_5_0, gF_5_1, gF_5_2, gF_5_3, gF_5_4, gF_5_5, gF_5_6, gF_5_7, gF_5_8, gF_5_9, gF_5_10, gF_5_11, gF_5_12, gF_5_13, gF_3_0, gF_3_1, gF_3_2, gF_3_3, ln_add, nl_add, ln_mul, nl_mul, nI_add, nI_1, i32_nl, ite_not, lt_nn, lt_nl, lt_ln, eq_nn, eq_nl, eq_ln, if_true, if_false, kil_i, kil_r, kil_l, kil_u, rl_s, rl_n, Nat.zero_add, Nat.lt_irrefl, not_true_eq_false, not_false_eq_true, true_and, dp_1, dp_2, dp_3, dp_4, dp_5, dp_6, dp_7, dp_8, dp_9, dp_10, dp_11, dp_12, dp_13, dp_14, dp_15, dp_16, dp_17, dp_18, dp_19, dp_20, dp_21, dp_22, dp_23, dp_24, dp_25, dp_26, dp_27, dp_28, dp_29, dp_30, dp_31, dp_32, dp_33, dp_34, dp_35, dp_36, dp_37, dp_38, dp_39, oP_a, oP_b, oP_c, hP_49, gF_4_0, gF_4_1, gF_4_2, gF_4_3, gF_4_4, gF_4_5, gF_4_6, pF_4_6, hP_u49, C_copy hP_52 hP_53 (show 6 < 1000 by decide), q, hC_u53, oP_53]
  · simp (disch := first | assumption | omega | decide | exact hX_o13 | exact hU_o | exact hX_o45 | exact hX_o47 | exact hX_o49 | exact hX_o54 | exact hU_o7 | exact hU_o9 | exact hU_o11 | exact hU_o13) only [t48_0, t48_1, t48_2, t48_5, t48_8, t48_9, t48_10, t48_13, t48_14, t48_17, t48_18, t48_21, t48_24, hC_13, hC_45, hC_47, hC_49, hC_54, gF_6_0, gF_6_1, gF_6_2, gF_6_3, gF_6_4, gF_6_5, gF_6_6, gF_6_7, gF_6_8, gF_6_9, hU_0, hU_7, hU_9, hU_11, hU_13, gF_5_0, gF_5_1, gF_5_2, gF_5_3, gF_5_4, gF_5_5, gF_5_6, gF_5_7, gF_5_8, gF_5_9, gF_5_10, gF_5_11, gF_5_12, gF_5_13, gF_3_0, gF_3_1, gF_3_2, gF_3_3, ln_add, nl_add, ln_mul, nl_mul, nI_add, nI_1, i32_nl, ite_not, lt_nn, lt_nl, lt_ln, eq_nn, eq_nl, eq_ln, if_true, if_false, kil_i, kil_r, kil_l, kil_u, rl_s, rl_n, Nat.zero_add, Nat.lt_irrefl, not_true_eq_false, not_false_eq_true, true_and, dp_1, dp_2, dp_3, dp_4, dp_5, dp_6, dp_7, dp_8, dp_9, dp_10, dp_11, dp_12, dp_13, dp_14, dp_15, dp_16, dp_17, dp_18, dp_19, dp_20, dp_21, dp_22, dp_23, dp_24, dp_25, dp_26, dp_27, dp_28, dp_29, dp_30, dp_31, dp_32, dp_33, dp_34, dp_35, dp_36, dp_37, dp_38, dp_39, oP_a, oP_b, oP_c, hP_49, gF_4_0, gF_4_1, gF_4_2, gF_4_3, gF_4_4, gF_4_5, gF_4_6, q]
end OP
theorem cpy_6 {W B : Nat → Int32} {k : Nat} (hk : k < 6) : cpy W B 0 0 6 k = W k := by
  unfold cpy va_cpy
  simp [hk]
theorem nI_dn (x : Nat) : nI (x + 1) - 1 = nI x := by
  rw [Int32.sub_eq_add_neg]
  exact nI_m1 x
def RkP (g : Nat) (m : Int32) (B : Nat → Int32) (s : Sch) : Prop := m.toInt = s.1 ∧ (0 ≤ s.1 → ∀ k, k < g → B k = nI (s.2 k) - 1)
theorem RkP_tk {g : Nat} {m : Int32} {W B : Nat → Int32} {s : Sch} {q : Nat} {p : Nat → Nat} (h6 : g ≤ 6) (hq : q < 2 ^ 31) (hW : ∀ k, k < g → W k = nI (p k) - 1) (r : RkP g m B s) : (m < nI q → RkP g (nI q) (cpy W B 0 0 6) (tkS q p s)) ∧ (¬ m < nI q → RkP g m B (tkS q p s)) := by
  obtain ⟨r1, r2⟩ := r
  have e1 : (nI q).toInt = q := nI_toInt hq
  refine ⟨fun z => ?_, fun z => ?_⟩
  · have := i32_lt.mp z
    rw [tkS_lo (by omega)]
    exact ⟨e1, fun _ k hk => by rw [cpy_6 (by omega)]; exact hW k hk⟩
  · have : ¬ m.toInt < (nI q).toInt := fun y => z (i32_lt.mpr y)
    rw [tkS_hi (by omega)]
    exact ⟨r1, r2⟩
/-- the heap while the seats are tried -/
theorem W_settle {g hh : Nat} {R : Nat → Int32} {O D : Nat → Nat → Int32} {h : Hp} {ab be : Int32} {V : Nat → Int32} (h6 : g ≤ 6) (h4 : hh ≤ 4) (hA : ∀ i j, i < g → j < hh → O 50 (i * 4 + j) = nI (stP R i j)) : ∀ n, n ≤ g → ∀ (d : Nat) (Q : Pst) (m : Int32) (C W B : Nat → Int32) (c p : Nat → Nat) (q : Nat) (s : Sch), (∀ j, j < hh → C j = nI (c j)) → (∀ j, j < hh → c j ≤ g - n) → (∀ k, k < g - n → W k = nI (p k) - 1) → q ≤ 20 * (g - n) → RkP g m B s →
    (∀ m2 W2 B2, (∀ k, k < g - n → W2 k = W k) → RkP g m2 B2 (KSr hh (stP R) n (g - n) c q p s) → Q none (hP h ab be V O D (nI g) (nI hh) m2 C W2 B2)) →
    T (d + n + 3) 47 0 [.ref 49, .int (nI (g - n)), .int (nI q), un, un, un, un] [] (hP h ab be V O D (nI g) (nI hh) m C W B) Q := by
  intro n
  induction n with
  | zero =>
    intro _ d Q m C W B c p q s hC hc hW hq r k
    rw [Nat.sub_zero] at hW hq k ⊢
    have RK := RkP_tk (q := q) h6 (by omega) hW r
    simp (disch := first | assumption | omega | decide | exact hX_o13 | exact hU_o | exact hX_o45 | exact hX_o47 | exact hX_o49 | exact hX_o54 | exact hU_o7 | exact hU_o9 | exact hU_o11 | exact hU_o13) only [t47_0, t47_1, t47_2, t47_5, t47_8, t47_9, t47_11, t47_14, t47_15, t47_16, t47_19, hC_13, hC_45, hC_47, hC_49, hC_54, gF_6_0, gF_6_1, gF_6_2, gF_6_3, gF_6_4, gF_6_5, gF_6_6, gF_6_7, gF_6_8, gF_6_9, hU_0, hU_7, hU_9, hU_11, hU_13, gF_5_0, gF_5_1, gF_5_2, gF_5_3, gF_5_4, gF_5_5, gF_5_6, gF_5_7, gF_5_8, gF_5_9, gF_5_10, gF_5_11, gF_5_12, gF_5_13, gF_3_0, gF_3_1, gF_3_2, gF_3_3, ln_add, nl_add, ln_mul, nl_mul, nI_add, nI_1, i32_nl, ite_not, lt_nn, lt_nl, lt_ln, eq_nn, eq_nl, eq_ln, if_true, if_false, kil_i, kil_r, kil_l, kil_u, rl_s, rl_n, Nat.zero_add, Nat.lt_irrefl, not_true_eq_false, not_false_eq_true, true_and, dp_1, dp_2, dp_3, dp_4, dp_5, dp_6, dp_7, dp_8, dp_9, dp_10, dp_11, dp_12, dp_13, dp_14, dp_15, dp_16, dp_17, dp_18, dp_19, dp_20, dp_21, dp_22, dp_23, dp_24, dp_25, dp_26, dp_27, dp_28, dp_29, dp_30, dp_31, dp_32, dp_33, dp_34, dp_35, dp_36, dp_37, dp_38, dp_39, oP_a, oP_b, oP_c, hP_49, gF_4_4, E_keep]
    by_cases z : m < nI q
    · rw [if_pos z]; exact k _ _ _ (fun _ _ => rfl) (RK.1 z)
    · rw [if_neg z]; exact k _ _ _ (fun _ _ => rfl) (RK.2 z)
  | succ n ih =>
    intro hn d Q m C W B c p q s hC hc hW hq r k
    obtain ⟨i, hi⟩ : ∃ i, i = g - (n + 1) := ⟨_, rfl⟩
    have hi2 : g - n = i + 1 := by omega
    rw [← hi] at hc hW hq k ⊢
    rw [hi2] at ih
    rw [show d + (n + 1) + 3 = d + n + 3 + 1 by omega]
    have loop : ∀ r0 j, j + r0 = hh → ∀ (wel : Int32) (m : Int32) (W B : Nat → Int32) (s : Sch) (u5 u6 : Value), RkP g m B s → (∀ k, k < i → W k = nI (p k) - 1) → ((wel = 1 ∧ ∃ x, x < j ∧ 0 < stP R i x) ∨ (wel = 0 ∧ ∀ x, x < j → ¬ 0 < stP R i x)) →
        (∀ (wel m2 : Int32) (W2 B2 : Nat → Int32) (u5 u6 : Value), (∀ k, k < i → W2 k = W k) → RkP g m2 B2 (itr (fun j s => if 0 < stP R i j then KSr hh (stP R) n (i + 1) (ud c j (c j + 1)) (q + stP R i j + 2 * c j) (ud p i (j + 1)) s else s) r0 j s) → ((wel = 1 ∧ ∃ x, x < hh ∧ 0 < stP R i x) ∨ (wel = 0 ∧ ∀ x, x < hh → ¬ 0 < stP R i x)) →
          T (d + n + 3 + 1) 47 123 [.ref 49, .int (nI i), .int (nI q), .int wel, .int (nI hh), u5, u6] [] (hP h ab be V O D (nI g) (nI hh) m2 C W2 B2) Q) →
        T (d + n + 3 + 1) 47 25 [.ref 49, .int (nI i), .int (nI q), .int wel, .int (nI j), u5, u6] [] (hP h ab be V O D (nI g) (nI hh) m C W B) Q := by
      intro r0
      induction r0 with
      | zero =>
        intro j hj wel m W B s u5 u6 r hW w K
        have hj : j = hh := hj
        subst hj
        simp (disch := first | assumption | omega | decide | exact hX_o13 | exact hU_o | exact hX_o45 | exact hX_o47 | exact hX_o49 | exact hX_o54 | exact hU_o7 | exact hU_o9 | exact hU_o11 | exact hU_o13) only [t47_25, t47_27, t47_28, t47_31, hC_13, hC_45, hC_47, hC_49, hC_54, gF_6_0, gF_6_1, gF_6_2, gF_6_3, gF_6_4, gF_6_5, gF_6_6, gF_6_7, gF_6_8, gF_6_9, hU_0, hU_7, hU_9, hU_11, hU_13, gF_5_0, gF_5_1, gF_5_2, gF_5_3, gF_5_4, gF_5_5, gF_5_6, gF_5_7, gF_5_8, gF_5_9, gF_5_10, gF_5_11, gF_5_12, gF_5_13, gF_3_0, gF_3_1, gF_3_2, gF_3_3, ln_add, nl_add, ln_mul, nl_mul, nI_add, nI_1, i32_nl, ite_not, lt_nn, lt_nl, lt_ln, eq_nn, eq_nl, eq_ln, if_true, if_false, kil_i, kil_r, kil_l, kil_u, rl_s, rl_n, Nat.zero_add, Nat.lt_irrefl, not_true_eq_false, not_false_eq_true, true_and, dp_1, dp_2, dp_3, dp_4, dp_5, dp_6, dp_7, dp_8, dp_9, dp_10, dp_11, dp_12, dp_13, dp_14, dp_15, dp_16, dp_17, dp_18, dp_19, dp_20, dp_21, dp_22, dp_23, dp_24, dp_25, dp_26, dp_27, dp_28, dp_29, dp_30, dp_31, dp_32, dp_33, dp_34, dp_35, dp_36, dp_37, dp_38, dp_39, oP_a, oP_b, oP_c, hP_49, gF_4_5]
        exact K wel m W B u5 u6 (fun _ _ => rfl) r w
      | succ r0 ihr =>
        intro j hj wel m W B s u5 u6 r hW w K
        have b1 := (stP_n (R := R) (i := i) (j := j)).2
        have b2 := hc j (by omega)
        have eP := hA i j (by omega) (by omega)
        have eC := hC j (by omega)
        by_cases z : 0 < stP R i j
        · have z2 : (0 : Int32) < nI (stP R i j) := by
            have h5 : ∀ x, x ≤ 5 → 0 < x → (0 : Int32) < nI x := by decide
            exact h5 _ b1 z
          simp (disch := first | assumption | omega | decide | exact hX_o13 | exact hU_o | exact hX_o45 | exact hX_o47 | exact hX_o49 | exact hX_o54 | exact hU_o7 | exact hU_o9 | exact hU_o11 | exact hU_o13) only [t47_25, t47_27, t47_28, t47_31, t47_34, t47_35, t47_38, t47_39, t47_40, t47_41, t47_43, t47_44, t47_47, t47_49, t47_51, t47_54, t47_55, t47_58, t47_60, t47_63, t47_65, t47_66, t47_67, t47_68, t47_71, t47_72, t47_74, t47_77, t47_78, t47_81, t47_83, t47_85, t47_86, t47_87, t47_90, t47_91, t47_92, t47_93, t47_94, t47_95, t47_97, t47_98, t47_99, t47_101, t47_102, t47_103, hC_13, hC_45, hC_47, hC_49, hC_54, gF_6_0, gF_6_1, gF_6_2, gF_6_3, gF_6_4, gF_6_5, gF_6_6, gF_6_7, gF_6_8, gF_6_9, hU_0, hU_7, hU_9, hU_11, hU_13, gF_5_0, gF_5_1, gF_5_2, gF_5_3, gF_5_4, gF_5_5, gF_5_6, gF_5_7, gF_5_8, gF_5_9, gF_5_10, gF_5_11, gF_5_12, gF_5_13, gF_3_0, gF_3_1, gF_3_2, gF_3_3, ln_add, nl_add, ln_mul, nl_mul, nI_add, nI_1, i32_nl, ite_not, lt_nn, lt_nl, lt_ln, eq_nn, eq_nl, eq_ln, if_true, if_false, kil_i, kil_r, kil_l, kil_u, rl_s, rl_n, Nat.zero_add, Nat.lt_irrefl, not_true_eq_false, not_false_eq_true, true_and, dp_1, dp_2, dp_3, dp_4, dp_5, dp_6, dp_7, dp_8, dp_9, dp_10, dp_11, dp_12, dp_13, dp_14, dp_15, dp_16, dp_17, dp_18, dp_19, dp_20, dp_21, dp_22, dp_23, dp_24, dp_25, dp_26, dp_27, dp_28, dp_29, dp_30, dp_31, dp_32, dp_33, dp_34, dp_35, dp_36, dp_37, dp_38, dp_39, gF_4_0, gF_4_1, gF_4_2, gF_4_3, oP_a, oP_b, oP_c, gF_4_5, gP_50 (show i * 4 + j < 24 by omega), eP, z2, gP_51 (show j < 4 by omega), eC, pP_52 (show i < 6 by omega), pP_51 (show j < 4 by omega), show j < hh by omega]
          refine ih (by omega) d _ m _ _ B (ud c j (c j + 1)) (ud p i (j + 1)) (q + stP R i j + 2 * c j) s (fun x hx => ?_) (fun x hx => ?_) (fun x hx => ?_) (by omega) r (fun m2 W2 B2 hW2 r2 => ?_)
          · unfold ud
            by_cases e : x = j
            · rw [e, if_pos rfl]; exact upd_eq
            · rw [upd_ne e, if_neg e]; exact hC x hx
          · unfold ud
            by_cases e : x = j
            · rw [if_pos e]; omega
            · rw [if_neg e]; have := hc x hx; omega
          · by_cases e : x = i
            · rw [e, ud_s, nI_dn]; exact upd_eq
            · rw [upd_ne e, ud_o e]; exact hW x (by omega)
          · have eu : upd (upd C j (nI (c j + 1))) j (nI (c j)) = C := by
              funext x
              by_cases e : x = j
              · rw [e, upd_eq, eC]
              · rw [upd_ne e, upd_ne e]
            simp (disch := first | assumption | omega | decide | exact hX_o13 | exact hU_o | exact hX_o45 | exact hX_o47 | exact hX_o49 | exact hX_o54 | exact hU_o7 | exact hU_o9 | exact hU_o11 | exact hU_o13) only [t47_106, t47_107, t47_110, t47_112, t47_114, t47_117, t47_120, hC_13, hC_45, hC_47, hC_49, hC_54, gF_6_0, gF_6_1, gF_6_2, gF_6_3, gF_6_4, gF_6_5, gF_6_6, gF_6_7, gF_6_8, gF_6_9, hU_0, hU_7, hU_9, hU_11, hU_13, gF_5_0, gF_5_1, gF_5_2, gF_5_3, gF_5_4, gF_5_5, gF_5_6, gF_5_7, gF_5_8, gF_5_9, gF_5_10, gF_5_11, gF_5_12, gF_5_13, gF_3_0, gF_3_1, gF_3_2, gF_3_3, ln_add, nl_add, ln_mul, nl_mul, nI_add, nI_1, i32_nl, ite_not, lt_nn, lt_nl, lt_ln, eq_nn, eq_nl, eq_ln, if_true, if_false, kil_i, kil_r, kil_l, kil_u, rl_s, rl_n, Nat.zero_add, Nat.lt_irrefl, not_true_eq_false, not_false_eq_true, true_and, dp_1, dp_2, dp_3, dp_4, dp_5, dp_6, dp_7, dp_8, dp_9, dp_10, dp_11, dp_12, dp_13, dp_14, dp_15, dp_16, dp_17, dp_18, dp_19, dp_20, dp_21, dp_22, dp_23, dp_24, dp_25, dp_26, dp_27, dp_28, dp_29, dp_30, dp_31, dp_32, dp_33, dp_34, dp_35, dp_36, dp_37, dp_38, dp_39, gF_4_1, oP_a, oP_b, oP_c, pP_51 (show j < 4 by omega), eu]
            refine ihr (j + 1) (by omega) 1 m2 W2 B2 (KSr hh (stP R) n (i + 1) (ud c j (c j + 1)) (q + stP R i j + 2 * c j) (ud p i (j + 1)) s) _ _ r2 (fun x hx => ?_) (Or.inl ⟨rfl, j, by omega, z⟩) (fun wel m3 W3 B3 v5 v6 hW3 r3 w3 => ?_)
            · rw [hW2 x (by omega), upd_ne (by omega)]; exact hW x hx
            · refine K wel m3 W3 B3 v5 v6 (fun x hx => ?_) ?_ w3
              · rw [hW3 x hx, hW2 x (by omega), upd_ne (by omega)]
              · show RkP g m3 B3 (itr _ r0 (j + 1) (if 0 < stP R i j then _ else _))
                rw [if_pos z]
                exact r3
        · have z1 : stP R i j = 0 := by omega
          have z2 : ¬ (0 : Int32) < nI (stP R i j) := by rw [z1]; decide
          rw [t47_25]
          simp (disch := first | assumption | omega | decide | exact hX_o13 | exact hU_o | exact hX_o45 | exact hX_o47 | exact hX_o49 | exact hX_o54 | exact hU_o7 | exact hU_o9 | exact hU_o11 | exact hU_o13) only [t47_27, t47_28, t47_31, t47_34, t47_35, t47_38, t47_39, t47_40, t47_41, t47_43, t47_44, t47_47, t47_49, t47_51, t47_117, t47_120, hC_13, hC_45, hC_47, hC_49, hC_54, gF_6_0, gF_6_1, gF_6_2, gF_6_3, gF_6_4, gF_6_5, gF_6_6, gF_6_7, gF_6_8, gF_6_9, hU_0, hU_7, hU_9, hU_11, hU_13, gF_5_0, gF_5_1, gF_5_2, gF_5_3, gF_5_4, gF_5_5, gF_5_6, gF_5_7, gF_5_8, gF_5_9, gF_5_10, gF_5_11, gF_5_12, gF_5_13, gF_3_0, gF_3_1, gF_3_2, gF_3_3, ln_add, nl_add, ln_mul, nl_mul, nI_add, nI_1, i32_nl, ite_not, lt_nn, lt_nl, lt_ln, eq_nn, eq_nl, eq_ln, if_true, if_false, kil_i, kil_r, kil_l, kil_u, rl_s, rl_n, Nat.zero_add, Nat.lt_irrefl, not_true_eq_false, not_false_eq_true, true_and, dp_1, dp_2, dp_3, dp_4, dp_5, dp_6, dp_7, dp_8, dp_9, dp_10, dp_11, dp_12, dp_13, dp_14, dp_15, dp_16, dp_17, dp_18, dp_19, dp_20, dp_21, dp_22, dp_23, dp_24, dp_25, dp_26, dp_27, dp_28, dp_29, dp_30, dp_31, dp_32, dp_33, dp_34, dp_35, dp_36, dp_37, dp_38, dp_39, show j < hh by omega, gF_4_0, gF_4_1, gF_4_2, gF_4_3, oP_a, oP_b, oP_c, gF_4_5, gP_50 (show i * 4 + j < 24 by omega), eP, z2]
          refine ihr (j + 1) (by omega) wel m W B s _ _ r hW ?_ (fun wel m3 W3 B3 v5 v6 hW3 r3 w3 => K wel m3 W3 B3 v5 v6 hW3 ?_ w3)
          · rcases w with ⟨w1, x, w2, w3⟩ | ⟨w1, w2⟩
            · exact Or.inl ⟨w1, x, by omega, w3⟩
            · refine Or.inr ⟨w1, fun x hx => ?_⟩
              by_cases e : x = j
              · rw [e]; exact z
              · exact w2 x (by omega)
          · show RkP g m3 B3 (itr _ r0 (j + 1) (if 0 < stP R i j then _ else _))
            rw [if_neg z]
            exact r3
    have es : ∀ n0 j, j + n0 = hh → (∀ x, x < hh → ¬ 0 < stP R i x) → ∀ s0 : Sch, itr (fun j s => if 0 < stP R i j then KSr hh (stP R) n (i + 1) (ud c j (c j + 1)) (q + stP R i j + 2 * c j) (ud p i (j + 1)) s else s) n0 j s0 = s0 := fun n0 j hn w2 s0 =>
      itr_inv (I := fun _ x => x = s0) n0 j s0 rfl (fun x y _ hx hy => by rw [if_neg (w2 x (by omega)), hy])
    simp (disch := first | assumption | omega | decide | exact hX_o13 | exact hU_o | exact hX_o45 | exact hX_o47 | exact hX_o49 | exact hX_o54 | exact hU_o7 | exact hU_o9 | exact hU_o11 | exact hU_o13) only [t47_0, t47_1, t47_2, t47_5, t47_8, t47_9, t47_11, t47_14, t47_15, t47_16, t47_19, t47_20, t47_21, t47_22, t47_23, hC_13, hC_45, hC_47, hC_49, hC_54, gF_6_0, gF_6_1, gF_6_2, gF_6_3, gF_6_4, gF_6_5, gF_6_6, gF_6_7, gF_6_8, gF_6_9, hU_0, hU_7, hU_9, hU_11, hU_13, gF_5_0, gF_5_1, gF_5_2, gF_5_3, gF_5_4, gF_5_5, gF_5_6, gF_5_7, gF_5_8, gF_5_9, gF_5_10, gF_5_11, gF_5_12, gF_5_13, gF_3_0, gF_3_1, gF_3_2, gF_3_3, ln_add, nl_add, ln_mul, nl_mul, nI_add, nI_1, i32_nl, ite_not, lt_nn, lt_nl, lt_ln, eq_nn, eq_nl, eq_ln, if_true, if_false, kil_i, kil_r, kil_l, kil_u, rl_s, rl_n, Nat.zero_add, Nat.lt_irrefl, not_true_eq_false, not_false_eq_true, true_and, dp_1, dp_2, dp_3, dp_4, dp_5, dp_6, dp_7, dp_8, dp_9, dp_10, dp_11, dp_12, dp_13, dp_14, dp_15, dp_16, dp_17, dp_18, dp_19, dp_20, dp_21, dp_22, dp_23, dp_24, dp_25, dp_26, dp_27, dp_28, dp_29, dp_30, dp_31, dp_32, dp_33, dp_34, dp_35, dp_36, dp_37, dp_38, dp_39, oP_a, oP_b, oP_c, gF_4_4, show i < g by omega, show i < 6 by omega]
    refine loop hh 0 (Nat.zero_add hh) 0 m W B s _ _ r hW (Or.inr ⟨rfl, fun x hx => absurd hx (Nat.not_lt_zero _)⟩) (fun wel m2 W2 B2 u5 u6 hW2 r2 w => ?_)
    rcases w with ⟨w1, w2⟩ | ⟨w1, w2⟩
    · rw [w1]
      simp (disch := first | assumption | omega | decide | exact hX_o13 | exact hU_o | exact hX_o45 | exact hX_o47 | exact hX_o49 | exact hX_o54 | exact hU_o7 | exact hU_o9 | exact hU_o11 | exact hU_o13) only [t47_123, t47_124, t47_127, t47_128, t47_131, t47_132, t47_133, t47_136, t47_137, t47_138, t47_139, t47_140, t47_141, t47_144, hC_13, hC_45, hC_47, hC_49, hC_54, gF_6_0, gF_6_1, gF_6_2, gF_6_3, gF_6_4, gF_6_5, gF_6_6, gF_6_7, gF_6_8, gF_6_9, hU_0, hU_7, hU_9, hU_11, hU_13, gF_5_0, gF_5_1, gF_5_2, gF_5_3, gF_5_4, gF_5_5, gF_5_6, gF_5_7, gF_5_8, gF_5_9, gF_5_10, gF_5_11, gF_5_12, gF_5_13, gF_3_0, gF_3_1, gF_3_2, gF_3_3, ln_add, nl_add, ln_mul, nl_mul, nI_add, nI_1, i32_nl, ite_not, lt_nn, lt_nl, lt_ln, eq_nn, eq_nl, eq_ln, if_true, if_false, kil_i, kil_r, kil_l, kil_u, rl_s, rl_n, Nat.zero_add, Nat.lt_irrefl, not_true_eq_false, not_false_eq_true, true_and, dp_1, dp_2, dp_3, dp_4, dp_5, dp_6, dp_7, dp_8, dp_9, dp_10, dp_11, dp_12, dp_13, dp_14, dp_15, dp_16, dp_17, dp_18, dp_19, dp_20, dp_21, dp_22, dp_23, dp_24, dp_25, dp_26, dp_27, dp_28, dp_29, dp_30, dp_31, dp_32, dp_33, dp_34, dp_35, dp_36, dp_37, dp_38, dp_39, show ¬ (1 : Int32) = 0 by decide]
      refine k m2 W2 B2 hW2 ?_
      rw [KSr_s, if_pos (wlc_iff.mpr w2)]
      exact r2
    · rw [w1]
      rw [es hh 0 (Nat.zero_add hh) w2] at r2
      have wn : ¬ wlc hh (stP R) i := fun y => by
        obtain ⟨x, hx, hx2⟩ := wlc_iff.mp y
        exact w2 x hx hx2
      simp (disch := first | assumption | omega | decide | exact hX_o13 | exact hU_o | exact hX_o45 | exact hX_o47 | exact hX_o49 | exact hX_o54 | exact hU_o7 | exact hU_o9 | exact hU_o11 | exact hU_o13) only [t47_123, t47_124, t47_127, t47_128, t47_131, t47_132, t47_133, t47_136, t47_137, t47_138, t47_139, t47_140, t47_141, hC_13, hC_45, hC_47, hC_49, hC_54, gF_6_0, gF_6_1, gF_6_2, gF_6_3, gF_6_4, gF_6_5, gF_6_6, gF_6_7, gF_6_8, gF_6_9, hU_0, hU_7, hU_9, hU_11, hU_13, gF_5_0, gF_5_1, gF_5_2, gF_5_3, gF_5_4, gF_5_5, gF_5_6, gF_5_7, gF_5_8, gF_5_9, gF_5_10, gF_5_11, gF_5_12, gF_5_13, gF_3_0, gF_3_1, gF_3_2, gF_3_3, ln_add, nl_add, ln_mul, nl_mul, nI_add, nI_1, i32_nl, ite_not, lt_nn, lt_nl, lt_ln, eq_nn, eq_nl, eq_ln, if_true, if_false, kil_i, kil_r, kil_l, kil_u, rl_s, rl_n, Nat.zero_add, Nat.lt_irrefl, not_true_eq_false, not_false_eq_true, true_and, dp_1, dp_2, dp_3, dp_4, dp_5, dp_6, dp_7, dp_8, dp_9, dp_10, dp_11, dp_12, dp_13, dp_14, dp_15, dp_16, dp_17, dp_18, dp_19, dp_20, dp_21, dp_22, dp_23, dp_24, dp_25, dp_26, dp_27, dp_28, dp_29, dp_30, dp_31, dp_32, dp_33, dp_34, dp_35, dp_36, dp_37, dp_38, dp_39, gF_4_2, pP_52 (show i < 6 by omega)]
      refine ih (by omega) d _ m2 C _ B2 c (ud p i 0) q s hC (fun x hx => by have := hc x hx; omega) (fun x hx => ?_) (by omega) r2 (fun m3 W3 B3 hW3 r3 => ?_)
      · by_cases e : x = i
        · rw [e, ud_s]; exact upd_eq
        · rw [upd_ne e, ud_o e, hW2 x (by omega)]; exact hW x (by omega)
      · simp (disch := first | assumption | omega | decide | exact hX_o13 | exact hU_o | exact hX_o45 | exact hX_o47 | exact hX_o49 | exact hX_o54 | exact hU_o7 | exact hU_o9 | exact hU_o11 | exact hU_o13) only [t47_144, hC_13, hC_45, hC_47, hC_49, hC_54, gF_6_0, gF_6_1, gF_6_2, gF_6_3, gF_6_4, gF_6_5, gF_6_6, gF_6_7, gF_6_8, gF_6_9, hU_0, hU_7, hU_9, hU_11, hU_13, gF_5_0, gF_5_1, gF_5_2, gF_5_3, gF_5_4, gF_5_5, gF_5_6, gF_5_7, gF_5_8, gF_5_9, gF_5_10, gF_5_11, gF_5_12, gF_5_13, gF_3_0, gF_3_1, gF_3_2, gF_3_3, ln_add, nl_add, ln_mul, nl_mul, nI_add, nI_1, i32_nl, ite_not, lt_nn, lt_nl, lt_ln, eq_nn, eq_nl, eq_ln, if_true, if_false, kil_i, kil_r, kil_l, kil_u, rl_s, rl_n, Nat.zero_add, Nat.lt_irrefl, not_true_eq_false, not_false_eq_true, true_and, dp_1, dp_2, dp_3, dp_4, dp_5, dp_6, dp_7, dp_8, dp_9, dp_10, dp_11, dp_12, dp_13, dp_14, dp_15, dp_16, dp_17, dp_18, dp_19, dp_20, dp_21, dp_22, dp_23, dp_24, dp_25, dp_26, dp_27, dp_28, dp_29, dp_30, dp_31, dp_32, dp_33, dp_34, dp_35, dp_36, dp_37, dp_38, dp_39]
        refine k m3 W3 B3 (fun x hx => ?_) ?_
        · rw [hW3 x (by omega), upd_ne (by omega)]; exact hW2 x hx
        · rw [KSr_s, if_neg wn]; exact r3
