/-! the reference: evenings; refusals; who is there -/
section M4
variable {d : Nat} {R : Nat → Int32} {h : Hp} {Q : Pst}
def lk1 (R : Nat → Int32) (g b j : Nat) : Int32 :=
  let v := R (b + 6 + j) + cmo R g b j 0 + 2 * cmo R g b j 1
  if 9999 < v then 9999 else v
def psF (g b j : Nat) (R : Nat → Int32) : Nat → Int32 := upd R (b + 6 + j) (lk1 R g b j)
def psR (R : Nat → Int32) (g hh b : Nat) : Nat → Int32 :=
  let S := itr (psF g b) hh 0 R
  upd S (b + 11) (S (b + 11) + 1)
theorem E_passes {g hh b : Nat} (mo : isMO h) (hg : R 12 = nI g) (hg6 : g ≤ 6) (hh0 : R 25 = nI hh) (hh4 : hh ≤ 4) (hb : b = 0 ∨ b = 624) : T (d + 5) 159 0 [.ref 58, .int (nI b), un, un] [] (hm h R) Q ↔ Q none (hm h (psR R g hh b)) := by
  obtain ⟨ab, be, ln, pa, pb, rg, rh, dg, e1⟩ := id mo
  simp (disch := first | assumption | omega | decide) only [t159_0, t159_1, kil_i]
  have L := loop_j (P := fun i (S : Nat → Int32) (u : Value) => T (d + 5) 159 2 [.ref 58, .int (nI b), .int (nI i), u] [] (hm h S) Q) (F := psF g b) (E := fun S => Q none (hm h (upd S (b + 11) (S (b + 11) + 1)))) (I := fun _ S => S 12 = nI g ∧ S 25 = nI hh) (g := hh) ?_ ?_
  · exact L R un ⟨hg, hh0⟩
  · intro i S u hi ⟨hI1, hI2⟩
    have hF : ∀ k, k ≠ b + 6 + i → psF g b i S k = S k := fun k hk => by simp [psF, upd, hk]
    refine ⟨⟨by rw [hF _ (by omega)]; exact hI1, by rw [hF _ (by omega)]; exact hI2⟩, .int (S (b + 6 + i) + cmo S g b i 0 + 2 * cmo S g b i 1), ?_⟩
    have ho := mo.o (R := S)
    rw [t159_2]
    have c0 := @E_companyIn d g b i 0 S (hm h S)
    simp (disch := first | assumption | omega | decide) only [t159_0, t159_1, t159_3, t159_4, t159_7, t159_9, t159_10, t159_13, t159_14, t159_17, t159_18, t159_20, t159_21, t159_22, t159_23, t159_24, t159_25, t159_26, t159_27, t159_28, t159_31, t159_32, t159_33, t159_34, t159_35, t159_36, t159_37, t159_40, t159_41, t159_42, t159_43, t159_44, t159_47, t159_48, t159_50, t159_51, t159_52, t159_53, t159_54, t159_57, t159_60, t159_63, t159_66, t159_67, t159_68, t159_71, t159_74, t159_75, t159_78, t159_79, t159_81, t159_82, t159_83, t159_84, t159_85, t159_86, t159_87, hm_58, hm_59, hm_up, e1, MO, gF_7_0, gF_7_1, gF_7_2, gF_7_3, gF_7_4, gF_7_5, gF_7_6, gF_7_7, aS_n, aS_l, aL_n, aL_l, ln_add, nl_add, ln_mul, nl_mul, nI_add, nI_1, i32_nl, ite_not, lt_nn, lt_nl, lt_ln, eq_nn, eq_nl, eq_ln, if_true, if_false, kil_i, kil_r, kil_l, kil_u, rl_s, rl_n, Nat.zero_add, Nat.lt_irrefl, not_true_eq_false, not_false_eq_true, true_and, dp_1, dp_2, dp_3, dp_4, dp_5, dp_6, dp_7, dp_8, dp_9, dp_10, dp_11, dp_12, dp_13, dp_14, dp_15, dp_16, dp_17, dp_18, dp_19, dp_20, dp_21, dp_22, dp_23, dp_24, dp_25, dp_26, dp_27, dp_28, dp_29, dp_30, dp_31, dp_32, dp_33, dp_34, dp_35, dp_36, dp_37, dp_38, dp_39, hI1, hI2, hi, E_companyIn mo.mr hI1 hg6 (show b ≤ 624 by omega) (show i < 4 by omega)]
    unfold psF lk1
    simp only []
    by_cases q : 9999 < S (b + 6 + i) + cmo S g b i 0 + 2 * cmo S g b i 1 <;> simp (disch := first | assumption | omega | decide) only [q, hm_58, hm_59, hm_up, e1, MO, gF_7_0, gF_7_1, gF_7_2, gF_7_3, gF_7_4, gF_7_5, gF_7_6, gF_7_7, aS_n, aS_l, aL_n, aL_l, ln_add, nl_add, ln_mul, nl_mul, nI_add, nI_1, i32_nl, ite_not, lt_nn, lt_nl, lt_ln, eq_nn, eq_nl, eq_ln, if_true, if_false, kil_i, kil_r, kil_l, kil_u, rl_s, rl_n, Nat.zero_add, Nat.lt_irrefl, not_true_eq_false, not_false_eq_true, true_and, dp_1, dp_2, dp_3, dp_4, dp_5, dp_6, dp_7, dp_8, dp_9, dp_10, dp_11, dp_12, dp_13, dp_14, dp_15, dp_16, dp_17, dp_18, dp_19, dp_20, dp_21, dp_22, dp_23, dp_24, dp_25, dp_26, dp_27, dp_28, dp_29, dp_30, dp_31, dp_32, dp_33, dp_34, dp_35, dp_36, dp_37, dp_38, dp_39]
  · intro S u ⟨hI1, hI2⟩
    rw [t159_2]
    simp (disch := first | assumption | omega | decide) only [t159_3, t159_4, t159_7, t159_9, t159_10, t159_74, t159_75, t159_78, t159_79, t159_81, t159_82, t159_83, t159_84, t159_85, t159_86, t159_87, hm_58, hm_59, hm_up, e1, MO, gF_7_0, gF_7_1, gF_7_2, gF_7_3, gF_7_4, gF_7_5, gF_7_6, gF_7_7, aS_n, aS_l, aL_n, aL_l, ln_add, nl_add, ln_mul, nl_mul, nI_add, nI_1, i32_nl, ite_not, lt_nn, lt_nl, lt_ln, eq_nn, eq_nl, eq_ln, if_true, if_false, kil_i, kil_r, kil_l, kil_u, rl_s, rl_n, Nat.zero_add, Nat.lt_irrefl, not_true_eq_false, not_false_eq_true, true_and, dp_1, dp_2, dp_3, dp_4, dp_5, dp_6, dp_7, dp_8, dp_9, dp_10, dp_11, dp_12, dp_13, dp_14, dp_15, dp_16, dp_17, dp_18, dp_19, dp_20, dp_21, dp_22, dp_23, dp_24, dp_25, dp_26, dp_27, dp_28, dp_29, dp_30, dp_31, dp_32, dp_33, dp_34, dp_35, dp_36, dp_37, dp_38, dp_39, hI2]
def goR (g hh : Nat) : Nat → (Nat → Int32) → (Nat → Int32)
  | 0, R => R
  | n + 1, R => if R 11 < 999 then goR g hh n (psR R g hh 0) else R
theorem psF_o {g b j k : Nat} (S : Nat → Int32) (hk : k ≠ b + 6 + j) : psF g b j S k = S k := by simp [psF, upd, hk]
theorem psR_o {g hh b k : Nat} (R : Nat → Int32) (h1 : k ≠ b + 11) (h2 : k < b + 6 ∨ b + 6 + hh ≤ k) : psR R g hh b k = R k := by
  unfold psR
  simp only [upd, h1, if_false]
  have := itr_inv (F := psF g b) (I := fun _ S => S k = R k) hh 0 R rfl (fun j S _ hj e => by rw [psF_o _ (by omega)]; exact e)
  exact this
theorem E_goBy {g hh : Nat} (mo : isMO h) (hg6 : g ≤ 6) (hh4 : hh ≤ 4) : ∀ (n i : Nat) (R : Nat → Int32), i + n < 2 ^ 31 → R 12 = nI g → R 25 = nI hh → (T (d + 6) 160 2 [.ref 58, .int (nI (i + n)), .int (nI i)] [] (hm h R) Q ↔ Q none (hm h (goR g hh n R))) := by
  intro n
  induction n with
  | zero =>
    intro i R hi hg hh0
    obtain ⟨ab, be, ln, pa, pb, rg, rh, dg, e1⟩ := id mo
    rw [t160_2]
    simp (disch := first | assumption | omega | decide) only [t160_3, t160_4, t160_31, hm_58, hm_59, hm_up, e1, MO, gF_7_0, gF_7_1, gF_7_2, gF_7_3, gF_7_4, gF_7_5, gF_7_6, gF_7_7, aS_n, aS_l, aL_n, aL_l, ln_add, nl_add, ln_mul, nl_mul, nI_add, nI_1, i32_nl, ite_not, lt_nn, lt_nl, lt_ln, eq_nn, eq_nl, eq_ln, if_true, if_false, kil_i, kil_r, kil_l, kil_u, rl_s, rl_n, Nat.zero_add, Nat.lt_irrefl, not_true_eq_false, not_false_eq_true, true_and, dp_1, dp_2, dp_3, dp_4, dp_5, dp_6, dp_7, dp_8, dp_9, dp_10, dp_11, dp_12, dp_13, dp_14, dp_15, dp_16, dp_17, dp_18, dp_19, dp_20, dp_21, dp_22, dp_23, dp_24, dp_25, dp_26, dp_27, dp_28, dp_29, dp_30, dp_31, dp_32, dp_33, dp_34, dp_35, dp_36, dp_37, dp_38, dp_39, Nat.add_zero, goR]
  | succ n ih =>
    intro i R hi hg hh0
    obtain ⟨ab, be, ln, pa, pb, rg, rh, dg, e1⟩ := id mo
    have ho := mo.o (R := R)
    rw [t160_2]
    have c0 := @E_passes d R h (fun r h2 => T (d + 6) 160 25 [.ref 58, .int (nI (i + (n + 1))), .int (nI i)] (rl r []) h2 Q) g hh 0 mo hg hg6 hh0 hh4 (Or.inl rfl)
    simp (disch := first | assumption | omega | decide) only [t160_3, t160_4, t160_7, t160_8, t160_11, t160_13, t160_14, t160_17, t160_20, t160_21, t160_22, t160_31, hm_58, hm_59, hm_up, e1, MO, gF_7_0, gF_7_1, gF_7_2, gF_7_3, gF_7_4, gF_7_5, gF_7_6, gF_7_7, aS_n, aS_l, aL_n, aL_l, ln_add, nl_add, ln_mul, nl_mul, nI_add, nI_1, i32_nl, ite_not, lt_nn, lt_nl, lt_ln, eq_nn, eq_nl, eq_ln, if_true, if_false, kil_i, kil_r, kil_l, kil_u, rl_s, rl_n, Nat.zero_add, Nat.lt_irrefl, not_true_eq_false, not_false_eq_true, true_and, dp_1, dp_2, dp_3, dp_4, dp_5, dp_6, dp_7, dp_8, dp_9, dp_10, dp_11, dp_12, dp_13, dp_14, dp_15, dp_16, dp_17, dp_18, dp_19, dp_20, dp_21, dp_22, dp_23, dp_24, dp_25, dp_26, dp_27, dp_28, dp_29, dp_30, dp_31, dp_32, dp_33, dp_34, dp_35, dp_36, dp_37, dp_38, dp_39, show i < i + (n + 1) by omega, goR]
    by_cases q : R 11 < 999
    · simp only [q, if_true]
      refine c0.trans ?_
      have e : i + (n + 1) = (i + 1) + n := by omega
      simp (disch := first | assumption | omega | decide) only [t160_25, t160_28, hm_58, hm_59, hm_up, e1, MO, gF_7_0, gF_7_1, gF_7_2, gF_7_3, gF_7_4, gF_7_5, gF_7_6, gF_7_7, aS_n, aS_l, aL_n, aL_l, ln_add, nl_add, ln_mul, nl_mul, nI_add, nI_1, i32_nl, ite_not, lt_nn, lt_nl, lt_ln, eq_nn, eq_nl, eq_ln, if_true, if_false, kil_i, kil_r, kil_l, kil_u, rl_s, rl_n, Nat.zero_add, Nat.lt_irrefl, not_true_eq_false, not_false_eq_true, true_and, dp_1, dp_2, dp_3, dp_4, dp_5, dp_6, dp_7, dp_8, dp_9, dp_10, dp_11, dp_12, dp_13, dp_14, dp_15, dp_16, dp_17, dp_18, dp_19, dp_20, dp_21, dp_22, dp_23, dp_24, dp_25, dp_26, dp_27, dp_28, dp_29, dp_30, dp_31, dp_32, dp_33, dp_34, dp_35, dp_36, dp_37, dp_38, dp_39]
      rw [e]
      exact ih (i + 1) _ (by omega) (by rw [psR_o _ (by omega) (by omega)]; exact hg) (by rw [psR_o _ (by omega) (by omega)]; exact hh0)
    · simp only [q, if_false]
end M4
