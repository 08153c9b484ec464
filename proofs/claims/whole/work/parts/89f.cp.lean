/-! the class's public calls: rivals -/
def rvR (b : Nat → Bool) (k : Int32) : Nat → Nat → Nat → Int32
  | 0, _, f => if k = -1 then nI f else -5
  | r + 1, t, f => if b t = true then (if nI f = k then nI (10 * (1 + t / 9) + (1 + t % 9)) else rvR b k r (t + 1) (f + 1)) else rvR b k r (t + 1) f
def rvX (t : Nat) : Nat := 10 * (t / 9) + t % 9
section RV
variable {A B : Nat → Int32} {k : Int32}
theorem rv_step {t : Nat} (ht : t < 81) (s : Int32 × Int32) : rvF A B k (rvX t) s = if rsB A B (1 + t / 9) (1 + t % 9) = true then (s.1 + 1, if s.1 = k then nI (10 * (1 + t / 9) + (1 + t % 9)) else s.2) else s := by
  have e1 : (11 + rvX t) / 10 = 1 + t / 9 := by unfold rvX; omega
  have e2 : (11 + rvX t) % 10 = 1 + t % 9 := by unfold rvX; omega
  have e3 : 11 + rvX t = 10 * (1 + t / 9) + (1 + t % 9) := by unfold rvX; omega
  unfold rvF
  rw [e1, e2]
  by_cases q : rsB A B (1 + t / 9) (1 + t % 9) = true
  · rw [if_pos ⟨by omega, q⟩, if_pos q, e3]
  · rw [if_neg (fun z => q z.2), if_neg q]
theorem rv_gap {t : Nat} (ht : t < 81) (s : Int32 × Int32) : itr (rvF A B k) (89 - (rvX t + 1)) (rvX t + 1) s = itr (rvF A B k) (89 - rvX (t + 1)) (rvX (t + 1)) s := by
  by_cases q : t % 9 < 8
  · have e : rvX (t + 1) = rvX t + 1 := by unfold rvX; omega
    rw [e]
  · by_cases q2 : t = 80
    · subst q2; rfl
    · have e : rvX (t + 1) = rvX t + 1 + 1 := by unfold rvX; omega
      have hx : rvX t + 1 < 89 := by unfold rvX; omega
      rw [e, show 89 - (rvX t + 1) = (89 - (rvX t + 1 + 1)) + 1 by omega]
      have eg : rvF A B k (rvX t + 1) s = s := by
        unfold rvF
        rw [if_neg (fun z => by
          have := z.1
          have : (11 + (rvX t + 1)) % 10 = 0 := by unfold rvX; omega
          omega)]
      show itr (rvF A B k) (89 - (rvX t + 1 + 1)) (rvX t + 1 + 1) (rvF A B k (rvX t + 1) s) = _
      rw [eg]
theorem rv_un {t : Nat} (ht : t < 81) (s : Int32 × Int32) : itr (rvF A B k) (89 - rvX t) (rvX t) s = itr (rvF A B k) (89 - rvX (t + 1)) (rvX (t + 1)) (rvF A B k (rvX t) s) := by
  have hx : rvX t < 89 := by unfold rvX; omega
  rw [show 89 - rvX t = (89 - (rvX t + 1)) + 1 by omega]
  show itr (rvF A B k) (89 - (rvX t + 1)) (rvX t + 1) (rvF A B k (rvX t) s) = _
  exact rv_gap ht _
theorem rv_all (hk : k = -1) : ∀ r t f told, t + r = 81 → f ≤ t → (itr (rvF A B k) (89 - rvX t) (rvX t) (nI f, told)).1 = rvR (fun t => rsB A B (1 + t / 9) (1 + t % 9)) k r t f := by
  intro r
  induction r with
  | zero =>
    intro t f told ht hf
    have : t = 81 := by omega
    subst this
    show nI f = (if k = -1 then nI f else -5)
    rw [if_pos hk]
  | succ r ih =>
    intro t f told ht hf
    rw [rv_un (by omega), rv_step (by omega)]
    unfold rvR
    simp only []
    by_cases q : rsB A B (1 + t / 9) (1 + t % 9) = true
    · rw [if_pos q, if_pos q, if_neg (fun z => nm1 (by omega) (z.trans hk)), if_neg (fun z => nm1 (by omega) (z.trans hk)), nI_1]
      exact ih (t + 1) (f + 1) told (by omega) (by omega)
    · rw [if_neg q, if_neg q]
      exact ih (t + 1) f told (by omega) (by omega)
theorem rv_past {kk : Nat} (hk : k = nI kk) (hkk : kk < 2 ^ 31) : ∀ r t f told, t + r = 81 → f ≤ t → kk < f → (itr (rvF A B k) (89 - rvX t) (rvX t) (nI f, told)).2 = told := by
  intro r
  induction r with
  | zero =>
    intro t f told ht hf _
    have : t = 81 := by omega
    subst this
    rfl
  | succ r ih =>
    intro t f told ht hf hlt
    rw [rv_un (by omega), rv_step (by omega)]
    by_cases q : rsB A B (1 + t / 9) (1 + t % 9) = true
    · rw [if_pos q, if_neg (fun z => by
        have z2 : nI f = nI kk := z.trans hk
        have := (nI_eq (by omega) hkk).mp z2
        omega), nI_1]
      exact ih (t + 1) (f + 1) told (by omega) (by omega) (by omega)
    · rw [if_neg q]
      exact ih (t + 1) f told (by omega) (by omega) hlt
theorem rv_kth {kk : Nat} (hk : k = nI kk) (hkk : kk < 2 ^ 31) (hm : ¬ k = -1) : ∀ r t f, t + r = 81 → f ≤ t → f ≤ kk → (itr (rvF A B k) (89 - rvX t) (rvX t) (nI f, -5)).2 = rvR (fun t => rsB A B (1 + t / 9) (1 + t % 9)) k r t f := by
  intro r
  induction r with
  | zero =>
    intro t f ht hf _
    have : t = 81 := by omega
    subst this
    show (-5 : Int32) = (if k = -1 then nI f else -5)
    rw [if_neg hm]
  | succ r ih =>
    intro t f ht hf hle
    rw [rv_un (by omega), rv_step (by omega)]
    unfold rvR
    simp only []
    by_cases q : rsB A B (1 + t / 9) (1 + t % 9) = true
    · rw [if_pos q, if_pos q]
      by_cases q2 : nI f = k
      · rw [if_pos q2, if_pos q2, nI_1]
        have hfk : f = kk := (nI_eq (by omega) hkk).mp (q2.trans hk)
        exact rv_past hk hkk r (t + 1) (f + 1) _ (by omega) (by omega) (by omega)
      · rw [if_neg q2, if_neg q2, nI_1]
        have hfk : f ≠ kk := fun z => q2 (by rw [z, hk])
        exact ih (t + 1) (f + 1) (by omega) (by omega) (by omega)
    · rw [if_neg q, if_neg q]
      exact ih (t + 1) f (by omega) (by omega) hle
theorem rv_congr {b b2 : Nat → Bool} (e : ∀ t, t < 81 → b t = b2 t) : ∀ r t f, t + r = 81 → rvR b k r t f = rvR b2 k r t f := by
  intro r
  induction r with
  | zero => intro t f _; rfl
  | succ r ih =>
    intro t f ht
    unfold rvR
    rw [e t (by omega), ih (t + 1) (f + 1) (by omega), ih (t + 1) f (by omega)]
theorem rv_eq (hk : ¬ k < -1) : rvV A B k = rvR (fun t => rsB A B (1 + t / 9) (1 + t % 9)) k 81 0 0 := by
  unfold rvV
  by_cases q : k = -1
  · rw [if_pos q]
    exact rv_all q 81 0 0 (-5) rfl (by omega)
  · rw [if_neg q]
    have h0 : ¬ k < 0 := by
      intro z
      rw [i32_lt] at z hk
      rw [show (-1 : Int32).toInt = -1 from rfl] at hk
      rw [i32_0] at z
      refine q (i32_eq.mpr ?_)
      rw [show (-1 : Int32).toInt = -1 from rfl]
      omega
    obtain ⟨kk, h1, h2⟩ := nI_of h0
    exact rv_kth h2 h1 q 81 0 0 rfl (by omega) (by omega)
end RV
section W5
variable {d : Nat} {h : Hp} {Q : Pst} {ab be : Int32} {V : Nat → Int32} {O D : Nat → Nat → Int32} {R : Nat → Int32} {g hh sn nn mn un0 : Nat}
theorem W_gets {h : Hp} {x y : Int32} : T d 4 0 [.int x, .int y] [] h Q ↔ Q (some (.int (gts x y))) h := by
  unfold gts
  by_cases q : y < x <;> simp only [t4_0, t4_1, t4_2, t4_5, t4_6, t4_7, t4_8, t4_11, t4_12, q, if_true, if_false, Int32.reduceSub]
theorem W_rests {m n : Nat} (hm : m < 10) (hn : n < 10) : T (d + 1) 3 0 [.ref 54, .int (nI m), .int (nI n), un, un, un, un] [] (hX h ab be V O D) Q ↔ Q (some (.int (zI (rsB (O 55) (O 56) m n)))) (hX h ab be V O D) := by
  have g55 : ∀ {d : Nat} {Q : Pst} (x : Nat), x < 10 → (T d 122 0 [.ref 55, .int (nI x)] [] (hX h ab be V O D) Q ↔ Q (some (.int (O 55 x))) (hX h ab be V O D)) := fun x hx => G_n hC_55 hx (by decide)
  have g56 : ∀ {d : Nat} {Q : Pst} (x : Nat), x < 10 → (T d 122 0 [.ref 56, .int (nI x)] [] (hX h ab be V O D) Q ↔ Q (some (.int (O 56 x))) (hX h ab be V O D)) := fun x hx => G_n hC_56 hx (by decide)
  show _ ↔ Q (some (.int (zI (itr (fun k b => b && rsC (O 55) (O 56) m n (1 + k)) 9 0 true)))) (hX h ab be V O D)
  have ec := all_fnd (p := fun k => rsC (O 55) (O 56) m n (1 + k)) 9 0
  rw [ec]
  simp (disch := first | assumption | omega | decide | exact hX_o13 | exact hU_o | exact hX_o45 | exact hX_o47 | exact hX_o49 | exact hX_o54 | exact hU_o7 | exact hU_o9 | exact hU_o11 | exact hU_o13) only [t3_0, t3_1, t3_4, t3_5, t3_8, t3_9, t3_10, t3_13, t3_14, t3_17, t3_19, t3_20, hC_13, hC_45, hC_47, hC_49, hC_54, gF_6_0, gF_6_1, gF_6_2, gF_6_3, gF_6_4, gF_6_5, gF_6_6, gF_6_7, gF_6_8, gF_6_9, hU_0, hU_7, hU_9, hU_11, hU_13, gF_5_0, gF_5_1, gF_5_2, gF_5_3, gF_5_4, gF_5_5, gF_5_6, gF_5_7, gF_5_8, gF_5_9, gF_5_10, gF_5_11, gF_5_12, gF_5_13, gF_3_0, gF_3_1, gF_3_2, gF_3_3, ln_add, nl_add, ln_mul, nl_mul, nI_add, nI_1, i32_nl, ite_not, lt_nn, lt_nl, lt_ln, eq_nn, eq_nl, eq_ln, if_true, if_false, kil_i, kil_r, kil_l, kil_u, rl_s, rl_n, Nat.zero_add, Nat.lt_irrefl, not_true_eq_false, not_false_eq_true, true_and, dp_1, dp_2, dp_3, dp_4, dp_5, dp_6, dp_7, dp_8, dp_9, dp_10, dp_11, dp_12, dp_13, dp_14, dp_15, dp_16, dp_17, dp_18, dp_19, dp_20, dp_21, dp_22, dp_23, dp_24, dp_25, dp_26, dp_27, dp_28, dp_29, dp_30, dp_31, dp_32, dp_33, dp_34, dp_35, dp_36, dp_37, dp_38, dp_39, gF_0_0, gF_0_1, g55 m hm, g56 n hn]
  have L := loop_f (P := fun k (_ : Unit) (u : Value) => T (d + 1) 3 22 [.ref 54, .int (nI m), .int (nI n), .int (O 55 m), .int (O 56 n), .int (nI (1 + k)), u] [] (hX h ab be V O D) Q) (c := fun k _ => !rsC (O 55) (O 56) m n (1 + k)) (F := fun _ s => s) (I := fun _ _ => True) (E := fun o _ => Q (some (.int (zI o.isNone))) (hX h ab be V O D)) (g := 9) ?_ ?_ ?_
  · exact L () un trivial
  · intro k _ u hk _ hc
    have hc2 : rsC (O 55) (O 56) m n (1 + k) = false := by cases q : rsC (O 55) (O 56) m n (1 + k) <;> simp [q] at hc ⊢
    unfold rsC at hc2
    rw [t3_22]
    by_cases q1 : gts (O 55 m) (O 56 n) < gts (O 55 (1 + k)) (O 56 n)
    · simp (disch := first | assumption | omega | decide | exact hX_o13 | exact hU_o | exact hX_o45 | exact hX_o47 | exact hX_o49 | exact hX_o54 | exact hU_o7 | exact hU_o9 | exact hU_o11 | exact hU_o13) only [t3_24, t3_26, t3_29, t3_30, t3_33, t3_35, t3_38, t3_40, t3_43, t3_44, t3_46, t3_49, t3_52, t3_53, t3_56, t3_57, t3_59, t3_61, t3_64, t3_65, t3_68, t3_70, t3_73, t3_74, t3_77, t3_79, t3_80, t3_83, t3_86, t3_87, hC_13, hC_45, hC_47, hC_49, hC_54, gF_6_0, gF_6_1, gF_6_2, gF_6_3, gF_6_4, gF_6_5, gF_6_6, gF_6_7, gF_6_8, gF_6_9, hU_0, hU_7, hU_9, hU_11, hU_13, gF_5_0, gF_5_1, gF_5_2, gF_5_3, gF_5_4, gF_5_5, gF_5_6, gF_5_7, gF_5_8, gF_5_9, gF_5_10, gF_5_11, gF_5_12, gF_5_13, gF_3_0, gF_3_1, gF_3_2, gF_3_3, ln_add, nl_add, ln_mul, nl_mul, nI_add, nI_1, i32_nl, ite_not, lt_nn, lt_nl, lt_ln, eq_nn, eq_nl, eq_ln, if_true, if_false, kil_i, kil_r, kil_l, kil_u, rl_s, rl_n, Nat.zero_add, Nat.lt_irrefl, not_true_eq_false, not_false_eq_true, true_and, dp_1, dp_2, dp_3, dp_4, dp_5, dp_6, dp_7, dp_8, dp_9, dp_10, dp_11, dp_12, dp_13, dp_14, dp_15, dp_16, dp_17, dp_18, dp_19, dp_20, dp_21, dp_22, dp_23, dp_24, dp_25, dp_26, dp_27, dp_28, dp_29, dp_30, dp_31, dp_32, dp_33, dp_34, dp_35, dp_36, dp_37, dp_38, dp_39, show ¬ 9 < 1 + k by omega, gF_0_0, gF_0_1, g55 (1 + k) (by omega), g56 (1 + k) (by omega), W_gets, q1, z10, nar_0, zF, Option.isNone]
    · have q2 : gts (O 56 n) (O 55 m) < gts (O 56 (1 + k)) (O 55 m) := by
        rw [decide_eq_true (i32_nl.mpr q1), Bool.true_and, decide_eq_false_iff_not, i32_nl, Classical.not_not] at hc2
        exact hc2
      simp (disch := first | assumption | omega | decide | exact hX_o13 | exact hU_o | exact hX_o45 | exact hX_o47 | exact hX_o49 | exact hX_o54 | exact hU_o7 | exact hU_o9 | exact hU_o11 | exact hU_o13) only [t3_24, t3_26, t3_29, t3_30, t3_33, t3_35, t3_38, t3_40, t3_43, t3_44, t3_46, t3_49, t3_52, t3_53, t3_56, t3_57, t3_59, t3_61, t3_64, t3_65, t3_68, t3_70, t3_73, t3_74, t3_77, t3_79, t3_80, t3_83, t3_86, t3_87, hC_13, hC_45, hC_47, hC_49, hC_54, gF_6_0, gF_6_1, gF_6_2, gF_6_3, gF_6_4, gF_6_5, gF_6_6, gF_6_7, gF_6_8, gF_6_9, hU_0, hU_7, hU_9, hU_11, hU_13, gF_5_0, gF_5_1, gF_5_2, gF_5_3, gF_5_4, gF_5_5, gF_5_6, gF_5_7, gF_5_8, gF_5_9, gF_5_10, gF_5_11, gF_5_12, gF_5_13, gF_3_0, gF_3_1, gF_3_2, gF_3_3, ln_add, nl_add, ln_mul, nl_mul, nI_add, nI_1, i32_nl, ite_not, lt_nn, lt_nl, lt_ln, eq_nn, eq_nl, eq_ln, if_true, if_false, kil_i, kil_r, kil_l, kil_u, rl_s, rl_n, Nat.zero_add, Nat.lt_irrefl, not_true_eq_false, not_false_eq_true, true_and, dp_1, dp_2, dp_3, dp_4, dp_5, dp_6, dp_7, dp_8, dp_9, dp_10, dp_11, dp_12, dp_13, dp_14, dp_15, dp_16, dp_17, dp_18, dp_19, dp_20, dp_21, dp_22, dp_23, dp_24, dp_25, dp_26, dp_27, dp_28, dp_29, dp_30, dp_31, dp_32, dp_33, dp_34, dp_35, dp_36, dp_37, dp_38, dp_39, show ¬ 9 < 1 + k by omega, gF_0_0, gF_0_1, g55 (1 + k) (by omega), g56 (1 + k) (by omega), W_gets, q1, q2, z10, nar_0, zF, Option.isNone]
  · intro k _ u hk _ hc
    refine ⟨trivial, .int 0, ?_⟩
    have hc2 : rsC (O 55) (O 56) m n (1 + k) = true := by cases q : rsC (O 55) (O 56) m n (1 + k) <;> simp [q] at hc ⊢
    unfold rsC at hc2
    rw [Bool.and_eq_true, decide_eq_true_iff, decide_eq_true_iff, i32_nl, i32_nl] at hc2
    rw [t3_22, show 1 + (k + 1) = 1 + k + 1 by omega]
    simp (disch := first | assumption | omega | decide | exact hX_o13 | exact hU_o | exact hX_o45 | exact hX_o47 | exact hX_o49 | exact hX_o54 | exact hU_o7 | exact hU_o9 | exact hU_o11 | exact hU_o13) only [t3_24, t3_26, t3_29, t3_30, t3_33, t3_35, t3_38, t3_40, t3_43, t3_44, t3_46, t3_49, t3_52, t3_53, t3_56, t3_57, t3_59, t3_61, t3_64, t3_65, t3_68, t3_70, t3_73, t3_74, t3_77, t3_79, t3_80, t3_83, t3_86, t3_87, t3_88, t3_91, hC_13, hC_45, hC_47, hC_49, hC_54, gF_6_0, gF_6_1, gF_6_2, gF_6_3, gF_6_4, gF_6_5, gF_6_6, gF_6_7, gF_6_8, gF_6_9, hU_0, hU_7, hU_9, hU_11, hU_13, gF_5_0, gF_5_1, gF_5_2, gF_5_3, gF_5_4, gF_5_5, gF_5_6, gF_5_7, gF_5_8, gF_5_9, gF_5_10, gF_5_11, gF_5_12, gF_5_13, gF_3_0, gF_3_1, gF_3_2, gF_3_3, ln_add, nl_add, ln_mul, nl_mul, nI_add, nI_1, i32_nl, ite_not, lt_nn, lt_nl, lt_ln, eq_nn, eq_nl, eq_ln, if_true, if_false, kil_i, kil_r, kil_l, kil_u, rl_s, rl_n, Nat.zero_add, Nat.lt_irrefl, not_true_eq_false, not_false_eq_true, true_and, dp_1, dp_2, dp_3, dp_4, dp_5, dp_6, dp_7, dp_8, dp_9, dp_10, dp_11, dp_12, dp_13, dp_14, dp_15, dp_16, dp_17, dp_18, dp_19, dp_20, dp_21, dp_22, dp_23, dp_24, dp_25, dp_26, dp_27, dp_28, dp_29, dp_30, dp_31, dp_32, dp_33, dp_34, dp_35, dp_36, dp_37, dp_38, dp_39, show ¬ 9 < 1 + k by omega, gF_0_0, gF_0_1, g55 (1 + k) (by omega), g56 (1 + k) (by omega), W_gets, hc2.1, hc2.2, z10]
  · intro _ u _
    rw [t3_22]
    simp (disch := first | assumption | omega | decide | exact hX_o13 | exact hU_o | exact hX_o45 | exact hX_o47 | exact hX_o49 | exact hX_o54 | exact hU_o7 | exact hU_o9 | exact hU_o11 | exact hU_o13) only [t3_24, t3_26, t3_94, t3_95, hC_13, hC_45, hC_47, hC_49, hC_54, gF_6_0, gF_6_1, gF_6_2, gF_6_3, gF_6_4, gF_6_5, gF_6_6, gF_6_7, gF_6_8, gF_6_9, hU_0, hU_7, hU_9, hU_11, hU_13, gF_5_0, gF_5_1, gF_5_2, gF_5_3, gF_5_4, gF_5_5, gF_5_6, gF_5_7, gF_5_8, gF_5_9, gF_5_10, gF_5_11, gF_5_12, gF_5_13, gF_3_0, gF_3_1, gF_3_2, gF_3_3, ln_add, nl_add, ln_mul, nl_mul, nI_add, nI_1, i32_nl, ite_not, lt_nn, lt_nl, lt_ln, eq_nn, eq_nl, eq_ln, if_true, if_false, kil_i, kil_r, kil_l, kil_u, rl_s, rl_n, Nat.zero_add, Nat.lt_irrefl, not_true_eq_false, not_false_eq_true, true_and, dp_1, dp_2, dp_3, dp_4, dp_5, dp_6, dp_7, dp_8, dp_9, dp_10, dp_11, dp_12, dp_13, dp_14, dp_15, dp_16, dp_17, dp_18, dp_19, dp_20, dp_21, dp_22, dp_23, dp_24, dp_25, dp_26, dp_27, dp_28, dp_29, dp_30, dp_31, dp_32, dp_33, dp_34, dp_35, dp_36, dp_37, dp_38, dp_39, show 9 < 1 + 9 by decide, nar_1, zT, Option.isNone]
theorem W_restingPair {k : Int32} : T (d + 2) 2 0 [.ref 54, .int k, un, un, un] [] (hX h ab be V O D) Q ↔ Q (some (.int (rvR (fun t => rsB (O 55) (O 56) (1 + t / 9) (1 + t % 9)) k 81 0 0))) (hX h ab be V O D) := by
  have fin : ∀ f u, (T (d + 2) 2 58 [.ref 54, .int k, .int (nI f), .int (nI 10), u] [] (hX h ab be V O D) Q ↔ Q (some (.int (if k = -1 then nI f else -5))) (hX h ab be V O D)) := fun f u => by
    by_cases q : k = -1 <;> simp (disch := first | assumption | omega | decide | exact hX_o13 | exact hU_o | exact hX_o45 | exact hX_o47 | exact hX_o49 | exact hX_o54 | exact hU_o7 | exact hU_o9 | exact hU_o11 | exact hU_o13) only [t2_58, t2_59, t2_60, t2_63, t2_64, t2_67, t2_69, hC_13, hC_45, hC_47, hC_49, hC_54, gF_6_0, gF_6_1, gF_6_2, gF_6_3, gF_6_4, gF_6_5, gF_6_6, gF_6_7, gF_6_8, gF_6_9, hU_0, hU_7, hU_9, hU_11, hU_13, gF_5_0, gF_5_1, gF_5_2, gF_5_3, gF_5_4, gF_5_5, gF_5_6, gF_5_7, gF_5_8, gF_5_9, gF_5_10, gF_5_11, gF_5_12, gF_5_13, gF_3_0, gF_3_1, gF_3_2, gF_3_3, ln_add, nl_add, ln_mul, nl_mul, nI_add, nI_1, i32_nl, ite_not, lt_nn, lt_nl, lt_ln, eq_nn, eq_nl, eq_ln, if_true, if_false, kil_i, kil_r, kil_l, kil_u, rl_s, rl_n, Nat.zero_add, Nat.lt_irrefl, not_true_eq_false, not_false_eq_true, true_and, dp_1, dp_2, dp_3, dp_4, dp_5, dp_6, dp_7, dp_8, dp_9, dp_10, dp_11, dp_12, dp_13, dp_14, dp_15, dp_16, dp_17, dp_18, dp_19, dp_20, dp_21, dp_22, dp_23, dp_24, dp_25, dp_26, dp_27, dp_28, dp_29, dp_30, dp_31, dp_32, dp_33, dp_34, dp_35, dp_36, dp_37, dp_38, dp_39, q]
  have key : ∀ r t f, t + r = 81 → t < 81 → f ≤ t → (T (d + 2) 2 13 [.ref 54, .int k, .int (nI f), .int (nI (1 + t / 9)), .int (nI (1 + t % 9))] [] (hX h ab be V O D) Q ↔ Q (some (.int (rvR (fun t => rsB (O 55) (O 56) (1 + t / 9) (1 + t % 9)) k r t f))) (hX h ab be V O D)) := by
    intro r
    induction r with
    | zero => intro t f h1 h2 h3; omega
    | succ r ih =>
      intro t f h1 h2 h3
      have nxt : ∀ f2, f2 ≤ t + 1 → (T (d + 2) 2 46 [.ref 54, .int k, .int (nI f2), .int (nI (1 + t / 9)), .int (nI (1 + t % 9))] [] (hX h ab be V O D) Q ↔ Q (some (.int (rvR (fun t => rsB (O 55) (O 56) (1 + t / 9) (1 + t % 9)) k r (t + 1) f2))) (hX h ab be V O D)) := by
        intro f2 hf2
        by_cases q : t % 9 < 8
        · simp (disch := first | assumption | omega | decide | exact hX_o13 | exact hU_o | exact hX_o45 | exact hX_o47 | exact hX_o49 | exact hX_o54 | exact hU_o7 | exact hU_o9 | exact hU_o11 | exact hU_o13) only [t2_46, t2_49, hC_13, hC_45, hC_47, hC_49, hC_54, gF_6_0, gF_6_1, gF_6_2, gF_6_3, gF_6_4, gF_6_5, gF_6_6, gF_6_7, gF_6_8, gF_6_9, hU_0, hU_7, hU_9, hU_11, hU_13, gF_5_0, gF_5_1, gF_5_2, gF_5_3, gF_5_4, gF_5_5, gF_5_6, gF_5_7, gF_5_8, gF_5_9, gF_5_10, gF_5_11, gF_5_12, gF_5_13, gF_3_0, gF_3_1, gF_3_2, gF_3_3, ln_add, nl_add, ln_mul, nl_mul, nI_add, nI_1, i32_nl, ite_not, lt_nn, lt_nl, lt_ln, eq_nn, eq_nl, eq_ln, if_true, if_false, kil_i, kil_r, kil_l, kil_u, rl_s, rl_n, Nat.zero_add, Nat.lt_irrefl, not_true_eq_false, not_false_eq_true, true_and, dp_1, dp_2, dp_3, dp_4, dp_5, dp_6, dp_7, dp_8, dp_9, dp_10, dp_11, dp_12, dp_13, dp_14, dp_15, dp_16, dp_17, dp_18, dp_19, dp_20, dp_21, dp_22, dp_23, dp_24, dp_25, dp_26, dp_27, dp_28, dp_29, dp_30, dp_31, dp_32, dp_33, dp_34, dp_35, dp_36, dp_37, dp_38, dp_39]
          have e1 : (t + 1) / 9 = t / 9 := by omega
          have e2 : (t + 1) % 9 = t % 9 + 1 := by omega
          have := ih (t + 1) f2 (by omega) (by omega) hf2
          rw [e1, e2, show 1 + (t % 9 + 1) = 1 + t % 9 + 1 by omega] at this
          exact this
        · by_cases q2 : t = 80
          · subst q2
            have hr : r = 0 := by omega
            subst hr
            show T (d + 2) 2 46 [.ref 54, .int k, .int (nI f2), .int (nI 9), .int (nI 9)] [] (hX h ab be V O D) Q ↔ _
            simp (disch := first | assumption | omega | decide | exact hX_o13 | exact hU_o | exact hX_o45 | exact hX_o47 | exact hX_o49 | exact hX_o54 | exact hU_o7 | exact hU_o9 | exact hU_o11 | exact hU_o13) only [t2_46, t2_49, hC_13, hC_45, hC_47, hC_49, hC_54, gF_6_0, gF_6_1, gF_6_2, gF_6_3, gF_6_4, gF_6_5, gF_6_6, gF_6_7, gF_6_8, gF_6_9, hU_0, hU_7, hU_9, hU_11, hU_13, gF_5_0, gF_5_1, gF_5_2, gF_5_3, gF_5_4, gF_5_5, gF_5_6, gF_5_7, gF_5_8, gF_5_9, gF_5_10, gF_5_11, gF_5_12, gF_5_13, gF_3_0, gF_3_1, gF_3_2, gF_3_3, ln_add, nl_add, ln_mul, nl_mul, nI_add, nI_1, i32_nl, ite_not, lt_nn, lt_nl, lt_ln, eq_nn, eq_nl, eq_ln, if_true, if_false, kil_i, kil_r, kil_l, kil_u, rl_s, rl_n, Nat.zero_add, Nat.lt_irrefl, not_true_eq_false, not_false_eq_true, true_and, dp_1, dp_2, dp_3, dp_4, dp_5, dp_6, dp_7, dp_8, dp_9, dp_10, dp_11, dp_12, dp_13, dp_14, dp_15, dp_16, dp_17, dp_18, dp_19, dp_20, dp_21, dp_22, dp_23, dp_24, dp_25, dp_26, dp_27, dp_28, dp_29, dp_30, dp_31, dp_32, dp_33, dp_34, dp_35, dp_36, dp_37, dp_38, dp_39]
            rw [t2_13]
            simp (disch := first | assumption | omega | decide | exact hX_o13 | exact hU_o | exact hX_o45 | exact hX_o47 | exact hX_o49 | exact hX_o54 | exact hU_o7 | exact hU_o9 | exact hU_o11 | exact hU_o13) only [t2_15, t2_17, t2_52, t2_55, hC_13, hC_45, hC_47, hC_49, hC_54, gF_6_0, gF_6_1, gF_6_2, gF_6_3, gF_6_4, gF_6_5, gF_6_6, gF_6_7, gF_6_8, gF_6_9, hU_0, hU_7, hU_9, hU_11, hU_13, gF_5_0, gF_5_1, gF_5_2, gF_5_3, gF_5_4, gF_5_5, gF_5_6, gF_5_7, gF_5_8, gF_5_9, gF_5_10, gF_5_11, gF_5_12, gF_5_13, gF_3_0, gF_3_1, gF_3_2, gF_3_3, ln_add, nl_add, ln_mul, nl_mul, nI_add, nI_1, i32_nl, ite_not, lt_nn, lt_nl, lt_ln, eq_nn, eq_nl, eq_ln, if_true, if_false, kil_i, kil_r, kil_l, kil_u, rl_s, rl_n, Nat.zero_add, Nat.lt_irrefl, not_true_eq_false, not_false_eq_true, true_and, dp_1, dp_2, dp_3, dp_4, dp_5, dp_6, dp_7, dp_8, dp_9, dp_10, dp_11, dp_12, dp_13, dp_14, dp_15, dp_16, dp_17, dp_18, dp_19, dp_20, dp_21, dp_22, dp_23, dp_24, dp_25, dp_26, dp_27, dp_28, dp_29, dp_30, dp_31, dp_32, dp_33, dp_34, dp_35, dp_36, dp_37, dp_38, dp_39, show 9 < 9 + 1 by decide]
            rw [t2_4]
            simp (disch := first | assumption | omega | decide | exact hX_o13 | exact hU_o | exact hX_o45 | exact hX_o47 | exact hX_o49 | exact hX_o54 | exact hU_o7 | exact hU_o9 | exact hU_o11 | exact hU_o13) only [t2_5, t2_7, hC_13, hC_45, hC_47, hC_49, hC_54, gF_6_0, gF_6_1, gF_6_2, gF_6_3, gF_6_4, gF_6_5, gF_6_6, gF_6_7, gF_6_8, gF_6_9, hU_0, hU_7, hU_9, hU_11, hU_13, gF_5_0, gF_5_1, gF_5_2, gF_5_3, gF_5_4, gF_5_5, gF_5_6, gF_5_7, gF_5_8, gF_5_9, gF_5_10, gF_5_11, gF_5_12, gF_5_13, gF_3_0, gF_3_1, gF_3_2, gF_3_3, ln_add, nl_add, ln_mul, nl_mul, nI_add, nI_1, i32_nl, ite_not, lt_nn, lt_nl, lt_ln, eq_nn, eq_nl, eq_ln, if_true, if_false, kil_i, kil_r, kil_l, kil_u, rl_s, rl_n, Nat.zero_add, Nat.lt_irrefl, not_true_eq_false, not_false_eq_true, true_and, dp_1, dp_2, dp_3, dp_4, dp_5, dp_6, dp_7, dp_8, dp_9, dp_10, dp_11, dp_12, dp_13, dp_14, dp_15, dp_16, dp_17, dp_18, dp_19, dp_20, dp_21, dp_22, dp_23, dp_24, dp_25, dp_26, dp_27, dp_28, dp_29, dp_30, dp_31, dp_32, dp_33, dp_34, dp_35, dp_36, dp_37, dp_38, dp_39, show 9 < 9 + 1 by decide]
            exact fin f2 _
          · have e1 : (t + 1) / 9 = t / 9 + 1 := by omega
            have e2 : (t + 1) % 9 = 0 := by omega
            have e3 : 1 + t % 9 = 9 := by omega
            rw [e3]
            simp (disch := first | assumption | omega | decide | exact hX_o13 | exact hU_o | exact hX_o45 | exact hX_o47 | exact hX_o49 | exact hX_o54 | exact hU_o7 | exact hU_o9 | exact hU_o11 | exact hU_o13) only [t2_46, t2_49, hC_13, hC_45, hC_47, hC_49, hC_54, gF_6_0, gF_6_1, gF_6_2, gF_6_3, gF_6_4, gF_6_5, gF_6_6, gF_6_7, gF_6_8, gF_6_9, hU_0, hU_7, hU_9, hU_11, hU_13, gF_5_0, gF_5_1, gF_5_2, gF_5_3, gF_5_4, gF_5_5, gF_5_6, gF_5_7, gF_5_8, gF_5_9, gF_5_10, gF_5_11, gF_5_12, gF_5_13, gF_3_0, gF_3_1, gF_3_2, gF_3_3, ln_add, nl_add, ln_mul, nl_mul, nI_add, nI_1, i32_nl, ite_not, lt_nn, lt_nl, lt_ln, eq_nn, eq_nl, eq_ln, if_true, if_false, kil_i, kil_r, kil_l, kil_u, rl_s, rl_n, Nat.zero_add, Nat.lt_irrefl, not_true_eq_false, not_false_eq_true, true_and, dp_1, dp_2, dp_3, dp_4, dp_5, dp_6, dp_7, dp_8, dp_9, dp_10, dp_11, dp_12, dp_13, dp_14, dp_15, dp_16, dp_17, dp_18, dp_19, dp_20, dp_21, dp_22, dp_23, dp_24, dp_25, dp_26, dp_27, dp_28, dp_29, dp_30, dp_31, dp_32, dp_33, dp_34, dp_35, dp_36, dp_37, dp_38, dp_39]
            rw [t2_13]
            simp (disch := first | assumption | omega | decide | exact hX_o13 | exact hU_o | exact hX_o45 | exact hX_o47 | exact hX_o49 | exact hX_o54 | exact hU_o7 | exact hU_o9 | exact hU_o11 | exact hU_o13) only [t2_15, t2_17, t2_52, t2_55, hC_13, hC_45, hC_47, hC_49, hC_54, gF_6_0, gF_6_1, gF_6_2, gF_6_3, gF_6_4, gF_6_5, gF_6_6, gF_6_7, gF_6_8, gF_6_9, hU_0, hU_7, hU_9, hU_11, hU_13, gF_5_0, gF_5_1, gF_5_2, gF_5_3, gF_5_4, gF_5_5, gF_5_6, gF_5_7, gF_5_8, gF_5_9, gF_5_10, gF_5_11, gF_5_12, gF_5_13, gF_3_0, gF_3_1, gF_3_2, gF_3_3, ln_add, nl_add, ln_mul, nl_mul, nI_add, nI_1, i32_nl, ite_not, lt_nn, lt_nl, lt_ln, eq_nn, eq_nl, eq_ln, if_true, if_false, kil_i, kil_r, kil_l, kil_u, rl_s, rl_n, Nat.zero_add, Nat.lt_irrefl, not_true_eq_false, not_false_eq_true, true_and, dp_1, dp_2, dp_3, dp_4, dp_5, dp_6, dp_7, dp_8, dp_9, dp_10, dp_11, dp_12, dp_13, dp_14, dp_15, dp_16, dp_17, dp_18, dp_19, dp_20, dp_21, dp_22, dp_23, dp_24, dp_25, dp_26, dp_27, dp_28, dp_29, dp_30, dp_31, dp_32, dp_33, dp_34, dp_35, dp_36, dp_37, dp_38, dp_39, show 9 < 9 + 1 by decide]
            rw [t2_4]
            simp (disch := first | assumption | omega | decide | exact hX_o13 | exact hU_o | exact hX_o45 | exact hX_o47 | exact hX_o49 | exact hX_o54 | exact hU_o7 | exact hU_o9 | exact hU_o11 | exact hU_o13) only [t2_5, t2_7, t2_10, t2_11, hC_13, hC_45, hC_47, hC_49, hC_54, gF_6_0, gF_6_1, gF_6_2, gF_6_3, gF_6_4, gF_6_5, gF_6_6, gF_6_7, gF_6_8, gF_6_9, hU_0, hU_7, hU_9, hU_11, hU_13, gF_5_0, gF_5_1, gF_5_2, gF_5_3, gF_5_4, gF_5_5, gF_5_6, gF_5_7, gF_5_8, gF_5_9, gF_5_10, gF_5_11, gF_5_12, gF_5_13, gF_3_0, gF_3_1, gF_3_2, gF_3_3, ln_add, nl_add, ln_mul, nl_mul, nI_add, nI_1, i32_nl, ite_not, lt_nn, lt_nl, lt_ln, eq_nn, eq_nl, eq_ln, if_true, if_false, kil_i, kil_r, kil_l, kil_u, rl_s, rl_n, Nat.zero_add, Nat.lt_irrefl, not_true_eq_false, not_false_eq_true, true_and, dp_1, dp_2, dp_3, dp_4, dp_5, dp_6, dp_7, dp_8, dp_9, dp_10, dp_11, dp_12, dp_13, dp_14, dp_15, dp_16, dp_17, dp_18, dp_19, dp_20, dp_21, dp_22, dp_23, dp_24, dp_25, dp_26, dp_27, dp_28, dp_29, dp_30, dp_31, dp_32, dp_33, dp_34, dp_35, dp_36, dp_37, dp_38, dp_39, show ¬ 9 < 1 + t / 9 + 1 by omega]
            have := ih (t + 1) f2 (by omega) (by omega) hf2
            rw [e1, e2, show 1 + (t / 9 + 1) = 1 + t / 9 + 1 by omega] at this
            exact this
      have W := @W_rests d h (fun r h2 => T (d + 2) 2 27 [.ref 54, .int k, .int (nI f), .int (nI (1 + t / 9)), .int (nI (1 + t % 9))] (rl r []) h2 Q) ab be V O D (1 + t / 9) (1 + t % 9) (by omega) (by omega)
      rw [t2_13]
      simp (disch := first | assumption | omega | decide | exact hX_o13 | exact hU_o | exact hX_o45 | exact hX_o47 | exact hX_o49 | exact hX_o54 | exact hU_o7 | exact hU_o9 | exact hU_o11 | exact hU_o13) only [t2_15, t2_17, t2_20, t2_21, t2_22, t2_24, hC_13, hC_45, hC_47, hC_49, hC_54, gF_6_0, gF_6_1, gF_6_2, gF_6_3, gF_6_4, gF_6_5, gF_6_6, gF_6_7, gF_6_8, gF_6_9, hU_0, hU_7, hU_9, hU_11, hU_13, gF_5_0, gF_5_1, gF_5_2, gF_5_3, gF_5_4, gF_5_5, gF_5_6, gF_5_7, gF_5_8, gF_5_9, gF_5_10, gF_5_11, gF_5_12, gF_5_13, gF_3_0, gF_3_1, gF_3_2, gF_3_3, ln_add, nl_add, ln_mul, nl_mul, nI_add, nI_1, i32_nl, ite_not, lt_nn, lt_nl, lt_ln, eq_nn, eq_nl, eq_ln, if_true, if_false, kil_i, kil_r, kil_l, kil_u, rl_s, rl_n, Nat.zero_add, Nat.lt_irrefl, not_true_eq_false, not_false_eq_true, true_and, dp_1, dp_2, dp_3, dp_4, dp_5, dp_6, dp_7, dp_8, dp_9, dp_10, dp_11, dp_12, dp_13, dp_14, dp_15, dp_16, dp_17, dp_18, dp_19, dp_20, dp_21, dp_22, dp_23, dp_24, dp_25, dp_26, dp_27, dp_28, dp_29, dp_30, dp_31, dp_32, dp_33, dp_34, dp_35, dp_36, dp_37, dp_38, dp_39, show ¬ 9 < 1 + t % 9 by omega]
      refine W.trans ?_
      unfold rvR
      cases q : rsB (O 55) (O 56) (1 + t / 9) (1 + t % 9) with
      | true =>
        rw [if_pos rfl]
        by_cases q2 : nI f = k
        · rw [if_pos q2]
          simp (disch := first | assumption | omega | decide | exact hX_o13 | exact hU_o | exact hX_o45 | exact hX_o47 | exact hX_o49 | exact hX_o54 | exact hU_o7 | exact hU_o9 | exact hU_o11 | exact hU_o13) only [t2_27, t2_30, t2_31, t2_32, t2_35, t2_37, t2_38, t2_39, t2_41, t2_42, hC_13, hC_45, hC_47, hC_49, hC_54, gF_6_0, gF_6_1, gF_6_2, gF_6_3, gF_6_4, gF_6_5, gF_6_6, gF_6_7, gF_6_8, gF_6_9, hU_0, hU_7, hU_9, hU_11, hU_13, gF_5_0, gF_5_1, gF_5_2, gF_5_3, gF_5_4, gF_5_5, gF_5_6, gF_5_7, gF_5_8, gF_5_9, gF_5_10, gF_5_11, gF_5_12, gF_5_13, gF_3_0, gF_3_1, gF_3_2, gF_3_3, ln_add, nl_add, ln_mul, nl_mul, nI_add, nI_1, i32_nl, ite_not, lt_nn, lt_nl, lt_ln, eq_nn, eq_nl, eq_ln, if_true, if_false, kil_i, kil_r, kil_l, kil_u, rl_s, rl_n, Nat.zero_add, Nat.lt_irrefl, not_true_eq_false, not_false_eq_true, true_and, dp_1, dp_2, dp_3, dp_4, dp_5, dp_6, dp_7, dp_8, dp_9, dp_10, dp_11, dp_12, dp_13, dp_14, dp_15, dp_16, dp_17, dp_18, dp_19, dp_20, dp_21, dp_22, dp_23, dp_24, dp_25, dp_26, dp_27, dp_28, dp_29, dp_30, dp_31, dp_32, dp_33, dp_34, dp_35, dp_36, dp_37, dp_38, dp_39, zI, z10, q2]
        · rw [if_neg q2]
          have n2 := nxt (f + 1) (by omega)
          simp (disch := first | assumption | omega | decide | exact hX_o13 | exact hU_o | exact hX_o45 | exact hX_o47 | exact hX_o49 | exact hX_o54 | exact hU_o7 | exact hU_o9 | exact hU_o11 | exact hU_o13) only [t2_27, t2_30, t2_31, t2_32, t2_35, t2_37, t2_38, t2_39, t2_41, t2_42, t2_43, hC_13, hC_45, hC_47, hC_49, hC_54, gF_6_0, gF_6_1, gF_6_2, gF_6_3, gF_6_4, gF_6_5, gF_6_6, gF_6_7, gF_6_8, gF_6_9, hU_0, hU_7, hU_9, hU_11, hU_13, gF_5_0, gF_5_1, gF_5_2, gF_5_3, gF_5_4, gF_5_5, gF_5_6, gF_5_7, gF_5_8, gF_5_9, gF_5_10, gF_5_11, gF_5_12, gF_5_13, gF_3_0, gF_3_1, gF_3_2, gF_3_3, ln_add, nl_add, ln_mul, nl_mul, nI_add, nI_1, i32_nl, ite_not, lt_nn, lt_nl, lt_ln, eq_nn, eq_nl, eq_ln, if_true, if_false, kil_i, kil_r, kil_l, kil_u, rl_s, rl_n, Nat.zero_add, Nat.lt_irrefl, not_true_eq_false, not_false_eq_true, true_and, dp_1, dp_2, dp_3, dp_4, dp_5, dp_6, dp_7, dp_8, dp_9, dp_10, dp_11, dp_12, dp_13, dp_14, dp_15, dp_16, dp_17, dp_18, dp_19, dp_20, dp_21, dp_22, dp_23, dp_24, dp_25, dp_26, dp_27, dp_28, dp_29, dp_30, dp_31, dp_32, dp_33, dp_34, dp_35, dp_36, dp_37, dp_38, dp_39, zI, z10, q2]
          exact n2
      | false =>
        rw [if_neg (by decide)]
        have n2 := nxt f (by omega)
        simp (disch := first | assumption | omega | decide | exact hX_o13 | exact hU_o | exact hX_o45 | exact hX_o47 | exact hX_o49 | exact hX_o54 | exact hU_o7 | exact hU_o9 | exact hU_o11 | exact hU_o13) only [t2_27, hC_13, hC_45, hC_47, hC_49, hC_54, gF_6_0, gF_6_1, gF_6_2, gF_6_3, gF_6_4, gF_6_5, gF_6_6, gF_6_7, gF_6_8, gF_6_9, hU_0, hU_7, hU_9, hU_11, hU_13, gF_5_0, gF_5_1, gF_5_2, gF_5_3, gF_5_4, gF_5_5, gF_5_6, gF_5_7, gF_5_8, gF_5_9, gF_5_10, gF_5_11, gF_5_12, gF_5_13, gF_3_0, gF_3_1, gF_3_2, gF_3_3, ln_add, nl_add, ln_mul, nl_mul, nI_add, nI_1, i32_nl, ite_not, lt_nn, lt_nl, lt_ln, eq_nn, eq_nl, eq_ln, if_true, if_false, kil_i, kil_r, kil_l, kil_u, rl_s, rl_n, Nat.zero_add, Nat.lt_irrefl, not_true_eq_false, not_false_eq_true, true_and, dp_1, dp_2, dp_3, dp_4, dp_5, dp_6, dp_7, dp_8, dp_9, dp_10, dp_11, dp_12, dp_13, dp_14, dp_15, dp_16, dp_17, dp_18, dp_19, dp_20, dp_21, dp_22, dp_23, dp_24, dp_25, dp_26, dp_27, dp_28, dp_29, dp_30, dp_31, dp_32, dp_33, dp_34, dp_35, dp_36, dp_37, dp_38, dp_39, zI, Bool.false_eq_true]
        exact n2
  simp (disch := first | assumption | omega | decide | exact hX_o13 | exact hU_o | exact hX_o45 | exact hX_o47 | exact hX_o49 | exact hX_o54 | exact hU_o7 | exact hU_o9 | exact hU_o11 | exact hU_o13) only [t2_0, t2_1, t2_2, t2_3, hC_13, hC_45, hC_47, hC_49, hC_54, gF_6_0, gF_6_1, gF_6_2, gF_6_3, gF_6_4, gF_6_5, gF_6_6, gF_6_7, gF_6_8, gF_6_9, hU_0, hU_7, hU_9, hU_11, hU_13, gF_5_0, gF_5_1, gF_5_2, gF_5_3, gF_5_4, gF_5_5, gF_5_6, gF_5_7, gF_5_8, gF_5_9, gF_5_10, gF_5_11, gF_5_12, gF_5_13, gF_3_0, gF_3_1, gF_3_2, gF_3_3, ln_add, nl_add, ln_mul, nl_mul, nI_add, nI_1, i32_nl, ite_not, lt_nn, lt_nl, lt_ln, eq_nn, eq_nl, eq_ln, if_true, if_false, kil_i, kil_r, kil_l, kil_u, rl_s, rl_n, Nat.zero_add, Nat.lt_irrefl, not_true_eq_false, not_false_eq_true, true_and, dp_1, dp_2, dp_3, dp_4, dp_5, dp_6, dp_7, dp_8, dp_9, dp_10, dp_11, dp_12, dp_13, dp_14, dp_15, dp_16, dp_17, dp_18, dp_19, dp_20, dp_21, dp_22, dp_23, dp_24, dp_25, dp_26, dp_27, dp_28, dp_29, dp_30, dp_31, dp_32, dp_33, dp_34, dp_35, dp_36, dp_37, dp_38, dp_39]
  rw [t2_4]
  simp (disch := first | assumption | omega | decide | exact hX_o13 | exact hU_o | exact hX_o45 | exact hX_o47 | exact hX_o49 | exact hX_o54 | exact hU_o7 | exact hU_o9 | exact hU_o11 | exact hU_o13) only [t2_5, t2_7, t2_10, t2_11, hC_13, hC_45, hC_47, hC_49, hC_54, gF_6_0, gF_6_1, gF_6_2, gF_6_3, gF_6_4, gF_6_5, gF_6_6, gF_6_7, gF_6_8, gF_6_9, hU_0, hU_7, hU_9, hU_11, hU_13, gF_5_0, gF_5_1, gF_5_2, gF_5_3, gF_5_4, gF_5_5, gF_5_6, gF_5_7, gF_5_8, gF_5_9, gF_5_10, gF_5_11, gF_5_12, gF_5_13, gF_3_0, gF_3_1, gF_3_2, gF_3_3, ln_add, nl_add, ln_mul, nl_mul, nI_add, nI_1, i32_nl, ite_not, lt_nn, lt_nl, lt_ln, eq_nn, eq_nl, eq_ln, if_true, if_false, kil_i, kil_r, kil_l, kil_u, rl_s, rl_n, Nat.zero_add, Nat.lt_irrefl, not_true_eq_false, not_false_eq_true, true_and, dp_1, dp_2, dp_3, dp_4, dp_5, dp_6, dp_7, dp_8, dp_9, dp_10, dp_11, dp_12, dp_13, dp_14, dp_15, dp_16, dp_17, dp_18, dp_19, dp_20, dp_21, dp_22, dp_23, dp_24, dp_25, dp_26, dp_27, dp_28, dp_29, dp_30, dp_31, dp_32, dp_33, dp_34, dp_35, dp_36, dp_37, dp_38, dp_39, show ¬ (9 : Int32) < 1 by decide]
  exact key 81 0 0 rfl (by omega) (by omega)
theorem W_setUp {a b i : Nat} (ri : RI R g hh sn nn mn un0) (sm : SM D R g hh sn nn mn un0) (ha : a < hh) (hb : b < hh) (hi : i < g)
    (k : ∀ A B, (∀ x, 1 ≤ x → x < 10 → A x = rvA R i a x) → (∀ x, 1 ≤ x → x < 10 → B x = rvA R i b x) → Q none (hX h ab be V (wA (wA O 55 A) 56 B) D)) :
    T (d + 4) 1 0 [.ref 54, .ref 14, .int (nI a), .int (nI b), .int (nI i), un] [] (hX h ab be V O D) Q := by
  have re := sm.rl ri
  have c55 : ∀ A B : Nat → Int32, (hX h ab be V (wA (wA O 55 A) 56 B) D).2.2 55 = oI 10 A := fun A B => by rw [hC_55, wA_o (by decide), wA_s]
  have c56 : ∀ A B : Nat → Int32, (hX h ab be V (wA (wA O 55 A) 56 B) D).2.2 56 = oI 10 B := fun A B => by rw [hC_56, wA_s]
  have sw : ∀ A B A2 : Nat → Int32, wA (wA (wA O 55 A) 56 B) 55 A2 = wA (wA O 55 A2) 56 B := fun A B A2 => by
    funext q; unfold wA
    by_cases e1 : q = 55
    · subst e1; rfl
    · by_cases e2 : q = 56
      · subst e2; rfl
      · simp only [e1, e2, if_false]
  have p55 : ∀ {d : Nat} {Q : Pst} (A B : Nat → Int32) (m : Nat) (x : Int32), m < 10 → (T d 123 0 [.ref 55, .int (nI m), .int x] [] (hX h ab be V (wA (wA O 55 A) 56 B) D) Q ↔ Q none (hX h ab be V (wA (wA O 55 (upd A m x)) 56 B) D)) := fun A B m x hm => by rw [P_n (c55 A B) hm (by decide), hC_u55, sw]
  have p56 : ∀ {d : Nat} {Q : Pst} (A B : Nat → Int32) (m : Nat) (x : Int32), m < 10 → (T d 123 0 [.ref 56, .int (nI m), .int x] [] (hX h ab be V (wA (wA O 55 A) 56 B) D) Q ↔ Q none (hX h ab be V (wA (wA O 55 A) 56 (upd B m x)) D)) := fun A B m x hm => by rw [P_n (c56 A B) hm (by decide), hC_u56, wA_wA]
  have e0 : wA (wA O 55 (O 55)) 56 (O 56) = O := by
    rw [wA_self]
    exact wA_self
  simp (disch := first | assumption | omega | decide | exact hX_o13 | exact hU_o | exact hX_o45 | exact hX_o47 | exact hX_o49 | exact hX_o54 | exact hU_o7 | exact hU_o9 | exact hU_o11 | exact hU_o13) only [t1_0, t1_1, hC_13, hC_45, hC_47, hC_49, hC_54, gF_6_0, gF_6_1, gF_6_2, gF_6_3, gF_6_4, gF_6_5, gF_6_6, gF_6_7, gF_6_8, gF_6_9, hU_0, hU_7, hU_9, hU_11, hU_13, gF_5_0, gF_5_1, gF_5_2, gF_5_3, gF_5_4, gF_5_5, gF_5_6, gF_5_7, gF_5_8, gF_5_9, gF_5_10, gF_5_11, gF_5_12, gF_5_13, gF_3_0, gF_3_1, gF_3_2, gF_3_3, ln_add, nl_add, ln_mul, nl_mul, nI_add, nI_1, i32_nl, ite_not, lt_nn, lt_nl, lt_ln, eq_nn, eq_nl, eq_ln, if_true, if_false, kil_i, kil_r, kil_l, kil_u, rl_s, rl_n, Nat.zero_add, Nat.lt_irrefl, not_true_eq_false, not_false_eq_true, true_and, dp_1, dp_2, dp_3, dp_4, dp_5, dp_6, dp_7, dp_8, dp_9, dp_10, dp_11, dp_12, dp_13, dp_14, dp_15, dp_16, dp_17, dp_18, dp_19, dp_20, dp_21, dp_22, dp_23, dp_24, dp_25, dp_26, dp_27, dp_28, dp_29, dp_30, dp_31, dp_32, dp_33, dp_34, dp_35, dp_36, dp_37, dp_38, dp_39]
  have L := loop_d (P := fun m (s : (Nat → Int32) × (Nat → Int32)) (_ : Unit) => T (d + 4) 1 3 [.ref 54, .ref 14, .int (nI a), .int (nI b), .int (nI i), .int (nI (1 + m))] [] (hX h ab be V (wA (wA O 55 s.1) 56 s.2) D) Q) (F := fun m s => (upd s.1 (1 + m) (rvA R i a (1 + m)), upd s.2 (1 + m) (rvA R i b (1 + m)))) (E := fun s => Q none (hX h ab be V (wA (wA O 55 s.1) 56 s.2) D)) (g := 9) ?_ ?_
  · have L2 := L (O 55, O 56) ()
    rw [e0] at L2
    refine L2.2 ?_
    have I := itr_inv (F := fun m (s : (Nat → Int32) × (Nat → Int32)) => (upd s.1 (1 + m) (rvA R i a (1 + m)), upd s.2 (1 + m) (rvA R i b (1 + m)))) (I := fun m s => (∀ x, 1 ≤ x → x < 1 + m → s.1 x = rvA R i a x) ∧ (∀ x, 1 ≤ x → x < 1 + m → s.2 x = rvA R i b x)) 9 0 (O 55, O 56) ⟨fun x h1 h2 => by omega, fun x h1 h2 => by omega⟩ (fun m s _ _ ⟨i1, i2⟩ => ⟨fun x h1 h2 => by
      by_cases q : x = 1 + m
      · rw [q]; exact upd_eq
      · show upd s.1 _ _ x = _; rw [upd_ne q]; exact i1 x h1 (by omega), fun x h1 h2 => by
      by_cases q : x = 1 + m
      · rw [q]; exact upd_eq
      · show upd s.2 _ _ x = _; rw [upd_ne q]; exact i2 x h1 (by omega)⟩)
    exact k _ _ (fun x h1 h2 => I.1 x h1 (by omega)) (fun x h1 h2 => I.2 x h1 (by omega))
  · intro m s _ hm
    refine ⟨(), ?_⟩
    obtain ⟨A, B⟩ := s
    have U1 := @U_stayCountByMesh (d + 1) (hC h ab be V (wA (wA O 55 A) 56 B)) (fun r h2 => T (d + 4) 1 25 [.ref 54, .ref 14, .int (nI a), .int (nI b), .int (nI i), .int (nI (1 + m))] (rl r [.int (nI (1 + m)), .ref 55]) h2 Q) 14 0 g hh D R i a (nI (1 + m)) re hi ha ⟨_, by omega, rfl⟩
    rw [t1_3, show 1 + (m + 1) = 1 + m + 1 by omega]
    simp (disch := first | assumption | omega | decide | exact hX_o13 | exact hU_o | exact hX_o45 | exact hX_o47 | exact hX_o49 | exact hX_o54 | exact hU_o7 | exact hU_o9 | exact hU_o11 | exact hU_o13) only [t1_5, t1_7, t1_10, t1_11, t1_14, t1_16, t1_17, t1_19, t1_20, t1_22, hC_13, hC_45, hC_47, hC_49, hC_54, gF_6_0, gF_6_1, gF_6_2, gF_6_3, gF_6_4, gF_6_5, gF_6_6, gF_6_7, gF_6_8, gF_6_9, hU_0, hU_7, hU_9, hU_11, hU_13, gF_5_0, gF_5_1, gF_5_2, gF_5_3, gF_5_4, gF_5_5, gF_5_6, gF_5_7, gF_5_8, gF_5_9, gF_5_10, gF_5_11, gF_5_12, gF_5_13, gF_3_0, gF_3_1, gF_3_2, gF_3_3, ln_add, nl_add, ln_mul, nl_mul, nI_add, nI_1, i32_nl, ite_not, lt_nn, lt_nl, lt_ln, eq_nn, eq_nl, eq_ln, if_true, if_false, kil_i, kil_r, kil_l, kil_u, rl_s, rl_n, Nat.zero_add, Nat.lt_irrefl, not_true_eq_false, not_false_eq_true, true_and, dp_1, dp_2, dp_3, dp_4, dp_5, dp_6, dp_7, dp_8, dp_9, dp_10, dp_11, dp_12, dp_13, dp_14, dp_15, dp_16, dp_17, dp_18, dp_19, dp_20, dp_21, dp_22, dp_23, dp_24, dp_25, dp_26, dp_27, dp_28, dp_29, dp_30, dp_31, dp_32, dp_33, dp_34, dp_35, dp_36, dp_37, dp_38, dp_39, show ¬ 9 < 1 + m by omega, gF_0_0]
    refine U1.trans ?_
    rw [Nat.zero_add]
    show T (d + 4) 1 25 [.ref 54, .ref 14, .int (nI a), .int (nI b), .int (nI i), .int (nI (1 + m))] [.int (rvA R i a (1 + m)), .int (nI (1 + m)), .ref 55] (hX h ab be V (wA (wA O 55 A) 56 B) D) Q ↔ _
    have U2 := @U_stayCountByMesh (d + 1) (hC h ab be V (wA (wA O 55 (upd A (1 + m) (rvA R i a (1 + m)))) 56 B)) (fun r h2 => T (d + 4) 1 43 [.ref 54, .ref 14, .int (nI a), .int (nI b), .int (nI i), .int (nI (1 + m))] (rl r [.int (nI (1 + m)), .ref 56]) h2 Q) 14 0 g hh D R i b (nI (1 + m)) re hi hb ⟨_, by omega, rfl⟩
    simp (disch := first | assumption | omega | decide | exact hX_o13 | exact hU_o | exact hX_o45 | exact hX_o47 | exact hX_o49 | exact hX_o54 | exact hU_o7 | exact hU_o9 | exact hU_o11 | exact hU_o13) only [t1_25, t1_28, t1_29, t1_32, t1_34, t1_35, t1_37, t1_38, t1_40, hC_13, hC_45, hC_47, hC_49, hC_54, gF_6_0, gF_6_1, gF_6_2, gF_6_3, gF_6_4, gF_6_5, gF_6_6, gF_6_7, gF_6_8, gF_6_9, hU_0, hU_7, hU_9, hU_11, hU_13, gF_5_0, gF_5_1, gF_5_2, gF_5_3, gF_5_4, gF_5_5, gF_5_6, gF_5_7, gF_5_8, gF_5_9, gF_5_10, gF_5_11, gF_5_12, gF_5_13, gF_3_0, gF_3_1, gF_3_2, gF_3_3, ln_add, nl_add, ln_mul, nl_mul, nI_add, nI_1, i32_nl, ite_not, lt_nn, lt_nl, lt_ln, eq_nn, eq_nl, eq_ln, if_true, if_false, kil_i, kil_r, kil_l, kil_u, rl_s, rl_n, Nat.zero_add, Nat.lt_irrefl, not_true_eq_false, not_false_eq_true, true_and, dp_1, dp_2, dp_3, dp_4, dp_5, dp_6, dp_7, dp_8, dp_9, dp_10, dp_11, dp_12, dp_13, dp_14, dp_15, dp_16, dp_17, dp_18, dp_19, dp_20, dp_21, dp_22, dp_23, dp_24, dp_25, dp_26, dp_27, dp_28, dp_29, dp_30, dp_31, dp_32, dp_33, dp_34, dp_35, dp_36, dp_37, dp_38, dp_39, p55 A B (1 + m) _ (show 1 + m < 10 by omega), gF_0_1]
    refine U2.trans ?_
    rw [Nat.zero_add]
    show T (d + 4) 1 43 [.ref 54, .ref 14, .int (nI a), .int (nI b), .int (nI i), .int (nI (1 + m))] [.int (rvA R i b (1 + m)), .int (nI (1 + m)), .ref 56] (hX h ab be V (wA (wA O 55 (upd A (1 + m) (rvA R i a (1 + m)))) 56 B) D) Q ↔ _
    simp (disch := first | assumption | omega | decide | exact hX_o13 | exact hU_o | exact hX_o45 | exact hX_o47 | exact hX_o49 | exact hX_o54 | exact hU_o7 | exact hU_o9 | exact hU_o11 | exact hU_o13) only [t1_43, t1_46, t1_49, hC_13, hC_45, hC_47, hC_49, hC_54, gF_6_0, gF_6_1, gF_6_2, gF_6_3, gF_6_4, gF_6_5, gF_6_6, gF_6_7, gF_6_8, gF_6_9, hU_0, hU_7, hU_9, hU_11, hU_13, gF_5_0, gF_5_1, gF_5_2, gF_5_3, gF_5_4, gF_5_5, gF_5_6, gF_5_7, gF_5_8, gF_5_9, gF_5_10, gF_5_11, gF_5_12, gF_5_13, gF_3_0, gF_3_1, gF_3_2, gF_3_3, ln_add, nl_add, ln_mul, nl_mul, nI_add, nI_1, i32_nl, ite_not, lt_nn, lt_nl, lt_ln, eq_nn, eq_nl, eq_ln, if_true, if_false, kil_i, kil_r, kil_l, kil_u, rl_s, rl_n, Nat.zero_add, Nat.lt_irrefl, not_true_eq_false, not_false_eq_true, true_and, dp_1, dp_2, dp_3, dp_4, dp_5, dp_6, dp_7, dp_8, dp_9, dp_10, dp_11, dp_12, dp_13, dp_14, dp_15, dp_16, dp_17, dp_18, dp_19, dp_20, dp_21, dp_22, dp_23, dp_24, dp_25, dp_26, dp_27, dp_28, dp_29, dp_30, dp_31, dp_32, dp_33, dp_34, dp_35, dp_36, dp_37, dp_38, dp_39, p56 (upd A (1 + m) (rvA R i a (1 + m))) B (1 + m) _ (show 1 + m < 10 by omega)]
  · intro s _
    rw [t1_3]
    simp (disch := first | assumption | omega | decide | exact hX_o13 | exact hU_o | exact hX_o45 | exact hX_o47 | exact hX_o49 | exact hX_o54 | exact hU_o7 | exact hU_o9 | exact hU_o11 | exact hU_o13) only [t1_5, t1_7, t1_52, hC_13, hC_45, hC_47, hC_49, hC_54, gF_6_0, gF_6_1, gF_6_2, gF_6_3, gF_6_4, gF_6_5, gF_6_6, gF_6_7, gF_6_8, gF_6_9, hU_0, hU_7, hU_9, hU_11, hU_13, gF_5_0, gF_5_1, gF_5_2, gF_5_3, gF_5_4, gF_5_5, gF_5_6, gF_5_7, gF_5_8, gF_5_9, gF_5_10, gF_5_11, gF_5_12, gF_5_13, gF_3_0, gF_3_1, gF_3_2, gF_3_3, ln_add, nl_add, ln_mul, nl_mul, nI_add, nI_1, i32_nl, ite_not, lt_nn, lt_nl, lt_ln, eq_nn, eq_nl, eq_ln, if_true, if_false, kil_i, kil_r, kil_l, kil_u, rl_s, rl_n, Nat.zero_add, Nat.lt_irrefl, not_true_eq_false, not_false_eq_true, true_and, dp_1, dp_2, dp_3, dp_4, dp_5, dp_6, dp_7, dp_8, dp_9, dp_10, dp_11, dp_12, dp_13, dp_14, dp_15, dp_16, dp_17, dp_18, dp_19, dp_20, dp_21, dp_22, dp_23, dp_24, dp_25, dp_26, dp_27, dp_28, dp_29, dp_30, dp_31, dp_32, dp_33, dp_34, dp_35, dp_36, dp_37, dp_38, dp_39, show 9 < 1 + 9 by decide]
end W5
section XE
variable {d : Nat} {h : Hp} {S : St} {g hh sn nn mn un0 n : Nat} {Q : Pst}
theorem X_rivals {a b i x : Int32} (c : ClsAt h S g hh sn nn mn un0 n) (k : ∀ h2, CAx h2 (sp_rivals g hh S a b i x).2 → frC h h2 → Q (some (.int (sp_rivals g hh S a b i x).1)) h2) : T (d + 9) 106 0 [.ref 13, .int a, .int b, .int i, .int x] [] h Q := by
  obtain ⟨ab, be, V, O, D, I, c1, c2, cb, ri, sm⟩ := c
  refine T_eq (hX_self c1 c2) ?_
  have re := sm.rl ri
  have h6 := ri.1.2
  have h4 := ri.2.1.2
  unfold sp_rivals at k
  by_cases q : rg a 0 (hh - 1 : Int) = true ∧ rg b 0 (hh - 1 : Int) = true ∧ ¬ a = b ∧ rg i 0 (g - 1 : Int) = true ∧ ¬ x < -1
  · rw [if_pos q] at k
    obtain ⟨q1, q2, q3, q4, q5⟩ := q
    have e54 : T (d + 9) 106 0 [.ref 13, .int a, .int b, .int i, .int x] [] (hX h ab be V O D) Q ↔ T (d + 9) 106 54 [.ref 13, .int a, .int b, .int i, .int x] [] (hX h ab be V O D) Q := by
      simp (disch := first | assumption | omega | decide | exact hX_o13 | exact hU_o | exact hX_o45 | exact hX_o47 | exact hX_o49 | exact hX_o54 | exact hU_o7 | exact hU_o9 | exact hU_o11 | exact hU_o13) only [t106_0, t106_1, t106_4, t106_5, t106_8, t106_11, t106_12, t106_15, t106_16, t106_19, t106_22, t106_23, t106_24, t106_27, t106_28, t106_31, t106_32, t106_35, t106_38, t106_40, t106_41, hC_13, hC_45, hC_47, hC_49, hC_54, gF_6_0, gF_6_1, gF_6_2, gF_6_3, gF_6_4, gF_6_5, gF_6_6, gF_6_7, gF_6_8, gF_6_9, hU_0, hU_7, hU_9, hU_11, hU_13, gF_5_0, gF_5_1, gF_5_2, gF_5_3, gF_5_4, gF_5_5, gF_5_6, gF_5_7, gF_5_8, gF_5_9, gF_5_10, gF_5_11, gF_5_12, gF_5_13, gF_3_0, gF_3_1, gF_3_2, gF_3_3, ln_add, nl_add, ln_mul, nl_mul, nI_add, nI_1, i32_nl, ite_not, lt_nn, lt_nl, lt_ln, eq_nn, eq_nl, eq_ln, if_true, if_false, kil_i, kil_r, kil_l, kil_u, rl_s, rl_n, Nat.zero_add, Nat.lt_irrefl, not_true_eq_false, not_false_eq_true, true_and, dp_1, dp_2, dp_3, dp_4, dp_5, dp_6, dp_7, dp_8, dp_9, dp_10, dp_11, dp_12, dp_13, dp_14, dp_15, dp_16, dp_17, dp_18, dp_19, dp_20, dp_21, dp_22, dp_23, dp_24, dp_25, dp_26, dp_27, dp_28, dp_29, dp_30, dp_31, dp_32, dp_33, dp_34, dp_35, dp_36, dp_37, dp_38, dp_39, U_hasGuest re, U_hasHouse re, zb_0, q1, q2, q3, q4, q5]
    rw [e54]
    obtain ⟨va, ha, rfl⟩ := rg_n q1
    obtain ⟨vb, hb, rfl⟩ := rg_n q2
    obtain ⟨vi, hi, rfl⟩ := rg_n q4
    simp (disch := first | assumption | omega | decide) only [nI_clamp] at k
    simp (disch := first | assumption | omega | decide | exact hX_o13 | exact hU_o | exact hX_o45 | exact hX_o47 | exact hX_o49 | exact hX_o54 | exact hU_o7 | exact hU_o9 | exact hU_o11 | exact hU_o13) only [t106_54, t106_55, t106_58, t106_59, t106_62, t106_63, t106_64, t106_65, hC_13, hC_45, hC_47, hC_49, hC_54, gF_6_0, gF_6_1, gF_6_2, gF_6_3, gF_6_4, gF_6_5, gF_6_6, gF_6_7, gF_6_8, gF_6_9, hU_0, hU_7, hU_9, hU_11, hU_13, gF_5_0, gF_5_1, gF_5_2, gF_5_3, gF_5_4, gF_5_5, gF_5_6, gF_5_7, gF_5_8, gF_5_9, gF_5_10, gF_5_11, gF_5_12, gF_5_13, gF_3_0, gF_3_1, gF_3_2, gF_3_3, ln_add, nl_add, ln_mul, nl_mul, nI_add, nI_1, i32_nl, ite_not, lt_nn, lt_nl, lt_ln, eq_nn, eq_nl, eq_ln, if_true, if_false, kil_i, kil_r, kil_l, kil_u, rl_s, rl_n, Nat.zero_add, Nat.lt_irrefl, not_true_eq_false, not_false_eq_true, true_and, dp_1, dp_2, dp_3, dp_4, dp_5, dp_6, dp_7, dp_8, dp_9, dp_10, dp_11, dp_12, dp_13, dp_14, dp_15, dp_16, dp_17, dp_18, dp_19, dp_20, dp_21, dp_22, dp_23, dp_24, dp_25, dp_26, dp_27, dp_28, dp_29, dp_30, dp_31, dp_32, dp_33, dp_34, dp_35, dp_36, dp_37, dp_38, dp_39]
    refine W_setUp (d := d + 4) ri sm ha hb hi (fun A B hA hB => ?_)
    have W := @W_restingPair (d + 6) h (fun r h2 => T (d + 9) 106 77 [.ref 13, .int (nI va), .int (nI vb), .int (nI vi), .int x] (rl r []) h2 Q) ab be V (wA (wA O 55 A) 56 B) D x
    rw [wA_s, wA_o (by decide), wA_s] at W
    have ev : rvR (fun t => rsB A B (1 + t / 9) (1 + t % 9)) x 81 0 0 = rvV (rvA (sR S) vi va) (rvA (sR S) vi vb) x := by
      rw [rv_eq q5]
      exact rv_congr (fun t ht => rsB_congr hA hB (by omega) (by omega) (by omega) (by omega)) 81 0 0 rfl
    rw [ev] at W
    generalize rvV (rvA (sR S) vi va) (rvA (sR S) vi vb) x = v at W k
    simp (disch := first | assumption | omega | decide | exact hX_o13 | exact hU_o | exact hX_o45 | exact hX_o47 | exact hX_o49 | exact hX_o54 | exact hU_o7 | exact hU_o9 | exact hU_o11 | exact hU_o13) only [t106_68, t106_69, t106_72, t106_74, hC_13, hC_45, hC_47, hC_49, hC_54, gF_6_0, gF_6_1, gF_6_2, gF_6_3, gF_6_4, gF_6_5, gF_6_6, gF_6_7, gF_6_8, gF_6_9, hU_0, hU_7, hU_9, hU_11, hU_13, gF_5_0, gF_5_1, gF_5_2, gF_5_3, gF_5_4, gF_5_5, gF_5_6, gF_5_7, gF_5_8, gF_5_9, gF_5_10, gF_5_11, gF_5_12, gF_5_13, gF_3_0, gF_3_1, gF_3_2, gF_3_3, ln_add, nl_add, ln_mul, nl_mul, nI_add, nI_1, i32_nl, ite_not, lt_nn, lt_nl, lt_ln, eq_nn, eq_nl, eq_ln, if_true, if_false, kil_i, kil_r, kil_l, kil_u, rl_s, rl_n, Nat.zero_add, Nat.lt_irrefl, not_true_eq_false, not_false_eq_true, true_and, dp_1, dp_2, dp_3, dp_4, dp_5, dp_6, dp_7, dp_8, dp_9, dp_10, dp_11, dp_12, dp_13, dp_14, dp_15, dp_16, dp_17, dp_18, dp_19, dp_20, dp_21, dp_22, dp_23, dp_24, dp_25, dp_26, dp_27, dp_28, dp_29, dp_30, dp_31, dp_32, dp_33, dp_34, dp_35, dp_36, dp_37, dp_38, dp_39]
    refine W.2 ?_
    simp (disch := first | assumption | omega | decide | exact hX_o13 | exact hU_o | exact hX_o45 | exact hX_o47 | exact hX_o49 | exact hX_o54 | exact hU_o7 | exact hU_o9 | exact hU_o11 | exact hU_o13) only [t106_77, hC_13, hC_45, hC_47, hC_49, hC_54, gF_6_0, gF_6_1, gF_6_2, gF_6_3, gF_6_4, gF_6_5, gF_6_6, gF_6_7, gF_6_8, gF_6_9, hU_0, hU_7, hU_9, hU_11, hU_13, gF_5_0, gF_5_1, gF_5_2, gF_5_3, gF_5_4, gF_5_5, gF_5_6, gF_5_7, gF_5_8, gF_5_9, gF_5_10, gF_5_11, gF_5_12, gF_5_13, gF_3_0, gF_3_1, gF_3_2, gF_3_3, ln_add, nl_add, ln_mul, nl_mul, nI_add, nI_1, i32_nl, ite_not, lt_nn, lt_nl, lt_ln, eq_nn, eq_nl, eq_ln, if_true, if_false, kil_i, kil_r, kil_l, kil_u, rl_s, rl_n, Nat.zero_add, Nat.lt_irrefl, not_true_eq_false, not_false_eq_true, true_and, dp_1, dp_2, dp_3, dp_4, dp_5, dp_6, dp_7, dp_8, dp_9, dp_10, dp_11, dp_12, dp_13, dp_14, dp_15, dp_16, dp_17, dp_18, dp_19, dp_20, dp_21, dp_22, dp_23, dp_24, dp_25, dp_26, dp_27, dp_28, dp_29, dp_30, dp_31, dp_32, dp_33, dp_34, dp_35, dp_36, dp_37, dp_38, dp_39]
    exact kcN ((cb.oth (a := 55) (by decide) (by decide)).oth (a := 56) (by decide) (by decide)) ri sm k
  · rw [if_neg q] at k
    have e44 : T (d + 9) 106 0 [.ref 13, .int a, .int b, .int i, .int x] [] (hX h ab be V O D) Q ↔ T (d + 9) 106 44 [.ref 13, .int a, .int b, .int i, .int x] [] (hX h ab be V O D) Q := by
      by_cases q1 : rg a 0 (hh - 1 : Int) = true
      · by_cases q2 : rg b 0 (hh - 1 : Int) = true
        · by_cases q3 : a = b
          · simp (disch := first | assumption | omega | decide | exact hX_o13 | exact hU_o | exact hX_o45 | exact hX_o47 | exact hX_o49 | exact hX_o54 | exact hU_o7 | exact hU_o9 | exact hU_o11 | exact hU_o13) only [t106_0, t106_1, t106_4, t106_5, t106_8, t106_11, t106_12, t106_15, t106_16, t106_19, t106_22, t106_23, t106_24, t106_27, t106_28, t106_31, t106_32, t106_35, t106_38, t106_40, t106_41, hC_13, hC_45, hC_47, hC_49, hC_54, gF_6_0, gF_6_1, gF_6_2, gF_6_3, gF_6_4, gF_6_5, gF_6_6, gF_6_7, gF_6_8, gF_6_9, hU_0, hU_7, hU_9, hU_11, hU_13, gF_5_0, gF_5_1, gF_5_2, gF_5_3, gF_5_4, gF_5_5, gF_5_6, gF_5_7, gF_5_8, gF_5_9, gF_5_10, gF_5_11, gF_5_12, gF_5_13, gF_3_0, gF_3_1, gF_3_2, gF_3_3, ln_add, nl_add, ln_mul, nl_mul, nI_add, nI_1, i32_nl, ite_not, lt_nn, lt_nl, lt_ln, eq_nn, eq_nl, eq_ln, if_true, if_false, kil_i, kil_r, kil_l, kil_u, rl_s, rl_n, Nat.zero_add, Nat.lt_irrefl, not_true_eq_false, not_false_eq_true, true_and, dp_1, dp_2, dp_3, dp_4, dp_5, dp_6, dp_7, dp_8, dp_9, dp_10, dp_11, dp_12, dp_13, dp_14, dp_15, dp_16, dp_17, dp_18, dp_19, dp_20, dp_21, dp_22, dp_23, dp_24, dp_25, dp_26, dp_27, dp_28, dp_29, dp_30, dp_31, dp_32, dp_33, dp_34, dp_35, dp_36, dp_37, dp_38, dp_39, U_hasGuest re, U_hasHouse re, zb_0, q1, q2, q3]
          · by_cases q4 : rg i 0 (g - 1 : Int) = true
            · have q5 : x < -1 := by
                by_cases z : x < -1
                · exact z
                · exact absurd ⟨q1, q2, q3, q4, z⟩ q
              simp (disch := first | assumption | omega | decide | exact hX_o13 | exact hU_o | exact hX_o45 | exact hX_o47 | exact hX_o49 | exact hX_o54 | exact hU_o7 | exact hU_o9 | exact hU_o11 | exact hU_o13) only [t106_0, t106_1, t106_4, t106_5, t106_8, t106_11, t106_12, t106_15, t106_16, t106_19, t106_22, t106_23, t106_24, t106_27, t106_28, t106_31, t106_32, t106_35, t106_38, t106_40, t106_41, hC_13, hC_45, hC_47, hC_49, hC_54, gF_6_0, gF_6_1, gF_6_2, gF_6_3, gF_6_4, gF_6_5, gF_6_6, gF_6_7, gF_6_8, gF_6_9, hU_0, hU_7, hU_9, hU_11, hU_13, gF_5_0, gF_5_1, gF_5_2, gF_5_3, gF_5_4, gF_5_5, gF_5_6, gF_5_7, gF_5_8, gF_5_9, gF_5_10, gF_5_11, gF_5_12, gF_5_13, gF_3_0, gF_3_1, gF_3_2, gF_3_3, ln_add, nl_add, ln_mul, nl_mul, nI_add, nI_1, i32_nl, ite_not, lt_nn, lt_nl, lt_ln, eq_nn, eq_nl, eq_ln, if_true, if_false, kil_i, kil_r, kil_l, kil_u, rl_s, rl_n, Nat.zero_add, Nat.lt_irrefl, not_true_eq_false, not_false_eq_true, true_and, dp_1, dp_2, dp_3, dp_4, dp_5, dp_6, dp_7, dp_8, dp_9, dp_10, dp_11, dp_12, dp_13, dp_14, dp_15, dp_16, dp_17, dp_18, dp_19, dp_20, dp_21, dp_22, dp_23, dp_24, dp_25, dp_26, dp_27, dp_28, dp_29, dp_30, dp_31, dp_32, dp_33, dp_34, dp_35, dp_36, dp_37, dp_38, dp_39, U_hasGuest re, U_hasHouse re, zb_0, q1, q2, q3, q4, q5]
            · simp (disch := first | assumption | omega | decide | exact hX_o13 | exact hU_o | exact hX_o45 | exact hX_o47 | exact hX_o49 | exact hX_o54 | exact hU_o7 | exact hU_o9 | exact hU_o11 | exact hU_o13) only [t106_0, t106_1, t106_4, t106_5, t106_8, t106_11, t106_12, t106_15, t106_16, t106_19, t106_22, t106_23, t106_24, t106_27, t106_28, t106_31, t106_32, t106_35, t106_38, t106_40, t106_41, hC_13, hC_45, hC_47, hC_49, hC_54, gF_6_0, gF_6_1, gF_6_2, gF_6_3, gF_6_4, gF_6_5, gF_6_6, gF_6_7, gF_6_8, gF_6_9, hU_0, hU_7, hU_9, hU_11, hU_13, gF_5_0, gF_5_1, gF_5_2, gF_5_3, gF_5_4, gF_5_5, gF_5_6, gF_5_7, gF_5_8, gF_5_9, gF_5_10, gF_5_11, gF_5_12, gF_5_13, gF_3_0, gF_3_1, gF_3_2, gF_3_3, ln_add, nl_add, ln_mul, nl_mul, nI_add, nI_1, i32_nl, ite_not, lt_nn, lt_nl, lt_ln, eq_nn, eq_nl, eq_ln, if_true, if_false, kil_i, kil_r, kil_l, kil_u, rl_s, rl_n, Nat.zero_add, Nat.lt_irrefl, not_true_eq_false, not_false_eq_true, true_and, dp_1, dp_2, dp_3, dp_4, dp_5, dp_6, dp_7, dp_8, dp_9, dp_10, dp_11, dp_12, dp_13, dp_14, dp_15, dp_16, dp_17, dp_18, dp_19, dp_20, dp_21, dp_22, dp_23, dp_24, dp_25, dp_26, dp_27, dp_28, dp_29, dp_30, dp_31, dp_32, dp_33, dp_34, dp_35, dp_36, dp_37, dp_38, dp_39, U_hasGuest re, U_hasHouse re, zb_0, q1, q2, q3, q4, Bool.false_eq_true]
        · simp (disch := first | assumption | omega | decide | exact hX_o13 | exact hU_o | exact hX_o45 | exact hX_o47 | exact hX_o49 | exact hX_o54 | exact hU_o7 | exact hU_o9 | exact hU_o11 | exact hU_o13) only [t106_0, t106_1, t106_4, t106_5, t106_8, t106_11, t106_12, t106_15, t106_16, t106_19, t106_22, t106_23, t106_24, t106_27, t106_28, t106_31, t106_32, t106_35, t106_38, t106_40, t106_41, hC_13, hC_45, hC_47, hC_49, hC_54, gF_6_0, gF_6_1, gF_6_2, gF_6_3, gF_6_4, gF_6_5, gF_6_6, gF_6_7, gF_6_8, gF_6_9, hU_0, hU_7, hU_9, hU_11, hU_13, gF_5_0, gF_5_1, gF_5_2, gF_5_3, gF_5_4, gF_5_5, gF_5_6, gF_5_7, gF_5_8, gF_5_9, gF_5_10, gF_5_11, gF_5_12, gF_5_13, gF_3_0, gF_3_1, gF_3_2, gF_3_3, ln_add, nl_add, ln_mul, nl_mul, nI_add, nI_1, i32_nl, ite_not, lt_nn, lt_nl, lt_ln, eq_nn, eq_nl, eq_ln, if_true, if_false, kil_i, kil_r, kil_l, kil_u, rl_s, rl_n, Nat.zero_add, Nat.lt_irrefl, not_true_eq_false, not_false_eq_true, true_and, dp_1, dp_2, dp_3, dp_4, dp_5, dp_6, dp_7, dp_8, dp_9, dp_10, dp_11, dp_12, dp_13, dp_14, dp_15, dp_16, dp_17, dp_18, dp_19, dp_20, dp_21, dp_22, dp_23, dp_24, dp_25, dp_26, dp_27, dp_28, dp_29, dp_30, dp_31, dp_32, dp_33, dp_34, dp_35, dp_36, dp_37, dp_38, dp_39, U_hasGuest re, U_hasHouse re, zb_0, q1, q2, Bool.false_eq_true]
      · simp (disch := first | assumption | omega | decide | exact hX_o13 | exact hU_o | exact hX_o45 | exact hX_o47 | exact hX_o49 | exact hX_o54 | exact hU_o7 | exact hU_o9 | exact hU_o11 | exact hU_o13) only [t106_0, t106_1, t106_4, t106_5, t106_8, t106_11, t106_12, t106_15, t106_16, t106_19, t106_22, t106_23, t106_24, t106_27, t106_28, t106_31, t106_32, t106_35, t106_38, t106_40, t106_41, hC_13, hC_45, hC_47, hC_49, hC_54, gF_6_0, gF_6_1, gF_6_2, gF_6_3, gF_6_4, gF_6_5, gF_6_6, gF_6_7, gF_6_8, gF_6_9, hU_0, hU_7, hU_9, hU_11, hU_13, gF_5_0, gF_5_1, gF_5_2, gF_5_3, gF_5_4, gF_5_5, gF_5_6, gF_5_7, gF_5_8, gF_5_9, gF_5_10, gF_5_11, gF_5_12, gF_5_13, gF_3_0, gF_3_1, gF_3_2, gF_3_3, ln_add, nl_add, ln_mul, nl_mul, nI_add, nI_1, i32_nl, ite_not, lt_nn, lt_nl, lt_ln, eq_nn, eq_nl, eq_ln, if_true, if_false, kil_i, kil_r, kil_l, kil_u, rl_s, rl_n, Nat.zero_add, Nat.lt_irrefl, not_true_eq_false, not_false_eq_true, true_and, dp_1, dp_2, dp_3, dp_4, dp_5, dp_6, dp_7, dp_8, dp_9, dp_10, dp_11, dp_12, dp_13, dp_14, dp_15, dp_16, dp_17, dp_18, dp_19, dp_20, dp_21, dp_22, dp_23, dp_24, dp_25, dp_26, dp_27, dp_28, dp_29, dp_30, dp_31, dp_32, dp_33, dp_34, dp_35, dp_36, dp_37, dp_38, dp_39, U_hasGuest re, U_hasHouse re, zb_0, q1, Bool.false_eq_true]
    rw [e44]
    simp (disch := first | assumption | omega | decide | exact hX_o13 | exact hU_o | exact hX_o45 | exact hX_o47 | exact hX_o49 | exact hX_o54 | exact hU_o7 | exact hU_o9 | exact hU_o11 | exact hU_o13) only [t106_44, t106_45, t106_47, t106_50, t106_51, t106_53, hC_13, hC_45, hC_47, hC_49, hC_54, gF_6_0, gF_6_1, gF_6_2, gF_6_3, gF_6_4, gF_6_5, gF_6_6, gF_6_7, gF_6_8, gF_6_9, hU_0, hU_7, hU_9, hU_11, hU_13, gF_5_0, gF_5_1, gF_5_2, gF_5_3, gF_5_4, gF_5_5, gF_5_6, gF_5_7, gF_5_8, gF_5_9, gF_5_10, gF_5_11, gF_5_12, gF_5_13, gF_3_0, gF_3_1, gF_3_2, gF_3_3, ln_add, nl_add, ln_mul, nl_mul, nI_add, nI_1, i32_nl, ite_not, lt_nn, lt_nl, lt_ln, eq_nn, eq_nl, eq_ln, if_true, if_false, kil_i, kil_r, kil_l, kil_u, rl_s, rl_n, Nat.zero_add, Nat.lt_irrefl, not_true_eq_false, not_false_eq_true, true_and, dp_1, dp_2, dp_3, dp_4, dp_5, dp_6, dp_7, dp_8, dp_9, dp_10, dp_11, dp_12, dp_13, dp_14, dp_15, dp_16, dp_17, dp_18, dp_19, dp_20, dp_21, dp_22, dp_23, dp_24, dp_25, dp_26, dp_27, dp_28, dp_29, dp_30, dp_31, dp_32, dp_33, dp_34, dp_35, dp_36, dp_37, dp_38, dp_39, C_refB]
    exact kcR cb ri sm 0 k
end XE
