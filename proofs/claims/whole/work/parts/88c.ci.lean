/-! the class's public calls: sizes, tell -/
theorem wA_self {O : Nat → Nat → Int32} {a : Nat} : wA O a (O a) = O := by
  funext q; unfold wA; by_cases e : q = a
  · rw [if_pos e, e]
  · rw [if_neg e]
theorem fnd_spec {c : Nat → Bool} : ∀ n i, ((fnd (fun k (_ : Unit) => c k) (fun _ s => s) n i ()).1 = none ∧ ∀ k, i ≤ k → k < i + n → c k = false) ∨ ∃ k, (fnd (fun k (_ : Unit) => c k) (fun _ s => s) n i ()).1 = some k ∧ i ≤ k ∧ k < i + n ∧ c k = true ∧ ∀ j, i ≤ j → j < k → c j = false := by
  intro n
  induction n with
  | zero => intro i; exact Or.inl ⟨rfl, fun k h1 h2 => by omega⟩
  | succ n ih =>
    intro i
    unfold fnd
    cases q : c i with
    | true => rw [if_pos rfl]; exact Or.inr ⟨i, rfl, by omega, by omega, q, fun j h1 h2 => by omega⟩
    | false =>
      rw [if_neg (by decide)]
      rcases ih (i + 1) with ⟨h1, h2⟩ | ⟨k, h1, h2, h3, h4, h5⟩
      · refine Or.inl ⟨h1, fun k g1 g2 => ?_⟩
        by_cases z : k = i
        · rw [z]; exact q
        · exact h2 k (by omega) (by omega)
      · refine Or.inr ⟨k, h1, by omega, by omega, h4, fun j g1 g2 => ?_⟩
        by_cases z : j = i
        · rw [z]; exact q
        · exact h5 j (by omega) g2
def isLow (p : Nat → Bool) (x : Int32) : Prop := (x = -1 ∧ ∀ k, k < 30 → p k = false) ∨ ∃ k, k < 30 ∧ x = nI (1 + k) ∧ p k = true ∧ ∀ j, j < k → p j = false
def isHigh (p : Nat → Bool) (x : Int32) : Prop := (x = -1 ∧ ∀ k, k < 30 → p k = false) ∨ ∃ k, k < 30 ∧ x = nI (1 + k) ∧ p k = true ∧ ∀ j, k < j → j < 30 → p j = false
theorem isLow_u {p : Nat → Bool} {x y : Int32} (h1 : isLow p x) (h2 : isLow p y) : x = y := by
  rcases h1 with ⟨a, b⟩ | ⟨k, a, b, c, e⟩ <;> rcases h2 with ⟨a2, b2⟩ | ⟨k2, a2, b2, c2, e2⟩
  · rw [a, a2]
  · rw [b k2 a2] at c2; cases c2
  · rw [b2 k a] at c; cases c
  · have : k = k2 := by
      rcases Nat.lt_trichotomy k k2 with z | z | z
      · rw [e2 k z] at c; cases c
      · exact z
      · rw [e k2 z] at c2; cases c2
    rw [b, b2, this]
theorem isHigh_u {p : Nat → Bool} {x y : Int32} (h1 : isHigh p x) (h2 : isHigh p y) : x = y := by
  rcases h1 with ⟨a, b⟩ | ⟨k, a, b, c, e⟩ <;> rcases h2 with ⟨a2, b2⟩ | ⟨k2, a2, b2, c2, e2⟩
  · rw [a, a2]
  · rw [b k2 a2] at c2; cases c2
  · rw [b2 k a] at c; cases c
  · have : k = k2 := by
      rcases Nat.lt_trichotomy k k2 with z | z | z
      · rw [e k2 z a2] at c2; cases c2
      · exact z
      · rw [e2 k z a] at c; cases c
    rw [b, b2, this]
/-- the reference's three numbers -/
theorem szV_ok {R : Nat → Int32} {i sn : Nat} : (szV R i sn).1 = nI (cN30 (fun n => szB R i (nI (1 + n)) sn) 30) ∧ isLow (fun n => szB R i (nI (1 + n)) sn) (szV R i sn).2.1 ∧ isHigh (fun n => szB R i (nI (1 + n)) sn) (szV R i sn).2.2 := by
  have I := itr_inv (F := szF R i sn) (I := fun m s => m ≤ 30 → s.1 = nI (cN30 (fun n => szB R i (nI (1 + n)) sn) m) ∧ ((s.2.1 = -1 ∧ ∀ k, k < m → szB R i (nI (1 + k)) sn = false) ∨ ∃ k, k < m ∧ s.2.1 = nI (1 + k) ∧ szB R i (nI (1 + k)) sn = true ∧ ∀ j, j < k → szB R i (nI (1 + j)) sn = false) ∧ ((s.2.2 = -1 ∧ ∀ k, k < m → szB R i (nI (1 + k)) sn = false) ∨ ∃ k, k < m ∧ s.2.2 = nI (1 + k) ∧ szB R i (nI (1 + k)) sn = true ∧ ∀ j, k < j → j < m → szB R i (nI (1 + j)) sn = false)) 30 0 (0, -1, -1) (fun _ => ⟨rfl, Or.inl ⟨rfl, fun k hk => by omega⟩, Or.inl ⟨rfl, fun k hk => by omega⟩⟩) (fun m s _ hm ih _ => by
    obtain ⟨h1, h2, h3⟩ := ih (by omega)
    unfold szF
    simp only []
    cases q : szB R i (nI (1 + m)) sn with
    | true =>
      refine ⟨?_, ?_, ?_⟩
      · rw [h1]
        show nI _ + 1 = nI (cN30 _ m + bN (szB R i (nI (1 + m)) sn))
        rw [q, nI_1]; rfl
      · rcases h2 with ⟨a, b⟩ | ⟨k, a, b, c, e⟩
        · rw [if_pos ⟨rfl, a⟩]; exact Or.inr ⟨m, by omega, rfl, q, b⟩
        · rw [if_neg (fun z => nm1 (by omega) (b.symm.trans z.2))]; exact Or.inr ⟨k, by omega, b, c, e⟩
      · rw [if_pos rfl]; exact Or.inr ⟨m, by omega, rfl, q, fun j g1 g2 => by omega⟩
    | false =>
      refine ⟨?_, ?_, ?_⟩
      · rw [h1]
        show nI _ + 0 = nI (cN30 _ m + bN (szB R i (nI (1 + m)) sn))
        rw [q, Int32.add_zero]; rfl
      · rw [if_neg (fun z => by cases z.1)]
        rcases h2 with ⟨a, b⟩ | ⟨k, a, b, c, e⟩
        · refine Or.inl ⟨a, fun k hk => ?_⟩
          by_cases z : k = m
          · rw [z]; exact q
          · exact b k (by omega)
        · exact Or.inr ⟨k, by omega, b, c, e⟩
      · rw [if_neg (by decide)]
        rcases h3 with ⟨a, b⟩ | ⟨k, a, b, c, e⟩
        · refine Or.inl ⟨a, fun k hk => ?_⟩
          by_cases z : k = m
          · rw [z]; exact q
          · exact b k (by omega)
        · refine Or.inr ⟨k, by omega, b, c, fun j g1 g2 => ?_⟩
          by_cases z : j = m
          · rw [z]; exact q
          · exact e j g1 (by omega))
  exact I (by omega)
section W3
variable {d : Nat} {h : Hp} {Q : Pst} {ab be : Int32} {V : Nat → Int32} {O D : Nat → Nat → Int32} {R : Nat → Int32} {g hh sn nn mn un0 : Nat}
/-- what was seen keeps the size -/
theorem W_sizeFits {i z : Nat} (ri : RI R g hh sn nn mn un0) (sm : SM D R g hh sn nn mn un0) (hi : i < g) (hz : z ≤ 30) : T (d + 4) 7 0 [.ref 47, .ref 14, .int (nI i), .int (nI z), un, un, un] [] (hX h ab be V O D) Q ↔ Q (some (.int (zI (szB R i (nI z) sn)))) (hX h ab be V O D) := by
  have hu : D 7 0 = nI sn := sm.2.1.1.trans ri.2.2.1.1
  have h5 := ri.2.2.1.2
  have h4 := ri.2.1.2
  have re := sm.rl ri
  show _ ↔ Q (some (.int (zI (itr (fun r b => b && szC R i (nI z) r) sn 0 true)))) (hX h ab be V O D)
  rw [all_fnd]
  simp (disch := first | assumption | omega | decide | exact hX_o13 | exact hU_o | exact hX_o45 | exact hX_o47 | exact hX_o49 | exact hX_o54 | exact hU_o7 | exact hU_o9 | exact hU_o11 | exact hU_o13) only [t7_0, t7_1, t7_4, t7_6, t7_7, hC_13, hC_45, hC_47, hC_49, hC_54, gF_6_0, gF_6_1, gF_6_2, gF_6_3, gF_6_4, gF_6_5, gF_6_6, gF_6_7, gF_6_8, gF_6_9, hU_0, hU_7, hU_9, hU_11, hU_13, gF_5_0, gF_5_1, gF_5_2, gF_5_3, gF_5_4, gF_5_5, gF_5_6, gF_5_7, gF_5_8, gF_5_9, gF_5_10, gF_5_11, gF_5_12, gF_5_13, gF_3_0, gF_3_1, gF_3_2, gF_3_3, ln_add, nl_add, ln_mul, nl_mul, nI_add, nI_1, i32_nl, ite_not, lt_nn, lt_nl, lt_ln, eq_nn, eq_nl, eq_ln, if_true, if_false, kil_i, kil_r, kil_l, kil_u, rl_s, rl_n, Nat.zero_add, Nat.lt_irrefl, not_true_eq_false, not_false_eq_true, true_and, dp_1, dp_2, dp_3, dp_4, dp_5, dp_6, dp_7, dp_8, dp_9, dp_10, dp_11, dp_12, dp_13, dp_14, dp_15, dp_16, dp_17, dp_18, dp_19, dp_20, dp_21, dp_22, dp_23, dp_24, dp_25, dp_26, dp_27, dp_28, dp_29, dp_30, dp_31, dp_32, dp_33, dp_34, dp_35, dp_36, dp_37, dp_38, dp_39]
  have L := loop_f (P := fun r (_ : Unit) (u : Value) => T (d + 4) 7 9 [.ref 47, .ref 14, .int (nI i), .int (nI z), .ref (14 + 7), .int (nI r), u] [] (hX h ab be V O D) Q) (c := fun r _ => !szC R i (nI z) r) (F := fun _ s => s) (I := fun _ _ => True) (E := fun o _ => Q (some (.int (zI o.isNone))) (hX h ab be V O D)) (g := sn) ?_ ?_ ?_
  · exact L () un trivial
  · intro r _ u hr _ hc
    obtain ⟨-, ⟨j, hj, ej⟩, ⟨w, hw, ew⟩, -⟩ := ri.2.2.2.2.2.2.2.2.2.1 r hr
    have c0 : D 8 (r * 4 + 0) = R (35 + 4 * r) := by rw [sm.2.2.2.2.1 _ (by omega)]; congr 1; omega
    have c1 : D 8 (r * 4 + 1) = nI j := by rw [sm.2.2.2.2.1 _ (by omega), ← ej]; congr 1; omega
    have c2 : D 8 (r * 4 + 2) = nI w := by rw [sm.2.2.2.2.1 _ (by omega), ← ew]; congr 1; omega
    have c3 : D 8 (r * 4 + 3) = R (38 + 4 * r) := by rw [sm.2.2.2.2.1 _ (by omega)]; congr 1; omega
    have hc2 : szC R i (nI z) r = false := by cases q : szC R i (nI z) r <;> simp [q] at hc ⊢
    unfold szC at hc2
    rw [Bool.or_eq_false_iff, decide_eq_false_iff_not, decide_eq_false_iff_not, Classical.not_not, ej, ew, nI_clamp (by omega)] at hc2
    rw [t7_9]
    simp (disch := first | assumption | omega | decide | exact hX_o13 | exact hU_o | exact hX_o45 | exact hX_o47 | exact hX_o49 | exact hX_o54 | exact hU_o7 | exact hU_o9 | exact hU_o11 | exact hU_o13) only [t7_11, t7_13, t7_16, t7_19, t7_21, t7_23, t7_24, t7_27, t7_28, t7_31, t7_32, t7_35, t7_36, t7_38, t7_40, t7_43, t7_44, t7_45, t7_46, t7_48, t7_50, t7_51, t7_54, t7_56, t7_58, t7_59, t7_62, t7_65, t7_67, t7_69, t7_70, t7_73, t7_76, t7_77, hC_13, hC_45, hC_47, hC_49, hC_54, gF_6_0, gF_6_1, gF_6_2, gF_6_3, gF_6_4, gF_6_5, gF_6_6, gF_6_7, gF_6_8, gF_6_9, hU_0, hU_7, hU_9, hU_11, hU_13, gF_5_0, gF_5_1, gF_5_2, gF_5_3, gF_5_4, gF_5_5, gF_5_6, gF_5_7, gF_5_8, gF_5_9, gF_5_10, gF_5_11, gF_5_12, gF_5_13, gF_3_0, gF_3_1, gF_3_2, gF_3_3, ln_add, nl_add, ln_mul, nl_mul, nI_add, nI_1, i32_nl, ite_not, lt_nn, lt_nl, lt_ln, eq_nn, eq_nl, eq_ln, if_true, if_false, kil_i, kil_r, kil_l, kil_u, rl_s, rl_n, Nat.zero_add, Nat.lt_irrefl, not_true_eq_false, not_false_eq_true, true_and, dp_1, dp_2, dp_3, dp_4, dp_5, dp_6, dp_7, dp_8, dp_9, dp_10, dp_11, dp_12, dp_13, dp_14, dp_15, dp_16, dp_17, dp_18, dp_19, dp_20, dp_21, dp_22, dp_23, dp_24, dp_25, dp_26, dp_27, dp_28, dp_29, dp_30, dp_31, dp_32, dp_33, dp_34, dp_35, dp_36, dp_37, dp_38, dp_39, hu, hr, Cl_7 (b := 14) (show r < 5 by omega) (show 0 < 4 by decide), Cl_7 (b := 14) (show r < 5 by omega) (show 1 < 4 by decide), Cl_7 (b := 14) (show r < 5 by omega) (show 2 < 4 by decide), Cl_7 (b := 14) (show r < 5 by omega) (show 3 < 4 by decide), c0, c1, c2, c3, hc2.1, hc2.2, z10, U_stayCountBySize re hi hj ⟨z, hz, rfl⟩ ⟨w, hw, rfl⟩, nar_0, zF, Option.isNone]
  · intro r _ u hr _ hc
    refine ⟨trivial, .int (if R (35 + 4 * r) = nI i then 1 else 0), ?_⟩
    obtain ⟨-, ⟨j, hj, ej⟩, ⟨w, hw, ew⟩, -⟩ := ri.2.2.2.2.2.2.2.2.2.1 r hr
    have c0 : D 8 (r * 4 + 0) = R (35 + 4 * r) := by rw [sm.2.2.2.2.1 _ (by omega)]; congr 1; omega
    have c1 : D 8 (r * 4 + 1) = nI j := by rw [sm.2.2.2.2.1 _ (by omega), ← ej]; congr 1; omega
    have c2 : D 8 (r * 4 + 2) = nI w := by rw [sm.2.2.2.2.1 _ (by omega), ← ew]; congr 1; omega
    have c3 : D 8 (r * 4 + 3) = R (38 + 4 * r) := by rw [sm.2.2.2.2.1 _ (by omega)]; congr 1; omega
    have hc2 : szC R i (nI z) r = true := by cases q : szC R i (nI z) r <;> simp [q] at hc ⊢
    unfold szC at hc2
    rw [Bool.or_eq_true, decide_eq_true_iff, decide_eq_true_iff, ej, ew, nI_clamp (by omega)] at hc2
    rw [t7_9]
    by_cases q : R (35 + 4 * r) = nI i
    · have q2 := hc2.resolve_left (fun z => z q)
      simp (disch := first | assumption | omega | decide | exact hX_o13 | exact hU_o | exact hX_o45 | exact hX_o47 | exact hX_o49 | exact hX_o54 | exact hU_o7 | exact hU_o9 | exact hU_o11 | exact hU_o13) only [t7_11, t7_13, t7_16, t7_19, t7_21, t7_23, t7_24, t7_27, t7_28, t7_31, t7_32, t7_35, t7_36, t7_38, t7_40, t7_43, t7_44, t7_45, t7_46, t7_48, t7_50, t7_51, t7_54, t7_56, t7_58, t7_59, t7_62, t7_65, t7_67, t7_69, t7_70, t7_73, t7_76, t7_77, t7_78, t7_81, hC_13, hC_45, hC_47, hC_49, hC_54, gF_6_0, gF_6_1, gF_6_2, gF_6_3, gF_6_4, gF_6_5, gF_6_6, gF_6_7, gF_6_8, gF_6_9, hU_0, hU_7, hU_9, hU_11, hU_13, gF_5_0, gF_5_1, gF_5_2, gF_5_3, gF_5_4, gF_5_5, gF_5_6, gF_5_7, gF_5_8, gF_5_9, gF_5_10, gF_5_11, gF_5_12, gF_5_13, gF_3_0, gF_3_1, gF_3_2, gF_3_3, ln_add, nl_add, ln_mul, nl_mul, nI_add, nI_1, i32_nl, ite_not, lt_nn, lt_nl, lt_ln, eq_nn, eq_nl, eq_ln, if_true, if_false, kil_i, kil_r, kil_l, kil_u, rl_s, rl_n, Nat.zero_add, Nat.lt_irrefl, not_true_eq_false, not_false_eq_true, true_and, dp_1, dp_2, dp_3, dp_4, dp_5, dp_6, dp_7, dp_8, dp_9, dp_10, dp_11, dp_12, dp_13, dp_14, dp_15, dp_16, dp_17, dp_18, dp_19, dp_20, dp_21, dp_22, dp_23, dp_24, dp_25, dp_26, dp_27, dp_28, dp_29, dp_30, dp_31, dp_32, dp_33, dp_34, dp_35, dp_36, dp_37, dp_38, dp_39, hu, hr, Cl_7 (b := 14) (show r < 5 by omega) (show 0 < 4 by decide), Cl_7 (b := 14) (show r < 5 by omega) (show 1 < 4 by decide), Cl_7 (b := 14) (show r < 5 by omega) (show 2 < 4 by decide), Cl_7 (b := 14) (show r < 5 by omega) (show 3 < 4 by decide), c0, c1, c2, c3, q, q2, z10, U_stayCountBySize re hi hj ⟨z, hz, rfl⟩ ⟨w, hw, rfl⟩]
    · simp (disch := first | assumption | omega | decide | exact hX_o13 | exact hU_o | exact hX_o45 | exact hX_o47 | exact hX_o49 | exact hX_o54 | exact hU_o7 | exact hU_o9 | exact hU_o11 | exact hU_o13) only [t7_11, t7_13, t7_16, t7_19, t7_21, t7_23, t7_24, t7_27, t7_28, t7_31, t7_32, t7_35, t7_36, t7_38, t7_40, t7_43, t7_44, t7_45, t7_46, t7_48, t7_50, t7_51, t7_54, t7_56, t7_58, t7_59, t7_62, t7_65, t7_67, t7_69, t7_70, t7_73, t7_76, t7_77, t7_78, t7_81, hC_13, hC_45, hC_47, hC_49, hC_54, gF_6_0, gF_6_1, gF_6_2, gF_6_3, gF_6_4, gF_6_5, gF_6_6, gF_6_7, gF_6_8, gF_6_9, hU_0, hU_7, hU_9, hU_11, hU_13, gF_5_0, gF_5_1, gF_5_2, gF_5_3, gF_5_4, gF_5_5, gF_5_6, gF_5_7, gF_5_8, gF_5_9, gF_5_10, gF_5_11, gF_5_12, gF_5_13, gF_3_0, gF_3_1, gF_3_2, gF_3_3, ln_add, nl_add, ln_mul, nl_mul, nI_add, nI_1, i32_nl, ite_not, lt_nn, lt_nl, lt_ln, eq_nn, eq_nl, eq_ln, if_true, if_false, kil_i, kil_r, kil_l, kil_u, rl_s, rl_n, Nat.zero_add, Nat.lt_irrefl, not_true_eq_false, not_false_eq_true, true_and, dp_1, dp_2, dp_3, dp_4, dp_5, dp_6, dp_7, dp_8, dp_9, dp_10, dp_11, dp_12, dp_13, dp_14, dp_15, dp_16, dp_17, dp_18, dp_19, dp_20, dp_21, dp_22, dp_23, dp_24, dp_25, dp_26, dp_27, dp_28, dp_29, dp_30, dp_31, dp_32, dp_33, dp_34, dp_35, dp_36, dp_37, dp_38, dp_39, hu, hr, Cl_7 (b := 14) (show r < 5 by omega) (show 0 < 4 by decide), c0, q]
  · intro _ u _
    rw [t7_9]
    simp (disch := first | assumption | omega | decide | exact hX_o13 | exact hU_o | exact hX_o45 | exact hX_o47 | exact hX_o49 | exact hX_o54 | exact hU_o7 | exact hU_o9 | exact hU_o11 | exact hU_o13) only [t7_11, t7_13, t7_16, t7_84, t7_85, hC_13, hC_45, hC_47, hC_49, hC_54, gF_6_0, gF_6_1, gF_6_2, gF_6_3, gF_6_4, gF_6_5, gF_6_6, gF_6_7, gF_6_8, gF_6_9, hU_0, hU_7, hU_9, hU_11, hU_13, gF_5_0, gF_5_1, gF_5_2, gF_5_3, gF_5_4, gF_5_5, gF_5_6, gF_5_7, gF_5_8, gF_5_9, gF_5_10, gF_5_11, gF_5_12, gF_5_13, gF_3_0, gF_3_1, gF_3_2, gF_3_3, ln_add, nl_add, ln_mul, nl_mul, nI_add, nI_1, i32_nl, ite_not, lt_nn, lt_nl, lt_ln, eq_nn, eq_nl, eq_ln, if_true, if_false, kil_i, kil_r, kil_l, kil_u, rl_s, rl_n, Nat.zero_add, Nat.lt_irrefl, not_true_eq_false, not_false_eq_true, true_and, dp_1, dp_2, dp_3, dp_4, dp_5, dp_6, dp_7, dp_8, dp_9, dp_10, dp_11, dp_12, dp_13, dp_14, dp_15, dp_16, dp_17, dp_18, dp_19, dp_20, dp_21, dp_22, dp_23, dp_24, dp_25, dp_26, dp_27, dp_28, dp_29, dp_30, dp_31, dp_32, dp_33, dp_34, dp_35, dp_36, dp_37, dp_38, dp_39, hu, nar_1, zT, Option.isNone]
theorem W_sizeBits {i : Nat} (ri : RI R g hh sn nn mn un0) (sm : SM D R g hh sn nn mn un0) (hi : i < g) : T (d + 5) 6 0 [.ref 47, .ref 14, .int (nI i), un, un] [] (hX h ab be V O D) Q ↔ Q (some (.int (nI (vB (fun n => szB R i (nI (1 + n)) sn) 30)))) (hX h ab be V O D) := by
  have h6 := ri.1.2
  have e := sb_v (fun n => szB R i (nI (1 + n)) sn) 30 0 (by omega)
  rw [Nat.zero_add] at e
  rw [← e]
  simp (disch := first | assumption | omega | decide | exact hX_o13 | exact hU_o | exact hX_o45 | exact hX_o47 | exact hX_o49 | exact hX_o54 | exact hU_o7 | exact hU_o9 | exact hU_o11 | exact hU_o13) only [t6_0, t6_1, t6_2, t6_3, hC_13, hC_45, hC_47, hC_49, hC_54, gF_6_0, gF_6_1, gF_6_2, gF_6_3, gF_6_4, gF_6_5, gF_6_6, gF_6_7, gF_6_8, gF_6_9, hU_0, hU_7, hU_9, hU_11, hU_13, gF_5_0, gF_5_1, gF_5_2, gF_5_3, gF_5_4, gF_5_5, gF_5_6, gF_5_7, gF_5_8, gF_5_9, gF_5_10, gF_5_11, gF_5_12, gF_5_13, gF_3_0, gF_3_1, gF_3_2, gF_3_3, ln_add, nl_add, ln_mul, nl_mul, nI_add, nI_1, i32_nl, ite_not, lt_nn, lt_nl, lt_ln, eq_nn, eq_nl, eq_ln, if_true, if_false, kil_i, kil_r, kil_l, kil_u, rl_s, rl_n, Nat.zero_add, Nat.lt_irrefl, not_true_eq_false, not_false_eq_true, true_and, dp_1, dp_2, dp_3, dp_4, dp_5, dp_6, dp_7, dp_8, dp_9, dp_10, dp_11, dp_12, dp_13, dp_14, dp_15, dp_16, dp_17, dp_18, dp_19, dp_20, dp_21, dp_22, dp_23, dp_24, dp_25, dp_26, dp_27, dp_28, dp_29, dp_30, dp_31, dp_32, dp_33, dp_34, dp_35, dp_36, dp_37, dp_38, dp_39]
  have L := loop_d (P := fun n (s : Int32) (_ : Unit) => T (d + 5) 6 5 [.ref 47, .ref 14, .int (nI i), .int s, .int (nI (1 + n))] [] (hX h ab be V O D) Q) (F := sbF1 (fun n => szB R i (nI (1 + n)) sn)) (E := fun s => Q (some (.int s)) (hX h ab be V O D)) (g := 30) ?_ ?_
  · exact L (nI (vB (fun n => szB R i (nI (1 + n)) sn) 0)) ()
  · intro n s _ hn
    refine ⟨(), ?_⟩
    rw [t6_5, show 1 + (n + 1) = 1 + n + 1 by omega]
    unfold sbF1
    cases q : szB R i (nI (1 + n)) sn with
    | true => simp (disch := first | assumption | omega | decide | exact hX_o13 | exact hU_o | exact hX_o45 | exact hX_o47 | exact hX_o49 | exact hX_o54 | exact hU_o7 | exact hU_o9 | exact hU_o11 | exact hU_o13) only [t6_7, t6_9, t6_12, t6_13, t6_14, t6_15, t6_17, t6_20, t6_23, t6_24, t6_25, t6_27, t6_28, t6_29, t6_30, t6_33, hC_13, hC_45, hC_47, hC_49, hC_54, gF_6_0, gF_6_1, gF_6_2, gF_6_3, gF_6_4, gF_6_5, gF_6_6, gF_6_7, gF_6_8, gF_6_9, hU_0, hU_7, hU_9, hU_11, hU_13, gF_5_0, gF_5_1, gF_5_2, gF_5_3, gF_5_4, gF_5_5, gF_5_6, gF_5_7, gF_5_8, gF_5_9, gF_5_10, gF_5_11, gF_5_12, gF_5_13, gF_3_0, gF_3_1, gF_3_2, gF_3_3, ln_add, nl_add, ln_mul, nl_mul, nI_add, nI_1, i32_nl, ite_not, lt_nn, lt_nl, lt_ln, eq_nn, eq_nl, eq_ln, if_true, if_false, kil_i, kil_r, kil_l, kil_u, rl_s, rl_n, Nat.zero_add, Nat.lt_irrefl, not_true_eq_false, not_false_eq_true, true_and, dp_1, dp_2, dp_3, dp_4, dp_5, dp_6, dp_7, dp_8, dp_9, dp_10, dp_11, dp_12, dp_13, dp_14, dp_15, dp_16, dp_17, dp_18, dp_19, dp_20, dp_21, dp_22, dp_23, dp_24, dp_25, dp_26, dp_27, dp_28, dp_29, dp_30, dp_31, dp_32, dp_33, dp_34, dp_35, dp_36, dp_37, dp_38, dp_39, show ¬ 30 < 1 + n by omega, W_sizeFits ri sm hi (show 1 + n ≤ 30 by omega), q, zI, z10]
    | false => simp (disch := first | assumption | omega | decide | exact hX_o13 | exact hU_o | exact hX_o45 | exact hX_o47 | exact hX_o49 | exact hX_o54 | exact hU_o7 | exact hU_o9 | exact hU_o11 | exact hU_o13) only [t6_7, t6_9, t6_12, t6_13, t6_14, t6_15, t6_17, t6_20, t6_23, t6_24, t6_25, t6_27, t6_28, t6_29, t6_30, t6_33, hC_13, hC_45, hC_47, hC_49, hC_54, gF_6_0, gF_6_1, gF_6_2, gF_6_3, gF_6_4, gF_6_5, gF_6_6, gF_6_7, gF_6_8, gF_6_9, hU_0, hU_7, hU_9, hU_11, hU_13, gF_5_0, gF_5_1, gF_5_2, gF_5_3, gF_5_4, gF_5_5, gF_5_6, gF_5_7, gF_5_8, gF_5_9, gF_5_10, gF_5_11, gF_5_12, gF_5_13, gF_3_0, gF_3_1, gF_3_2, gF_3_3, ln_add, nl_add, ln_mul, nl_mul, nI_add, nI_1, i32_nl, ite_not, lt_nn, lt_nl, lt_ln, eq_nn, eq_nl, eq_ln, if_true, if_false, kil_i, kil_r, kil_l, kil_u, rl_s, rl_n, Nat.zero_add, Nat.lt_irrefl, not_true_eq_false, not_false_eq_true, true_and, dp_1, dp_2, dp_3, dp_4, dp_5, dp_6, dp_7, dp_8, dp_9, dp_10, dp_11, dp_12, dp_13, dp_14, dp_15, dp_16, dp_17, dp_18, dp_19, dp_20, dp_21, dp_22, dp_23, dp_24, dp_25, dp_26, dp_27, dp_28, dp_29, dp_30, dp_31, dp_32, dp_33, dp_34, dp_35, dp_36, dp_37, dp_38, dp_39, show ¬ 30 < 1 + n by omega, W_sizeFits ri sm hi (show 1 + n ≤ 30 by omega), q, zI, Bool.false_eq_true]
  · intro s _
    rw [t6_5]
    simp (disch := first | assumption | omega | decide | exact hX_o13 | exact hU_o | exact hX_o45 | exact hX_o47 | exact hX_o49 | exact hX_o54 | exact hU_o7 | exact hU_o9 | exact hU_o11 | exact hU_o13) only [t6_7, t6_9, t6_36, t6_37, hC_13, hC_45, hC_47, hC_49, hC_54, gF_6_0, gF_6_1, gF_6_2, gF_6_3, gF_6_4, gF_6_5, gF_6_6, gF_6_7, gF_6_8, gF_6_9, hU_0, hU_7, hU_9, hU_11, hU_13, gF_5_0, gF_5_1, gF_5_2, gF_5_3, gF_5_4, gF_5_5, gF_5_6, gF_5_7, gF_5_8, gF_5_9, gF_5_10, gF_5_11, gF_5_12, gF_5_13, gF_3_0, gF_3_1, gF_3_2, gF_3_3, ln_add, nl_add, ln_mul, nl_mul, nI_add, nI_1, i32_nl, ite_not, lt_nn, lt_nl, lt_ln, eq_nn, eq_nl, eq_ln, if_true, if_false, kil_i, kil_r, kil_l, kil_u, rl_s, rl_n, Nat.zero_add, Nat.lt_irrefl, not_true_eq_false, not_false_eq_true, true_and, dp_1, dp_2, dp_3, dp_4, dp_5, dp_6, dp_7, dp_8, dp_9, dp_10, dp_11, dp_12, dp_13, dp_14, dp_15, dp_16, dp_17, dp_18, dp_19, dp_20, dp_21, dp_22, dp_23, dp_24, dp_25, dp_26, dp_27, dp_28, dp_29, dp_30, dp_31, dp_32, dp_33, dp_34, dp_35, dp_36, dp_37, dp_38, dp_39, show 30 < 1 + 30 by decide]
theorem W_low {p : Nat → Bool} {h : Hp} (k : ∀ x, isLow p x → Q (some (.int x)) h) : T (d + 1) 120 0 [.int (nI (vB p 30)), un] [] h Q := by
  have hv := vB_lt p 30
  simp (disch := first | assumption | omega | decide | exact hX_o13 | exact hU_o | exact hX_o45 | exact hX_o47 | exact hX_o49 | exact hX_o54 | exact hU_o7 | exact hU_o9 | exact hU_o11 | exact hU_o13) only [t120_0, t120_1, hC_13, hC_45, hC_47, hC_49, hC_54, gF_6_0, gF_6_1, gF_6_2, gF_6_3, gF_6_4, gF_6_5, gF_6_6, gF_6_7, gF_6_8, gF_6_9, hU_0, hU_7, hU_9, hU_11, hU_13, gF_5_0, gF_5_1, gF_5_2, gF_5_3, gF_5_4, gF_5_5, gF_5_6, gF_5_7, gF_5_8, gF_5_9, gF_5_10, gF_5_11, gF_5_12, gF_5_13, gF_3_0, gF_3_1, gF_3_2, gF_3_3, ln_add, nl_add, ln_mul, nl_mul, nI_add, nI_1, i32_nl, ite_not, lt_nn, lt_nl, lt_ln, eq_nn, eq_nl, eq_ln, if_true, if_false, kil_i, kil_r, kil_l, kil_u, rl_s, rl_n, Nat.zero_add, Nat.lt_irrefl, not_true_eq_false, not_false_eq_true, true_and, dp_1, dp_2, dp_3, dp_4, dp_5, dp_6, dp_7, dp_8, dp_9, dp_10, dp_11, dp_12, dp_13, dp_14, dp_15, dp_16, dp_17, dp_18, dp_19, dp_20, dp_21, dp_22, dp_23, dp_24, dp_25, dp_26, dp_27, dp_28, dp_29, dp_30, dp_31, dp_32, dp_33, dp_34, dp_35, dp_36, dp_37, dp_38, dp_39]
  have L := loop_f (P := fun m (_ : Unit) (_ : Unit) => T (d + 1) 120 2 [.int (nI (vB p 30)), .int (nI m)] [] h Q) (c := fun m _ => decide (vB p 30 / 2 ^ m % 2 = 1)) (F := fun _ s => s) (I := fun _ _ => True) (E := fun o _ => Q (some (.int (match o with | some m => nI m | none => -1))) h) (g := 31) ?_ ?_ ?_
  · refine (L () () trivial).2 (k _ ?_)
    have hb : ∀ m, m < 30 → (decide (vB p 30 / 2 ^ (1 + m) % 2 = 1) = p m) := fun m hm => by
      rw [show 1 + m = m + 1 by omega, vB_bit p 30 m hm]
      cases p m <;> rfl
    rcases fnd_spec (c := fun m => decide (vB p 30 / 2 ^ m % 2 = 1)) 31 0 with ⟨h1, h2⟩ | ⟨m, h1, h2, h3, h4, h5⟩
    · rw [h1]
      exact Or.inl ⟨rfl, fun j hj => by rw [← hb j hj]; exact h2 (1 + j) (by omega) (by omega)⟩
    · rw [h1]
      have hm0 : m ≠ 0 := by
        intro z
        rw [z, Nat.pow_zero, Nat.div_one, vB_0] at h4
        exact absurd h4 (by decide)
      refine Or.inr ⟨m - 1, by omega, by show nI m = nI (1 + (m - 1)); congr 1; omega, ?_, fun j hj => ?_⟩
      · rw [← hb (m - 1) (by omega), show 1 + (m - 1) = m by omega]; exact h4
      · rw [← hb j (by omega)]; exact h5 (1 + j) (by omega) (by omega)
  · intro m _ _ hm _ hc
    have hc2 := of_decide_eq_true hc
    rw [t120_2]
    simp (disch := first | assumption | omega | decide | exact hX_o13 | exact hU_o | exact hX_o45 | exact hX_o47 | exact hX_o49 | exact hX_o54 | exact hU_o7 | exact hU_o9 | exact hU_o11 | exact hU_o13) only [t120_3, t120_5, t120_8, t120_9, t120_10, t120_13, t120_16, t120_17, hC_13, hC_45, hC_47, hC_49, hC_54, gF_6_0, gF_6_1, gF_6_2, gF_6_3, gF_6_4, gF_6_5, gF_6_6, gF_6_7, gF_6_8, gF_6_9, hU_0, hU_7, hU_9, hU_11, hU_13, gF_5_0, gF_5_1, gF_5_2, gF_5_3, gF_5_4, gF_5_5, gF_5_6, gF_5_7, gF_5_8, gF_5_9, gF_5_10, gF_5_11, gF_5_12, gF_5_13, gF_3_0, gF_3_1, gF_3_2, gF_3_3, ln_add, nl_add, ln_mul, nl_mul, nI_add, nI_1, i32_nl, ite_not, lt_nn, lt_nl, lt_ln, eq_nn, eq_nl, eq_ln, if_true, if_false, kil_i, kil_r, kil_l, kil_u, rl_s, rl_n, Nat.zero_add, Nat.lt_irrefl, not_true_eq_false, not_false_eq_true, true_and, dp_1, dp_2, dp_3, dp_4, dp_5, dp_6, dp_7, dp_8, dp_9, dp_10, dp_11, dp_12, dp_13, dp_14, dp_15, dp_16, dp_17, dp_18, dp_19, dp_20, dp_21, dp_22, dp_23, dp_24, dp_25, dp_26, dp_27, dp_28, dp_29, dp_30, dp_31, dp_32, dp_33, dp_34, dp_35, dp_36, dp_37, dp_38, dp_39, show ¬ 30 < m by omega, E_hasBit, hb_n (show vB p 30 < 2 ^ 31 from hv) (show m < 32 by omega), hc2, show ¬ 1 = 0 by decide]
  · intro m _ _ hm _ hc
    refine ⟨trivial, (), ?_⟩
    have hc2 : vB p 30 / 2 ^ m % 2 = 0 := by
      have : ¬ vB p 30 / 2 ^ m % 2 = 1 := fun z => hc (decide_eq_true z)
      omega
    rw [t120_2]
    simp (disch := first | assumption | omega | decide | exact hX_o13 | exact hU_o | exact hX_o45 | exact hX_o47 | exact hX_o49 | exact hX_o54 | exact hU_o7 | exact hU_o9 | exact hU_o11 | exact hU_o13) only [t120_3, t120_5, t120_8, t120_9, t120_10, t120_13, t120_16, t120_17, t120_18, t120_21, hC_13, hC_45, hC_47, hC_49, hC_54, gF_6_0, gF_6_1, gF_6_2, gF_6_3, gF_6_4, gF_6_5, gF_6_6, gF_6_7, gF_6_8, gF_6_9, hU_0, hU_7, hU_9, hU_11, hU_13, gF_5_0, gF_5_1, gF_5_2, gF_5_3, gF_5_4, gF_5_5, gF_5_6, gF_5_7, gF_5_8, gF_5_9, gF_5_10, gF_5_11, gF_5_12, gF_5_13, gF_3_0, gF_3_1, gF_3_2, gF_3_3, ln_add, nl_add, ln_mul, nl_mul, nI_add, nI_1, i32_nl, ite_not, lt_nn, lt_nl, lt_ln, eq_nn, eq_nl, eq_ln, if_true, if_false, kil_i, kil_r, kil_l, kil_u, rl_s, rl_n, Nat.zero_add, Nat.lt_irrefl, not_true_eq_false, not_false_eq_true, true_and, dp_1, dp_2, dp_3, dp_4, dp_5, dp_6, dp_7, dp_8, dp_9, dp_10, dp_11, dp_12, dp_13, dp_14, dp_15, dp_16, dp_17, dp_18, dp_19, dp_20, dp_21, dp_22, dp_23, dp_24, dp_25, dp_26, dp_27, dp_28, dp_29, dp_30, dp_31, dp_32, dp_33, dp_34, dp_35, dp_36, dp_37, dp_38, dp_39, show ¬ 30 < m by omega, E_hasBit, hb_n (show vB p 30 < 2 ^ 31 from hv) (show m < 32 by omega), hc2]
  · intro _ _ _
    rw [t120_2]
    simp (disch := first | assumption | omega | decide | exact hX_o13 | exact hU_o | exact hX_o45 | exact hX_o47 | exact hX_o49 | exact hX_o54 | exact hU_o7 | exact hU_o9 | exact hU_o11 | exact hU_o13) only [t120_3, t120_5, t120_24, t120_25, hC_13, hC_45, hC_47, hC_49, hC_54, gF_6_0, gF_6_1, gF_6_2, gF_6_3, gF_6_4, gF_6_5, gF_6_6, gF_6_7, gF_6_8, gF_6_9, hU_0, hU_7, hU_9, hU_11, hU_13, gF_5_0, gF_5_1, gF_5_2, gF_5_3, gF_5_4, gF_5_5, gF_5_6, gF_5_7, gF_5_8, gF_5_9, gF_5_10, gF_5_11, gF_5_12, gF_5_13, gF_3_0, gF_3_1, gF_3_2, gF_3_3, ln_add, nl_add, ln_mul, nl_mul, nI_add, nI_1, i32_nl, ite_not, lt_nn, lt_nl, lt_ln, eq_nn, eq_nl, eq_ln, if_true, if_false, kil_i, kil_r, kil_l, kil_u, rl_s, rl_n, Nat.zero_add, Nat.lt_irrefl, not_true_eq_false, not_false_eq_true, true_and, dp_1, dp_2, dp_3, dp_4, dp_5, dp_6, dp_7, dp_8, dp_9, dp_10, dp_11, dp_12, dp_13, dp_14, dp_15, dp_16, dp_17, dp_18, dp_19, dp_20, dp_21, dp_22, dp_23, dp_24, dp_25, dp_26, dp_27, dp_28, dp_29, dp_30, dp_31, dp_32, dp_33, dp_34, dp_35, dp_36, dp_37, dp_38, dp_39, show 30 < 31 by decide]
theorem W_high {p : Nat → Bool} {h : Hp} (k : ∀ x, isHigh p x → Q (some (.int x)) h) : T (d + 1) 121 0 [.int (nI (vB p 30)), un] [] h Q := by
  have hv := vB_lt p 30
  simp (disch := first | assumption | omega | decide | exact hX_o13 | exact hU_o | exact hX_o45 | exact hX_o47 | exact hX_o49 | exact hX_o54 | exact hU_o7 | exact hU_o9 | exact hU_o11 | exact hU_o13) only [t121_0, t121_2, hC_13, hC_45, hC_47, hC_49, hC_54, gF_6_0, gF_6_1, gF_6_2, gF_6_3, gF_6_4, gF_6_5, gF_6_6, gF_6_7, gF_6_8, gF_6_9, hU_0, hU_7, hU_9, hU_11, hU_13, gF_5_0, gF_5_1, gF_5_2, gF_5_3, gF_5_4, gF_5_5, gF_5_6, gF_5_7, gF_5_8, gF_5_9, gF_5_10, gF_5_11, gF_5_12, gF_5_13, gF_3_0, gF_3_1, gF_3_2, gF_3_3, ln_add, nl_add, ln_mul, nl_mul, nI_add, nI_1, i32_nl, ite_not, lt_nn, lt_nl, lt_ln, eq_nn, eq_nl, eq_ln, if_true, if_false, kil_i, kil_r, kil_l, kil_u, rl_s, rl_n, Nat.zero_add, Nat.lt_irrefl, not_true_eq_false, not_false_eq_true, true_and, dp_1, dp_2, dp_3, dp_4, dp_5, dp_6, dp_7, dp_8, dp_9, dp_10, dp_11, dp_12, dp_13, dp_14, dp_15, dp_16, dp_17, dp_18, dp_19, dp_20, dp_21, dp_22, dp_23, dp_24, dp_25, dp_26, dp_27, dp_28, dp_29, dp_30, dp_31, dp_32, dp_33, dp_34, dp_35, dp_36, dp_37, dp_38, dp_39]
  have L := loop_f (P := fun m (_ : Unit) (_ : Unit) => T (d + 1) 121 3 [.int (nI (vB p 30)), .int (nI 31 - nI (m + 1))] [] h Q) (c := fun m _ => decide (vB p 30 / 2 ^ (30 - m) % 2 = 1)) (F := fun _ s => s) (I := fun _ _ => True) (E := fun o _ => Q (some (.int (match o with | some m => nI (30 - m) | none => -1))) h) (g := 31) ?_ ?_ ?_
  · refine (L () () trivial).2 (k _ ?_)
    have hb : ∀ m, m < 30 → (decide (vB p 30 / 2 ^ (1 + m) % 2 = 1) = p m) := fun m hm => by
      rw [show 1 + m = m + 1 by omega, vB_bit p 30 m hm]
      cases p m <;> rfl
    rcases fnd_spec (c := fun m => decide (vB p 30 / 2 ^ (30 - m) % 2 = 1)) 31 0 with ⟨h1, h2⟩ | ⟨m, h1, h2, h3, h4, h5⟩
    · rw [h1]
      refine Or.inl ⟨rfl, fun j hj => ?_⟩
      have := h2 (29 - j) (by omega) (by omega)
      rw [← hb j hj]
      simp only [show 30 - (29 - j) = 1 + j by omega] at this
      exact this
    · rw [h1]
      have hm0 : m ≠ 30 := by
        intro z
        rw [z, show 30 - 30 = 0 from rfl, Nat.pow_zero, Nat.div_one, vB_0] at h4
        exact absurd h4 (by decide)
      refine Or.inr ⟨29 - m, by omega, by show nI (30 - m) = nI (1 + (29 - m)); congr 1; omega, ?_, fun j hj hj2 => ?_⟩
      · rw [← hb (29 - m) (by omega), show 1 + (29 - m) = 30 - m by omega]; exact h4
      · rw [← hb j (by omega)]
        have := h5 (29 - j) (by omega) (by omega)
        simp only [show 30 - (29 - j) = 1 + j by omega] at this
        exact this
  · intro m _ _ hm _ hc
    have hc2 := of_decide_eq_true hc
    have e : nI 31 - nI (m + 1) = nI (30 - m) := by rw [pk_sub (by omega)]; congr 1; omega
    rw [e, t121_3]
    simp (disch := first | assumption | omega | decide | exact hX_o13 | exact hU_o | exact hX_o45 | exact hX_o47 | exact hX_o49 | exact hX_o54 | exact hU_o7 | exact hU_o9 | exact hU_o11 | exact hU_o13) only [t121_4, t121_7, t121_8, t121_9, t121_12, t121_15, t121_16, hC_13, hC_45, hC_47, hC_49, hC_54, gF_6_0, gF_6_1, gF_6_2, gF_6_3, gF_6_4, gF_6_5, gF_6_6, gF_6_7, gF_6_8, gF_6_9, hU_0, hU_7, hU_9, hU_11, hU_13, gF_5_0, gF_5_1, gF_5_2, gF_5_3, gF_5_4, gF_5_5, gF_5_6, gF_5_7, gF_5_8, gF_5_9, gF_5_10, gF_5_11, gF_5_12, gF_5_13, gF_3_0, gF_3_1, gF_3_2, gF_3_3, ln_add, nl_add, ln_mul, nl_mul, nI_add, nI_1, i32_nl, ite_not, lt_nn, lt_nl, lt_ln, eq_nn, eq_nl, eq_ln, if_true, if_false, kil_i, kil_r, kil_l, kil_u, rl_s, rl_n, Nat.zero_add, Nat.lt_irrefl, not_true_eq_false, not_false_eq_true, true_and, dp_1, dp_2, dp_3, dp_4, dp_5, dp_6, dp_7, dp_8, dp_9, dp_10, dp_11, dp_12, dp_13, dp_14, dp_15, dp_16, dp_17, dp_18, dp_19, dp_20, dp_21, dp_22, dp_23, dp_24, dp_25, dp_26, dp_27, dp_28, dp_29, dp_30, dp_31, dp_32, dp_33, dp_34, dp_35, dp_36, dp_37, dp_38, dp_39, Nat.not_lt_zero, E_hasBit, hb_n (show vB p 30 < 2 ^ 31 from hv) (show 30 - m < 32 by omega), hc2, show ¬ 1 = 0 by decide]
  · intro m _ _ hm _ hc
    refine ⟨trivial, (), ?_⟩
    have hc2 : vB p 30 / 2 ^ (30 - m) % 2 = 0 := by
      have : ¬ vB p 30 / 2 ^ (30 - m) % 2 = 1 := fun z => hc (decide_eq_true z)
      omega
    have e : nI 31 - nI (m + 1) = nI (30 - m) := by rw [pk_sub (by omega)]; congr 1; omega
    have e2 : nI (30 - m) + (-1) = nI 31 - nI (m + 1 + 1) := by
      by_cases z : m = 30
      · subst z; rfl
      · rw [pk_sub (by omega), show 30 - m = (31 - (m + 1 + 1)) + 1 by omega]; exact pk_m1 _
    rw [e, t121_3]
    simp (disch := first | assumption | omega | decide | exact hX_o13 | exact hU_o | exact hX_o45 | exact hX_o47 | exact hX_o49 | exact hX_o54 | exact hU_o7 | exact hU_o9 | exact hU_o11 | exact hU_o13) only [t121_4, t121_7, t121_8, t121_9, t121_12, t121_15, t121_16, t121_17, t121_20, hC_13, hC_45, hC_47, hC_49, hC_54, gF_6_0, gF_6_1, gF_6_2, gF_6_3, gF_6_4, gF_6_5, gF_6_6, gF_6_7, gF_6_8, gF_6_9, hU_0, hU_7, hU_9, hU_11, hU_13, gF_5_0, gF_5_1, gF_5_2, gF_5_3, gF_5_4, gF_5_5, gF_5_6, gF_5_7, gF_5_8, gF_5_9, gF_5_10, gF_5_11, gF_5_12, gF_5_13, gF_3_0, gF_3_1, gF_3_2, gF_3_3, ln_add, nl_add, ln_mul, nl_mul, nI_add, nI_1, i32_nl, ite_not, lt_nn, lt_nl, lt_ln, eq_nn, eq_nl, eq_ln, if_true, if_false, kil_i, kil_r, kil_l, kil_u, rl_s, rl_n, Nat.zero_add, Nat.lt_irrefl, not_true_eq_false, not_false_eq_true, true_and, dp_1, dp_2, dp_3, dp_4, dp_5, dp_6, dp_7, dp_8, dp_9, dp_10, dp_11, dp_12, dp_13, dp_14, dp_15, dp_16, dp_17, dp_18, dp_19, dp_20, dp_21, dp_22, dp_23, dp_24, dp_25, dp_26, dp_27, dp_28, dp_29, dp_30, dp_31, dp_32, dp_33, dp_34, dp_35, dp_36, dp_37, dp_38, dp_39, Nat.not_lt_zero, E_hasBit, hb_n (show vB p 30 < 2 ^ 31 from hv) (show 30 - m < 32 by omega), hc2, e2]
  · intro _ _ _
    rw [t121_3]
    have e3 : nI 31 - nI (31 + 1) < 0 := by decide
    simp (disch := first | assumption | omega | decide | exact hX_o13 | exact hU_o | exact hX_o45 | exact hX_o47 | exact hX_o49 | exact hX_o54 | exact hU_o7 | exact hU_o9 | exact hU_o11 | exact hU_o13) only [t121_4, t121_23, t121_24, e3, if_true]
end W3
section X7
variable {d : Nat} {h : Hp} {S : St} {g hh sn nn mn un0 n : Nat} {Q : Pst}
theorem X_sizes {i w : Int32} (c : ClsAt h S g hh sn nn mn un0 n) (k : ∀ h2, CAx h2 (sp_sizes g sn S i w).2 → frC h h2 → Q (some (.int (sp_sizes g sn S i w).1)) h2) : T (d + 9) 97 0 [.ref 13, .int i, .int w, un] [] h Q := by
  obtain ⟨ab, be, V, O, D, I, c1, c2, cb, ri, sm⟩ := c
  refine T_eq (hX_self c1 c2) ?_
  have re := sm.rl ri
  have h6 := ri.1.2
  unfold sp_sizes at k
  by_cases q : rg i 0 (g - 1 : Int) = true ∧ rg w 0 2 = true
  · rw [if_pos q] at k
    obtain ⟨q1, q2⟩ := q
    obtain ⟨a, ha, rfl⟩ := rg_n q1
    simp (disch := first | assumption | omega | decide) only [nI_clamp] at k
    obtain ⟨s1, s2, s3⟩ := @szV_ok (sR S) a sn
    by_cases q3 : w = 0
    · rw [if_pos q3, s1, ← bc_vB] at k
      simp (disch := first | assumption | omega | decide | exact hX_o13 | exact hU_o | exact hX_o45 | exact hX_o47 | exact hX_o49 | exact hX_o54 | exact hU_o7 | exact hU_o9 | exact hU_o11 | exact hU_o13) only [t97_0, t97_1, t97_4, t97_5, t97_8, t97_11, t97_12, t97_13, t97_14, t97_17, t97_20, t97_21, t97_23, t97_26, t97_27, t97_28, t97_31, t97_32, t97_35, t97_36, t97_39, t97_40, t97_41, t97_44, t97_45, t97_48, t97_49, t97_50, t97_51, t97_54, t97_55, t97_58, t97_61, t97_62, t97_65, hC_13, hC_45, hC_47, hC_49, hC_54, gF_6_0, gF_6_1, gF_6_2, gF_6_3, gF_6_4, gF_6_5, gF_6_6, gF_6_7, gF_6_8, gF_6_9, hU_0, hU_7, hU_9, hU_11, hU_13, gF_5_0, gF_5_1, gF_5_2, gF_5_3, gF_5_4, gF_5_5, gF_5_6, gF_5_7, gF_5_8, gF_5_9, gF_5_10, gF_5_11, gF_5_12, gF_5_13, gF_3_0, gF_3_1, gF_3_2, gF_3_3, ln_add, nl_add, ln_mul, nl_mul, nI_add, nI_1, i32_nl, ite_not, lt_nn, lt_nl, lt_ln, eq_nn, eq_nl, eq_ln, if_true, if_false, kil_i, kil_r, kil_l, kil_u, rl_s, rl_n, Nat.zero_add, Nat.lt_irrefl, not_true_eq_false, not_false_eq_true, true_and, dp_1, dp_2, dp_3, dp_4, dp_5, dp_6, dp_7, dp_8, dp_9, dp_10, dp_11, dp_12, dp_13, dp_14, dp_15, dp_16, dp_17, dp_18, dp_19, dp_20, dp_21, dp_22, dp_23, dp_24, dp_25, dp_26, dp_27, dp_28, dp_29, dp_30, dp_31, dp_32, dp_33, dp_34, dp_35, dp_36, dp_37, dp_38, dp_39, U_hasGuest re, E_withinL, zb_0, q1, q2, W_sizeBits ri sm ha, q3, E_bitCount]
      exact kcN cb ri sm k
    · rw [if_neg q3] at k
      by_cases q4 : w = 1
      · rw [if_pos q4] at k
        simp (disch := first | assumption | omega | decide | exact hX_o13 | exact hU_o | exact hX_o45 | exact hX_o47 | exact hX_o49 | exact hX_o54 | exact hU_o7 | exact hU_o9 | exact hU_o11 | exact hU_o13) only [t97_0, t97_1, t97_4, t97_5, t97_8, t97_11, t97_12, t97_13, t97_14, t97_17, t97_20, t97_21, t97_23, t97_26, t97_27, t97_28, t97_31, t97_32, t97_35, t97_36, t97_39, t97_40, t97_41, t97_44, t97_45, t97_48, t97_49, t97_50, t97_51, t97_54, t97_55, hC_13, hC_45, hC_47, hC_49, hC_54, gF_6_0, gF_6_1, gF_6_2, gF_6_3, gF_6_4, gF_6_5, gF_6_6, gF_6_7, gF_6_8, gF_6_9, hU_0, hU_7, hU_9, hU_11, hU_13, gF_5_0, gF_5_1, gF_5_2, gF_5_3, gF_5_4, gF_5_5, gF_5_6, gF_5_7, gF_5_8, gF_5_9, gF_5_10, gF_5_11, gF_5_12, gF_5_13, gF_3_0, gF_3_1, gF_3_2, gF_3_3, ln_add, nl_add, ln_mul, nl_mul, nI_add, nI_1, i32_nl, ite_not, lt_nn, lt_nl, lt_ln, eq_nn, eq_nl, eq_ln, if_true, if_false, kil_i, kil_r, kil_l, kil_u, rl_s, rl_n, Nat.zero_add, Nat.lt_irrefl, not_true_eq_false, not_false_eq_true, true_and, dp_1, dp_2, dp_3, dp_4, dp_5, dp_6, dp_7, dp_8, dp_9, dp_10, dp_11, dp_12, dp_13, dp_14, dp_15, dp_16, dp_17, dp_18, dp_19, dp_20, dp_21, dp_22, dp_23, dp_24, dp_25, dp_26, dp_27, dp_28, dp_29, dp_30, dp_31, dp_32, dp_33, dp_34, dp_35, dp_36, dp_37, dp_38, dp_39, U_hasGuest re, E_withinL, zb_0, q1, q2, W_sizeBits ri sm ha, q3, q4, show ¬ (1 : Int32) = 0 by decide]
        refine W_low (fun x hx => ?_)
        simp (disch := first | assumption | omega | decide | exact hX_o13 | exact hU_o | exact hX_o45 | exact hX_o47 | exact hX_o49 | exact hX_o54 | exact hU_o7 | exact hU_o9 | exact hU_o11 | exact hU_o13) only [t97_58, t97_61, t97_62, t97_65, hC_13, hC_45, hC_47, hC_49, hC_54, gF_6_0, gF_6_1, gF_6_2, gF_6_3, gF_6_4, gF_6_5, gF_6_6, gF_6_7, gF_6_8, gF_6_9, hU_0, hU_7, hU_9, hU_11, hU_13, gF_5_0, gF_5_1, gF_5_2, gF_5_3, gF_5_4, gF_5_5, gF_5_6, gF_5_7, gF_5_8, gF_5_9, gF_5_10, gF_5_11, gF_5_12, gF_5_13, gF_3_0, gF_3_1, gF_3_2, gF_3_3, ln_add, nl_add, ln_mul, nl_mul, nI_add, nI_1, i32_nl, ite_not, lt_nn, lt_nl, lt_ln, eq_nn, eq_nl, eq_ln, if_true, if_false, kil_i, kil_r, kil_l, kil_u, rl_s, rl_n, Nat.zero_add, Nat.lt_irrefl, not_true_eq_false, not_false_eq_true, true_and, dp_1, dp_2, dp_3, dp_4, dp_5, dp_6, dp_7, dp_8, dp_9, dp_10, dp_11, dp_12, dp_13, dp_14, dp_15, dp_16, dp_17, dp_18, dp_19, dp_20, dp_21, dp_22, dp_23, dp_24, dp_25, dp_26, dp_27, dp_28, dp_29, dp_30, dp_31, dp_32, dp_33, dp_34, dp_35, dp_36, dp_37, dp_38, dp_39]
        rw [isLow_u hx s2]
        exact kcN cb ri sm k
      · rw [if_neg q4] at k
        simp (disch := first | assumption | omega | decide | exact hX_o13 | exact hU_o | exact hX_o45 | exact hX_o47 | exact hX_o49 | exact hX_o54 | exact hU_o7 | exact hU_o9 | exact hU_o11 | exact hU_o13) only [t97_0, t97_1, t97_4, t97_5, t97_8, t97_11, t97_12, t97_13, t97_14, t97_17, t97_20, t97_21, t97_23, t97_26, t97_27, t97_28, t97_31, t97_32, t97_35, t97_36, t97_39, t97_40, t97_41, t97_44, t97_45, t97_48, t97_49, t97_50, t97_51, t97_54, t97_55, t97_58, t97_61, t97_62, hC_13, hC_45, hC_47, hC_49, hC_54, gF_6_0, gF_6_1, gF_6_2, gF_6_3, gF_6_4, gF_6_5, gF_6_6, gF_6_7, gF_6_8, gF_6_9, hU_0, hU_7, hU_9, hU_11, hU_13, gF_5_0, gF_5_1, gF_5_2, gF_5_3, gF_5_4, gF_5_5, gF_5_6, gF_5_7, gF_5_8, gF_5_9, gF_5_10, gF_5_11, gF_5_12, gF_5_13, gF_3_0, gF_3_1, gF_3_2, gF_3_3, ln_add, nl_add, ln_mul, nl_mul, nI_add, nI_1, i32_nl, ite_not, lt_nn, lt_nl, lt_ln, eq_nn, eq_nl, eq_ln, if_true, if_false, kil_i, kil_r, kil_l, kil_u, rl_s, rl_n, Nat.zero_add, Nat.lt_irrefl, not_true_eq_false, not_false_eq_true, true_and, dp_1, dp_2, dp_3, dp_4, dp_5, dp_6, dp_7, dp_8, dp_9, dp_10, dp_11, dp_12, dp_13, dp_14, dp_15, dp_16, dp_17, dp_18, dp_19, dp_20, dp_21, dp_22, dp_23, dp_24, dp_25, dp_26, dp_27, dp_28, dp_29, dp_30, dp_31, dp_32, dp_33, dp_34, dp_35, dp_36, dp_37, dp_38, dp_39, U_hasGuest re, E_withinL, zb_0, q1, q2, W_sizeBits ri sm ha, q3, q4]
        refine W_high (fun x hx => ?_)
        simp (disch := first | assumption | omega | decide | exact hX_o13 | exact hU_o | exact hX_o45 | exact hX_o47 | exact hX_o49 | exact hX_o54 | exact hU_o7 | exact hU_o9 | exact hU_o11 | exact hU_o13) only [t97_65, hC_13, hC_45, hC_47, hC_49, hC_54, gF_6_0, gF_6_1, gF_6_2, gF_6_3, gF_6_4, gF_6_5, gF_6_6, gF_6_7, gF_6_8, gF_6_9, hU_0, hU_7, hU_9, hU_11, hU_13, gF_5_0, gF_5_1, gF_5_2, gF_5_3, gF_5_4, gF_5_5, gF_5_6, gF_5_7, gF_5_8, gF_5_9, gF_5_10, gF_5_11, gF_5_12, gF_5_13, gF_3_0, gF_3_1, gF_3_2, gF_3_3, ln_add, nl_add, ln_mul, nl_mul, nI_add, nI_1, i32_nl, ite_not, lt_nn, lt_nl, lt_ln, eq_nn, eq_nl, eq_ln, if_true, if_false, kil_i, kil_r, kil_l, kil_u, rl_s, rl_n, Nat.zero_add, Nat.lt_irrefl, not_true_eq_false, not_false_eq_true, true_and, dp_1, dp_2, dp_3, dp_4, dp_5, dp_6, dp_7, dp_8, dp_9, dp_10, dp_11, dp_12, dp_13, dp_14, dp_15, dp_16, dp_17, dp_18, dp_19, dp_20, dp_21, dp_22, dp_23, dp_24, dp_25, dp_26, dp_27, dp_28, dp_29, dp_30, dp_31, dp_32, dp_33, dp_34, dp_35, dp_36, dp_37, dp_38, dp_39]
        rw [isHigh_u hx s3]
        exact kcN cb ri sm k
  · rw [if_neg q] at k
    by_cases q2 : rg i 0 (g - 1 : Int) = true
    · have q3 : ¬ rg w 0 2 = true := fun z => q ⟨q2, z⟩
      simp (disch := first | assumption | omega | decide | exact hX_o13 | exact hU_o | exact hX_o45 | exact hX_o47 | exact hX_o49 | exact hX_o54 | exact hU_o7 | exact hU_o9 | exact hU_o11 | exact hU_o13) only [t97_0, t97_1, t97_4, t97_5, t97_8, t97_11, t97_12, t97_13, t97_14, t97_17, t97_20, t97_21, t97_23, t97_26, hC_13, hC_45, hC_47, hC_49, hC_54, gF_6_0, gF_6_1, gF_6_2, gF_6_3, gF_6_4, gF_6_5, gF_6_6, gF_6_7, gF_6_8, gF_6_9, hU_0, hU_7, hU_9, hU_11, hU_13, gF_5_0, gF_5_1, gF_5_2, gF_5_3, gF_5_4, gF_5_5, gF_5_6, gF_5_7, gF_5_8, gF_5_9, gF_5_10, gF_5_11, gF_5_12, gF_5_13, gF_3_0, gF_3_1, gF_3_2, gF_3_3, ln_add, nl_add, ln_mul, nl_mul, nI_add, nI_1, i32_nl, ite_not, lt_nn, lt_nl, lt_ln, eq_nn, eq_nl, eq_ln, if_true, if_false, kil_i, kil_r, kil_l, kil_u, rl_s, rl_n, Nat.zero_add, Nat.lt_irrefl, not_true_eq_false, not_false_eq_true, true_and, dp_1, dp_2, dp_3, dp_4, dp_5, dp_6, dp_7, dp_8, dp_9, dp_10, dp_11, dp_12, dp_13, dp_14, dp_15, dp_16, dp_17, dp_18, dp_19, dp_20, dp_21, dp_22, dp_23, dp_24, dp_25, dp_26, dp_27, dp_28, dp_29, dp_30, dp_31, dp_32, dp_33, dp_34, dp_35, dp_36, dp_37, dp_38, dp_39, U_hasGuest re, E_withinL, zb_0, q2, q3, C_refB, Bool.false_eq_true]
      exact kcR cb ri sm 0 k
    · simp (disch := first | assumption | omega | decide | exact hX_o13 | exact hU_o | exact hX_o45 | exact hX_o47 | exact hX_o49 | exact hX_o54 | exact hU_o7 | exact hU_o9 | exact hU_o11 | exact hU_o13) only [t97_0, t97_1, t97_4, t97_5, t97_8, t97_11, t97_12, t97_13, t97_14, t97_17, t97_20, t97_21, t97_23, t97_26, hC_13, hC_45, hC_47, hC_49, hC_54, gF_6_0, gF_6_1, gF_6_2, gF_6_3, gF_6_4, gF_6_5, gF_6_6, gF_6_7, gF_6_8, gF_6_9, hU_0, hU_7, hU_9, hU_11, hU_13, gF_5_0, gF_5_1, gF_5_2, gF_5_3, gF_5_4, gF_5_5, gF_5_6, gF_5_7, gF_5_8, gF_5_9, gF_5_10, gF_5_11, gF_5_12, gF_5_13, gF_3_0, gF_3_1, gF_3_2, gF_3_3, ln_add, nl_add, ln_mul, nl_mul, nI_add, nI_1, i32_nl, ite_not, lt_nn, lt_nl, lt_ln, eq_nn, eq_nl, eq_ln, if_true, if_false, kil_i, kil_r, kil_l, kil_u, rl_s, rl_n, Nat.zero_add, Nat.lt_irrefl, not_true_eq_false, not_false_eq_true, true_and, dp_1, dp_2, dp_3, dp_4, dp_5, dp_6, dp_7, dp_8, dp_9, dp_10, dp_11, dp_12, dp_13, dp_14, dp_15, dp_16, dp_17, dp_18, dp_19, dp_20, dp_21, dp_22, dp_23, dp_24, dp_25, dp_26, dp_27, dp_28, dp_29, dp_30, dp_31, dp_32, dp_33, dp_34, dp_35, dp_36, dp_37, dp_38, dp_39, U_hasGuest re, zb_0, q2, C_refB, Bool.false_eq_true]
      exact kcR cb ri sm 0 k
end X7
