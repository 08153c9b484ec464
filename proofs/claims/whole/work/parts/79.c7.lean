/-! the class's whole state beside the reference's -/
def cO (o : Option Nat) : Nat := match o with
  | none => 0
  | some _ => 1
def IM (h : Hp) (S : St) (I : Nat → Option Nat) : Prop :=
  (h.1 = 69 + 15 * (cO (I 0) + cO (I 1)) ∧ h.2.1 ≤ 3000 * (1 + (cO (I 0) + cO (I 1)))) ∧ (∀ a b, I 0 = some a → I 1 = some b → a + 15 ≤ b ∨ b + 15 ≤ a) ∧
  ∀ i, i < 2 → (I i = none → sK S i = 0) ∧ ∀ a, I i = some a → ¬ sK S i = 0 ∧ 69 ≤ a ∧ a + 15 ≤ h.1 ∧
    ∃ D g hh sn nn mn un0, (∀ j, j < 15 → h.2.2 (a + j) = cellU a D j) ∧ RI (fun k => sR S (208 + 208 * i + k)) g hh sn nn mn un0 ∧ SM D (fun k => sR S (208 + 208 * i + k)) g hh sn nn mn un0
def CB (h : Hp) (S : St) (ab be : Int32) (V : Nat → Int32) (O : Nat → Nat → Int32) (I : Nat → Option Nat) (n : Nat) : Prop :=
  (∃ E, ∀ j, j < 15 → h.2.2 (29 + j) = cellU 29 E j) ∧ h.2.2 44 = oQ 2 I ∧ (V 1 = sL S ∧ sL S = nI n ∧ n ≤ 150) ∧ O 46 = sT S ∧ O 57 = sF S ∧ (sA S = ab.toInt64 ∧ sB S = be.toInt64) ∧ IM h S I
def ClsAt (h : Hp) (S : St) (g hh sn nn mn un0 n : Nat) : Prop :=
  ∃ ab be V O D I, (∀ j, (j = 13 ∨ (45 ≤ j ∧ j < 58)) → h.2.2 j = cellC ab be V O j) ∧ (∀ j, j < 15 → h.2.2 (14 + j) = cellU 14 D j) ∧ CB h S ab be V O I n ∧ RI (sR S) g hh sn nn mn un0 ∧ SM D (sR S) g hh sn nn mn un0
def CAx (h : Hp) (S : St) : Prop := ∃ g hh sn nn mn un0 n, ClsAt h S g hh sn nn mn un0 n
/-- the reference's cells, the strings, the script stand -/
def frC (h h2 : Hp) : Prop := ∀ a, (a < 13 ∨ (58 ≤ a ∧ a ≤ 68)) → h2.2.2 a = h.2.2 a
section CC
variable {h : Hp} {S : St} {ab be : Int32} {V : Nat → Int32} {O : Nat → Nat → Int32} {I : Nat → Option Nat} {D : Nat → Nat → Int32} {g hh sn nn mn un0 n : Nat} {Q : Pst} {r : Option Value}
theorem frC_X : frC h (hX h ab be V O D) := fun a ha => hX_out (by omega)
theorem IM.congr {S2 : St} (im : IM h S I) (hk : ∀ i, i < 2 → sK S2 i = sK S i) (hw : ∀ k, 208 ≤ k → k < 624 → sR S2 k = sR S k) : IM h S2 I := by
  obtain ⟨i1, i2, i3⟩ := im
  refine ⟨i1, i2, fun i hi => ⟨fun z => by rw [hk i hi]; exact (i3 i hi).1 z, fun a ha => ?_⟩⟩
  obtain ⟨z1, z2, z3, D, g, hh, sn, nn, mn, un0, z4, z5, z6⟩ := (i3 i hi).2 a ha
  have e : ∀ k, k < 208 → (fun k => sR S2 (208 + 208 * i + k)) k = (fun k => sR S (208 + 208 * i + k)) k := fun k hk => hw _ (by omega) (by omega)
  exact ⟨by rw [hk i hi]; exact z1, z2, z3, D, g, hh, sn, nn, mn, un0, z4, z5.congr e, z6.congr e z5⟩
theorem IM.X (im : IM h S I) : IM (hX h ab be V O D) S I := by
  obtain ⟨i1, i2, i3⟩ := im
  refine ⟨i1, i2, fun i hi => ⟨(i3 i hi).1, fun a ha => ?_⟩⟩
  obtain ⟨z1, z2, z3, D, g, hh, sn, nn, mn, un0, z4, z5, z6⟩ := (i3 i hi).2 a ha
  exact ⟨z1, z2, z3, D, g, hh, sn, nn, mn, un0, fun j hj => by rw [hX_out (by omega)]; exact z4 j hj, z5, z6⟩
theorem CB.row {R2 : Nat → Int32} (cb : CB h S ab be V O I n) (hw : ∀ k, 208 ≤ k → k < 624 → R2 k = sR S k) : CB h (stR S R2) ab be V O I n := by
  obtain ⟨b1, b2, b3, b4, b5, b6, b7⟩ := cb
  exact ⟨b1, b2, b3, b4, b5, b6, b7.congr (fun _ _ => rfl) hw⟩
theorem CB.ref (cb : CB h S ab be V O I n) (k : Nat) : CB h (refu S k) ab be V (wA O 57 (rfU (O 57) k)) I n := by
  obtain ⟨b1, b2, b3, b4, b5, b6, b7⟩ := cb
  refine ⟨b1, b2, b3, ?_, ?_, b6, b7.congr (fun _ _ => rfl) (fun _ _ _ => rfl)⟩
  · rw [wA_o (by decide)]; exact b4
  · rw [wA_s, b5]; rfl
theorem CB.oth {a : Nat} {f : Nat → Int32} (cb : CB h S ab be V O I n) (h1 : a ≠ 46) (h2 : a ≠ 57) : CB h S ab be V (wA O a f) I n := by
  obtain ⟨b1, b2, b3, b4, b5, b6, b7⟩ := cb
  refine ⟨b1, b2, b3, ?_, ?_, b6, b7⟩
  · rw [wA_o (Ne.symm h1)]; exact b4
  · rw [wA_o (Ne.symm h2)]; exact b5
theorem CA_of (cb : CB h S ab be V O I n) (ri : RI (sR S) g hh sn nn mn un0) (sm : SM D (sR S) g hh sn nn mn un0) : CAx (hX h ab be V O D) S := by
  obtain ⟨⟨E, b1⟩, b2, b3, b4, b5, b6, b7⟩ := cb
  refine ⟨g, hh, sn, nn, mn, un0, n, ab, be, V, O, D, I, fun j hj => hX_C hj, fun j hj => hX_U hj, ⟨⟨E, fun j hj => ?_⟩, ?_, b3, b4, b5, b6, b7.X⟩, ri, sm⟩
  · rw [hX_out (by omega)]; exact b1 j hj
  · rw [hX_out (by omega)]; exact b2
/-- how a call of the class ends: refused; a new row; nothing changed -/
theorem kcR (cb : CB h S ab be V O I n) (ri : RI (sR S) g hh sn nn mn un0) (sm : SM D (sR S) g hh sn nn mn un0) (j : Nat) (k : ∀ h2, CAx h2 (refu S j) → frC h h2 → Q r h2) : Q r (hX h ab be V (wA O 57 (rfU (O 57) j)) D) := k _ (CA_of (cb.ref j) ri sm) frC_X
theorem kcW {R2 : Nat → Int32} {D2 : Nat → Nat → Int32} {g2 hh2 sn2 nn2 mn2 un2 : Nat} (cb : CB h S ab be V O I n) (hw : ∀ k, 208 ≤ k → k < 624 → R2 k = sR S k) (ri : RI R2 g2 hh2 sn2 nn2 mn2 un2) (sm : SM D2 R2 g2 hh2 sn2 nn2 mn2 un2) (k : ∀ h2, CAx h2 (stR S R2) → frC h h2 → Q r h2) : Q r (hX h ab be V O D2) := k _ (CA_of (S := stR S R2) (cb.row hw) ri sm) frC_X
theorem kcN (cb : CB h S ab be V O I n) (ri : RI (sR S) g hh sn nn mn un0) (sm : SM D (sR S) g hh sn nn mn un0) (k : ∀ h2, CAx h2 S → frC h h2 → Q r h2) : Q r (hX h ab be V O D) := k _ (CA_of cb ri sm) frC_X
/-- the rows that are only tried, behind 624: nothing changed for the class -/
theorem kcT {R2 : Nat → Int32} (cb : CB h S ab be V O I n) (hw : ∀ k, k < 624 → R2 k = sR S k) (ri : RI (sR S) g hh sn nn mn un0) (sm : SM D (sR S) g hh sn nn mn un0) (k : ∀ h2, CAx h2 (stR S R2) → frC h h2 → Q r h2) : Q r (hX h ab be V O D) := k _ (CA_of (S := stR S R2) (cb.row (fun k _ h2 => hw k h2)) (ri.congr (fun k hk => hw k (by omega))) (sm.congr (fun k hk => hw k (by omega)) ri)) frC_X
end CC
section X1
variable {d : Nat} {h : Hp} {S : St} {g hh sn nn mn un0 n : Nat} {Q : Pst}
theorem X_uplands {w : Int32} (c : ClsAt h S g hh sn nn mn un0 n) (k : ∀ h2, CAx h2 (sp_uplands S w).2 → frC h h2 → Q (some (.int (sp_uplands S w).1)) h2) : T (d + 9) 75 0 [.ref 13, .int w, un] [] h Q := by
  obtain ⟨ab, be, V, O, D, I, c1, c2, cb, ri, sm⟩ := c
  refine T_eq (hX_self c1 c2) ?_
  have re := sm.rl ri
  unfold sp_uplands at k
  by_cases q : rg w 0 4 = true <;> simp only [q, if_true, if_false] at k
  · simp (disch := first | assumption | omega | decide | exact hX_o13 | exact hU_o | exact hX_o45 | exact hX_o47 | exact hX_o49 | exact hX_o54 | exact hU_o7 | exact hU_o9 | exact hU_o11 | exact hU_o13) only [t75_0, t75_1, t75_2, t75_3, t75_6, t75_9, t75_10, t75_12, t75_15, t75_16, t75_17, t75_20, t75_23, t75_24, t75_25, t75_28, t75_29, t75_32, t75_33, hC_13, hC_45, hC_47, hC_49, hC_54, gF_6_0, gF_6_1, gF_6_2, gF_6_3, gF_6_4, gF_6_5, gF_6_6, gF_6_7, gF_6_8, gF_6_9, hU_0, hU_7, hU_9, hU_11, hU_13, gF_5_0, gF_5_1, gF_5_2, gF_5_3, gF_5_4, gF_5_5, gF_5_6, gF_5_7, gF_5_8, gF_5_9, gF_5_10, gF_5_11, gF_5_12, gF_5_13, gF_3_0, gF_3_1, gF_3_2, gF_3_3, ln_add, nl_add, ln_mul, nl_mul, nI_add, nI_1, i32_nl, ite_not, lt_nn, lt_nl, lt_ln, eq_nn, eq_nl, eq_ln, if_true, if_false, kil_i, kil_r, kil_l, kil_u, rl_s, rl_n, Nat.zero_add, Nat.lt_irrefl, not_true_eq_false, not_false_eq_true, true_and, dp_1, dp_2, dp_3, dp_4, dp_5, dp_6, dp_7, dp_8, dp_9, dp_10, dp_11, dp_12, dp_13, dp_14, dp_15, dp_16, dp_17, dp_18, dp_19, dp_20, dp_21, dp_22, dp_23, dp_24, dp_25, dp_26, dp_27, dp_28, dp_29, dp_30, dp_31, dp_32, dp_33, dp_34, dp_35, dp_36, dp_37, dp_38, dp_39, E_withinL, zb_0, q, U_startAnew]
    rw [sm.1.1]
    obtain ⟨z, hz, rfl⟩ := rg_l (b := 4) q
    exact kcW cb (fun k h1 h2 => by unfold layR; rw [upd_ne (by omega), if_neg (by omega)]) (RI_lay ⟨z, hz, rfl⟩) SM_lay k
  · simp (disch := first | assumption | omega | decide | exact hX_o13 | exact hU_o | exact hX_o45 | exact hX_o47 | exact hX_o49 | exact hX_o54 | exact hU_o7 | exact hU_o9 | exact hU_o11 | exact hU_o13) only [t75_0, t75_1, t75_2, t75_3, t75_6, t75_9, t75_10, t75_12, t75_15, t75_16, t75_17, t75_20, t75_23, t75_24, t75_25, t75_28, t75_29, t75_32, t75_33, hC_13, hC_45, hC_47, hC_49, hC_54, gF_6_0, gF_6_1, gF_6_2, gF_6_3, gF_6_4, gF_6_5, gF_6_6, gF_6_7, gF_6_8, gF_6_9, hU_0, hU_7, hU_9, hU_11, hU_13, gF_5_0, gF_5_1, gF_5_2, gF_5_3, gF_5_4, gF_5_5, gF_5_6, gF_5_7, gF_5_8, gF_5_9, gF_5_10, gF_5_11, gF_5_12, gF_5_13, gF_3_0, gF_3_1, gF_3_2, gF_3_3, ln_add, nl_add, ln_mul, nl_mul, nI_add, nI_1, i32_nl, ite_not, lt_nn, lt_nl, lt_ln, eq_nn, eq_nl, eq_ln, if_true, if_false, kil_i, kil_r, kil_l, kil_u, rl_s, rl_n, Nat.zero_add, Nat.lt_irrefl, not_true_eq_false, not_false_eq_true, true_and, dp_1, dp_2, dp_3, dp_4, dp_5, dp_6, dp_7, dp_8, dp_9, dp_10, dp_11, dp_12, dp_13, dp_14, dp_15, dp_16, dp_17, dp_18, dp_19, dp_20, dp_21, dp_22, dp_23, dp_24, dp_25, dp_26, dp_27, dp_28, dp_29, dp_30, dp_31, dp_32, dp_33, dp_34, dp_35, dp_36, dp_37, dp_38, dp_39, E_withinL, zb_0, q, C_refB, Bool.false_eq_true]
    exact kcR cb ri sm 0 k
theorem X_guest {kd s : Int32} (c : ClsAt h S g hh sn nn mn un0 n) (k : ∀ h2, CAx h2 (sp_guest g S kd s).2 → frC h h2 → Q (some (.int (sp_guest g S kd s).1)) h2) : T (d + 9) 76 0 [.ref 13, .int kd, .int s] [] h Q := by
  obtain ⟨ab, be, V, O, D, I, c1, c2, cb, ri, sm⟩ := c
  refine T_eq (hX_self c1 c2) ?_
  have hg : D 0 0 = nI g := sm.1.1.trans ri.1.1
  have h6 := ri.1.2
  unfold sp_guest at k
  by_cases q : rg kd 0 5 = true ∧ rg s 1 30 = true
  · simp only [q, and_self, if_true] at k
    by_cases q2 : g = 6
    · simp only [q2, if_true] at k
      simp (disch := first | assumption | omega | decide | exact hX_o13 | exact hU_o | exact hX_o45 | exact hX_o47 | exact hX_o49 | exact hX_o54 | exact hU_o7 | exact hU_o9 | exact hU_o11 | exact hU_o13) only [t76_0, t76_1, t76_2, t76_3, t76_6, t76_9, t76_10, t76_11, t76_13, t76_16, t76_19, t76_20, t76_22, t76_25, t76_26, t76_27, t76_30, t76_33, t76_35, t76_38, t76_39, t76_41, t76_44, t76_45, t76_46, t76_49, t76_50, t76_51, t76_54, hC_13, hC_45, hC_47, hC_49, hC_54, gF_6_0, gF_6_1, gF_6_2, gF_6_3, gF_6_4, gF_6_5, gF_6_6, gF_6_7, gF_6_8, gF_6_9, hU_0, hU_7, hU_9, hU_11, hU_13, gF_5_0, gF_5_1, gF_5_2, gF_5_3, gF_5_4, gF_5_5, gF_5_6, gF_5_7, gF_5_8, gF_5_9, gF_5_10, gF_5_11, gF_5_12, gF_5_13, gF_3_0, gF_3_1, gF_3_2, gF_3_3, ln_add, nl_add, ln_mul, nl_mul, nI_add, nI_1, i32_nl, ite_not, lt_nn, lt_nl, lt_ln, eq_nn, eq_nl, eq_ln, if_true, if_false, kil_i, kil_r, kil_l, kil_u, rl_s, rl_n, Nat.zero_add, Nat.lt_irrefl, not_true_eq_false, not_false_eq_true, true_and, dp_1, dp_2, dp_3, dp_4, dp_5, dp_6, dp_7, dp_8, dp_9, dp_10, dp_11, dp_12, dp_13, dp_14, dp_15, dp_16, dp_17, dp_18, dp_19, dp_20, dp_21, dp_22, dp_23, dp_24, dp_25, dp_26, dp_27, dp_28, dp_29, dp_30, dp_31, dp_32, dp_33, dp_34, dp_35, dp_36, dp_37, dp_38, dp_39, E_withinL, zb_0, q, hg, q2, C_refF]
      exact kcR cb ri sm 2 k
    · simp only [q2, if_false] at k
      simp (disch := first | assumption | omega | decide | exact hX_o13 | exact hU_o | exact hX_o45 | exact hX_o47 | exact hX_o49 | exact hX_o54 | exact hU_o7 | exact hU_o9 | exact hU_o11 | exact hU_o13) only [t76_0, t76_1, t76_2, t76_3, t76_6, t76_9, t76_10, t76_11, t76_13, t76_16, t76_19, t76_20, t76_22, t76_25, t76_26, t76_27, t76_30, t76_33, t76_35, t76_38, t76_39, t76_41, t76_44, t76_45, t76_46, t76_49, t76_50, t76_51, t76_54, hC_13, hC_45, hC_47, hC_49, hC_54, gF_6_0, gF_6_1, gF_6_2, gF_6_3, gF_6_4, gF_6_5, gF_6_6, gF_6_7, gF_6_8, gF_6_9, hU_0, hU_7, hU_9, hU_11, hU_13, gF_5_0, gF_5_1, gF_5_2, gF_5_3, gF_5_4, gF_5_5, gF_5_6, gF_5_7, gF_5_8, gF_5_9, gF_5_10, gF_5_11, gF_5_12, gF_5_13, gF_3_0, gF_3_1, gF_3_2, gF_3_3, ln_add, nl_add, ln_mul, nl_mul, nI_add, nI_1, i32_nl, ite_not, lt_nn, lt_nl, lt_ln, eq_nn, eq_nl, eq_ln, if_true, if_false, kil_i, kil_r, kil_l, kil_u, rl_s, rl_n, Nat.zero_add, Nat.lt_irrefl, not_true_eq_false, not_false_eq_true, true_and, dp_1, dp_2, dp_3, dp_4, dp_5, dp_6, dp_7, dp_8, dp_9, dp_10, dp_11, dp_12, dp_13, dp_14, dp_15, dp_16, dp_17, dp_18, dp_19, dp_20, dp_21, dp_22, dp_23, dp_24, dp_25, dp_26, dp_27, dp_28, dp_29, dp_30, dp_31, dp_32, dp_33, dp_34, dp_35, dp_36, dp_37, dp_38, dp_39, E_withinL, zb_0, q, hg, show g < 6 by omega, U_addGuest hg (show g < 6 by omega)]
      obtain ⟨z, _, hz, rfl⟩ := rg_m (a := 1) (b := 30) q.2 (by omega)
      exact kcW cb (fun k h1 h2 => rwG_o (by omega) (by omega) (by omega) (by omega) (by omega)) (RI_guest ri (by omega) ⟨z, hz, rfl⟩) (SM_guest ri sm (by omega)) k
  · simp only [q, if_false] at k
    by_cases q2 : rg kd 0 5 = true
    · have q3 : ¬ rg s 1 30 = true := fun z => q ⟨q2, z⟩
      simp (disch := first | assumption | omega | decide | exact hX_o13 | exact hU_o | exact hX_o45 | exact hX_o47 | exact hX_o49 | exact hX_o54 | exact hU_o7 | exact hU_o9 | exact hU_o11 | exact hU_o13) only [t76_0, t76_1, t76_2, t76_3, t76_6, t76_9, t76_10, t76_11, t76_13, t76_16, t76_19, t76_20, t76_22, t76_25, t76_26, t76_27, t76_30, t76_33, t76_35, t76_38, t76_39, t76_41, t76_44, t76_45, t76_46, t76_49, t76_50, t76_51, t76_54, hC_13, hC_45, hC_47, hC_49, hC_54, gF_6_0, gF_6_1, gF_6_2, gF_6_3, gF_6_4, gF_6_5, gF_6_6, gF_6_7, gF_6_8, gF_6_9, hU_0, hU_7, hU_9, hU_11, hU_13, gF_5_0, gF_5_1, gF_5_2, gF_5_3, gF_5_4, gF_5_5, gF_5_6, gF_5_7, gF_5_8, gF_5_9, gF_5_10, gF_5_11, gF_5_12, gF_5_13, gF_3_0, gF_3_1, gF_3_2, gF_3_3, ln_add, nl_add, ln_mul, nl_mul, nI_add, nI_1, i32_nl, ite_not, lt_nn, lt_nl, lt_ln, eq_nn, eq_nl, eq_ln, if_true, if_false, kil_i, kil_r, kil_l, kil_u, rl_s, rl_n, Nat.zero_add, Nat.lt_irrefl, not_true_eq_false, not_false_eq_true, true_and, dp_1, dp_2, dp_3, dp_4, dp_5, dp_6, dp_7, dp_8, dp_9, dp_10, dp_11, dp_12, dp_13, dp_14, dp_15, dp_16, dp_17, dp_18, dp_19, dp_20, dp_21, dp_22, dp_23, dp_24, dp_25, dp_26, dp_27, dp_28, dp_29, dp_30, dp_31, dp_32, dp_33, dp_34, dp_35, dp_36, dp_37, dp_38, dp_39, E_withinL, zb_0, q2, q3, C_refB, Bool.false_eq_true]
      exact kcR cb ri sm 0 k
    · simp (disch := first | assumption | omega | decide | exact hX_o13 | exact hU_o | exact hX_o45 | exact hX_o47 | exact hX_o49 | exact hX_o54 | exact hU_o7 | exact hU_o9 | exact hU_o11 | exact hU_o13) only [t76_0, t76_1, t76_2, t76_3, t76_6, t76_9, t76_10, t76_11, t76_13, t76_16, t76_19, t76_20, t76_22, t76_25, t76_26, t76_27, t76_30, t76_33, t76_35, t76_38, t76_39, t76_41, t76_44, t76_45, t76_46, t76_49, t76_50, t76_51, t76_54, hC_13, hC_45, hC_47, hC_49, hC_54, gF_6_0, gF_6_1, gF_6_2, gF_6_3, gF_6_4, gF_6_5, gF_6_6, gF_6_7, gF_6_8, gF_6_9, hU_0, hU_7, hU_9, hU_11, hU_13, gF_5_0, gF_5_1, gF_5_2, gF_5_3, gF_5_4, gF_5_5, gF_5_6, gF_5_7, gF_5_8, gF_5_9, gF_5_10, gF_5_11, gF_5_12, gF_5_13, gF_3_0, gF_3_1, gF_3_2, gF_3_3, ln_add, nl_add, ln_mul, nl_mul, nI_add, nI_1, i32_nl, ite_not, lt_nn, lt_nl, lt_ln, eq_nn, eq_nl, eq_ln, if_true, if_false, kil_i, kil_r, kil_l, kil_u, rl_s, rl_n, Nat.zero_add, Nat.lt_irrefl, not_true_eq_false, not_false_eq_true, true_and, dp_1, dp_2, dp_3, dp_4, dp_5, dp_6, dp_7, dp_8, dp_9, dp_10, dp_11, dp_12, dp_13, dp_14, dp_15, dp_16, dp_17, dp_18, dp_19, dp_20, dp_21, dp_22, dp_23, dp_24, dp_25, dp_26, dp_27, dp_28, dp_29, dp_30, dp_31, dp_32, dp_33, dp_34, dp_35, dp_36, dp_37, dp_38, dp_39, E_withinL, zb_0, q2, C_refB, Bool.false_eq_true]
      exact kcR cb ri sm 0 k
theorem X_house {kd s : Int32} (c : ClsAt h S g hh sn nn mn un0 n) (k : ∀ h2, CAx h2 (sp_house hh S kd s).2 → frC h h2 → Q (some (.int (sp_house hh S kd s).1)) h2) : T (d + 9) 77 0 [.ref 13, .int kd, .int s] [] h Q := by
  obtain ⟨ab, be, V, O, D, I, c1, c2, cb, ri, sm⟩ := c
  refine T_eq (hX_self c1 c2) ?_
  have hg : D 0 1 = nI hh := sm.1.2.1.trans ri.2.1.1
  have h6 := ri.2.1.2
  unfold sp_house at k
  by_cases q : rg kd 0 5 = true ∧ rg s 1 30 = true
  · simp only [q, and_self, if_true] at k
    by_cases q2 : hh = 4
    · simp only [q2, if_true] at k
      simp (disch := first | assumption | omega | decide | exact hX_o13 | exact hU_o | exact hX_o45 | exact hX_o47 | exact hX_o49 | exact hX_o54 | exact hU_o7 | exact hU_o9 | exact hU_o11 | exact hU_o13) only [t77_0, t77_1, t77_2, t77_3, t77_6, t77_9, t77_10, t77_11, t77_13, t77_16, t77_19, t77_20, t77_22, t77_25, t77_26, t77_27, t77_30, t77_33, t77_34, t77_37, t77_38, t77_40, t77_43, t77_44, t77_45, t77_48, t77_49, t77_50, t77_53, hC_13, hC_45, hC_47, hC_49, hC_54, gF_6_0, gF_6_1, gF_6_2, gF_6_3, gF_6_4, gF_6_5, gF_6_6, gF_6_7, gF_6_8, gF_6_9, hU_0, hU_7, hU_9, hU_11, hU_13, gF_5_0, gF_5_1, gF_5_2, gF_5_3, gF_5_4, gF_5_5, gF_5_6, gF_5_7, gF_5_8, gF_5_9, gF_5_10, gF_5_11, gF_5_12, gF_5_13, gF_3_0, gF_3_1, gF_3_2, gF_3_3, ln_add, nl_add, ln_mul, nl_mul, nI_add, nI_1, i32_nl, ite_not, lt_nn, lt_nl, lt_ln, eq_nn, eq_nl, eq_ln, if_true, if_false, kil_i, kil_r, kil_l, kil_u, rl_s, rl_n, Nat.zero_add, Nat.lt_irrefl, not_true_eq_false, not_false_eq_true, true_and, dp_1, dp_2, dp_3, dp_4, dp_5, dp_6, dp_7, dp_8, dp_9, dp_10, dp_11, dp_12, dp_13, dp_14, dp_15, dp_16, dp_17, dp_18, dp_19, dp_20, dp_21, dp_22, dp_23, dp_24, dp_25, dp_26, dp_27, dp_28, dp_29, dp_30, dp_31, dp_32, dp_33, dp_34, dp_35, dp_36, dp_37, dp_38, dp_39, E_withinL, zb_0, q, hg, q2, C_refF]
      exact kcR cb ri sm 2 k
    · simp only [q2, if_false] at k
      simp (disch := first | assumption | omega | decide | exact hX_o13 | exact hU_o | exact hX_o45 | exact hX_o47 | exact hX_o49 | exact hX_o54 | exact hU_o7 | exact hU_o9 | exact hU_o11 | exact hU_o13) only [t77_0, t77_1, t77_2, t77_3, t77_6, t77_9, t77_10, t77_11, t77_13, t77_16, t77_19, t77_20, t77_22, t77_25, t77_26, t77_27, t77_30, t77_33, t77_34, t77_37, t77_38, t77_40, t77_43, t77_44, t77_45, t77_48, t77_49, t77_50, t77_53, hC_13, hC_45, hC_47, hC_49, hC_54, gF_6_0, gF_6_1, gF_6_2, gF_6_3, gF_6_4, gF_6_5, gF_6_6, gF_6_7, gF_6_8, gF_6_9, hU_0, hU_7, hU_9, hU_11, hU_13, gF_5_0, gF_5_1, gF_5_2, gF_5_3, gF_5_4, gF_5_5, gF_5_6, gF_5_7, gF_5_8, gF_5_9, gF_5_10, gF_5_11, gF_5_12, gF_5_13, gF_3_0, gF_3_1, gF_3_2, gF_3_3, ln_add, nl_add, ln_mul, nl_mul, nI_add, nI_1, i32_nl, ite_not, lt_nn, lt_nl, lt_ln, eq_nn, eq_nl, eq_ln, if_true, if_false, kil_i, kil_r, kil_l, kil_u, rl_s, rl_n, Nat.zero_add, Nat.lt_irrefl, not_true_eq_false, not_false_eq_true, true_and, dp_1, dp_2, dp_3, dp_4, dp_5, dp_6, dp_7, dp_8, dp_9, dp_10, dp_11, dp_12, dp_13, dp_14, dp_15, dp_16, dp_17, dp_18, dp_19, dp_20, dp_21, dp_22, dp_23, dp_24, dp_25, dp_26, dp_27, dp_28, dp_29, dp_30, dp_31, dp_32, dp_33, dp_34, dp_35, dp_36, dp_37, dp_38, dp_39, E_withinL, zb_0, q, hg, show hh < 4 by omega, U_addHouse hg (show hh < 4 by omega)]
      obtain ⟨z, _, hz, rfl⟩ := rg_m (a := 1) (b := 30) q.2 (by omega)
      exact kcW cb (fun k h1 h2 => rwH_o (by omega) (by omega) (by omega) (by omega)) (RI_house ri (by omega) ⟨z, hz, rfl⟩) (SM_house ri sm (by omega)) k
  · simp only [q, if_false] at k
    by_cases q2 : rg kd 0 5 = true
    · have q3 : ¬ rg s 1 30 = true := fun z => q ⟨q2, z⟩
      simp (disch := first | assumption | omega | decide | exact hX_o13 | exact hU_o | exact hX_o45 | exact hX_o47 | exact hX_o49 | exact hX_o54 | exact hU_o7 | exact hU_o9 | exact hU_o11 | exact hU_o13) only [t77_0, t77_1, t77_2, t77_3, t77_6, t77_9, t77_10, t77_11, t77_13, t77_16, t77_19, t77_20, t77_22, t77_25, t77_26, t77_27, t77_30, t77_33, t77_34, t77_37, t77_38, t77_40, t77_43, t77_44, t77_45, t77_48, t77_49, t77_50, t77_53, hC_13, hC_45, hC_47, hC_49, hC_54, gF_6_0, gF_6_1, gF_6_2, gF_6_3, gF_6_4, gF_6_5, gF_6_6, gF_6_7, gF_6_8, gF_6_9, hU_0, hU_7, hU_9, hU_11, hU_13, gF_5_0, gF_5_1, gF_5_2, gF_5_3, gF_5_4, gF_5_5, gF_5_6, gF_5_7, gF_5_8, gF_5_9, gF_5_10, gF_5_11, gF_5_12, gF_5_13, gF_3_0, gF_3_1, gF_3_2, gF_3_3, ln_add, nl_add, ln_mul, nl_mul, nI_add, nI_1, i32_nl, ite_not, lt_nn, lt_nl, lt_ln, eq_nn, eq_nl, eq_ln, if_true, if_false, kil_i, kil_r, kil_l, kil_u, rl_s, rl_n, Nat.zero_add, Nat.lt_irrefl, not_true_eq_false, not_false_eq_true, true_and, dp_1, dp_2, dp_3, dp_4, dp_5, dp_6, dp_7, dp_8, dp_9, dp_10, dp_11, dp_12, dp_13, dp_14, dp_15, dp_16, dp_17, dp_18, dp_19, dp_20, dp_21, dp_22, dp_23, dp_24, dp_25, dp_26, dp_27, dp_28, dp_29, dp_30, dp_31, dp_32, dp_33, dp_34, dp_35, dp_36, dp_37, dp_38, dp_39, E_withinL, zb_0, q2, q3, C_refB, Bool.false_eq_true]
      exact kcR cb ri sm 0 k
    · simp (disch := first | assumption | omega | decide | exact hX_o13 | exact hU_o | exact hX_o45 | exact hX_o47 | exact hX_o49 | exact hX_o54 | exact hU_o7 | exact hU_o9 | exact hU_o11 | exact hU_o13) only [t77_0, t77_1, t77_2, t77_3, t77_6, t77_9, t77_10, t77_11, t77_13, t77_16, t77_19, t77_20, t77_22, t77_25, t77_26, t77_27, t77_30, t77_33, t77_34, t77_37, t77_38, t77_40, t77_43, t77_44, t77_45, t77_48, t77_49, t77_50, t77_53, hC_13, hC_45, hC_47, hC_49, hC_54, gF_6_0, gF_6_1, gF_6_2, gF_6_3, gF_6_4, gF_6_5, gF_6_6, gF_6_7, gF_6_8, gF_6_9, hU_0, hU_7, hU_9, hU_11, hU_13, gF_5_0, gF_5_1, gF_5_2, gF_5_3, gF_5_4, gF_5_5, gF_5_6, gF_5_7, gF_5_8, gF_5_9, gF_5_10, gF_5_11, gF_5_12, gF_5_13, gF_3_0, gF_3_1, gF_3_2, gF_3_3, ln_add, nl_add, ln_mul, nl_mul, nI_add, nI_1, i32_nl, ite_not, lt_nn, lt_nl, lt_ln, eq_nn, eq_nl, eq_ln, if_true, if_false, kil_i, kil_r, kil_l, kil_u, rl_s, rl_n, Nat.zero_add, Nat.lt_irrefl, not_true_eq_false, not_false_eq_true, true_and, dp_1, dp_2, dp_3, dp_4, dp_5, dp_6, dp_7, dp_8, dp_9, dp_10, dp_11, dp_12, dp_13, dp_14, dp_15, dp_16, dp_17, dp_18, dp_19, dp_20, dp_21, dp_22, dp_23, dp_24, dp_25, dp_26, dp_27, dp_28, dp_29, dp_30, dp_31, dp_32, dp_33, dp_34, dp_35, dp_36, dp_37, dp_38, dp_39, E_withinL, zb_0, q2, C_refB, Bool.false_eq_true]
      exact kcR cb ri sm 0 k
end X1
