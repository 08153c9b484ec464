/-! the class's public calls: ahead in time; the house that has most, the finest round -/
theorem cmo_base {R R2 : Nat → Int32} {g j : Nat} {w : Int32} {b b2 : Nat} (e1 : ∀ i, i < g → R2 (b2 + i) = R (b + i) ∧ R2 (13 + i) = R (13 + i) ∧ R2 (19 + i) = R (19 + i)) (e2 : R2 (b2 + 10) = R (b + 10)) (e3 : R2 (26 + j) = R (26 + j)) (e4 : R2 (30 + j) = R (30 + j)) : cmo R2 g b2 j w = cmo R g b j w := by
  have e : cmp R2 g b2 j = cmp R g b j := by
    unfold cmp
    refine itr_congr g 0 _ (fun i s _ hi => ?_)
    obtain ⟨f1, f2, f3⟩ := e1 i (by omega)
    unfold cmF
    simp only []
    rw [f1, e2, sts_congr f2 f3 e3 e4]
  unfold cmo
  rw [e]
def trR (R : Nat → Int32) : Nat → Int32 := cpR R 0 624 12
theorem trR_o {R : Nat → Int32} {k : Nat} (hk : k < 624) : trR R k = R k := cpR_o (by omega)
theorem trR_i {R : Nat → Int32} {k : Nat} (hk : k < 12) : trR R (624 + k) = R k := by
  unfold trR
  rw [cpR_i hk, Nat.zero_add]
theorem mor_tr {R : Nat → Int32} {g j : Nat} (h6 : g ≤ 6) (h4 : j < 4) : mor (trR R) g 624 j = mor R g 0 j := by
  unfold mor
  have e : ∀ w, cmo (trR R) g 624 j w = cmo R g 0 j w := fun w => cmo_base (fun i hi => ⟨by rw [trR_i (by omega), Nat.zero_add], trR_o (by omega), trR_o (by omega)⟩) (by rw [trR_i (by omega)]) (trR_o (by omega)) (trR_o (by omega))
  rw [e, e]
section X4
variable {d : Nat} {h : Hp} {S : St} {g hh sn nn mn un0 n : Nat} {Q : Pst}
theorem tr_l4 {R : Nat → Int32} (r : RI R g hh sn nn mn un0) : ∀ j, j < hh → ∃ l, l ≤ 9999 ∧ trR R (624 + 6 + j) = nI l := by
  intro j hj
  have := r.2.1.2
  obtain ⟨l, h1, h2⟩ := r.l4 j hj
  exact ⟨l, h1, by rw [show 624 + 6 + j = 624 + (6 + j) by omega, trR_i (by omega), ← h2, Nat.zero_add]⟩
theorem X_then {i w : Int32} (c : ClsAt h S g hh sn nn mn un0 n) (k : ∀ h2, CAx h2 (sp_then g hh S i w).2 → frC h h2 → Q (some (.int (sp_then g hh S i w).1)) h2) : T (d + 9) 90 0 [.ref 13, .int i, .int w] [] h Q := by
  obtain ⟨ab, be, V, O, D, I, c1, c2, cb, ri, sm⟩ := c
  refine T_eq (hX_self c1 c2) ?_
  have re := sm.rl ri
  have h6 := ri.1.2
  have h4 := ri.2.1.2
  unfold sp_then at k
  by_cases q : rg i 0 (hh - 1 : Int) = true ∧ rg w 0 60 = true
  · rw [if_pos q] at k
    obtain ⟨q1, q2⟩ := q
    obtain ⟨a, ha, rfl⟩ := rg_n q1
    obtain ⟨b, hb, rfl⟩ := rg_l (b := 60) q2
    simp (disch := first | assumption | omega | decide) only [nI_clamp] at k
    have ev := tryN_isEv (R := trR (sR S)) h4 h6 (tr_l4 ri) b (by omega)
    have e1 := ev.1 a ha
    rw [mor_tr h6 (by omega), show 624 + 6 + a = 624 + (6 + a) by omega, trR_i (by omega)] at e1
    have k2 : ∀ h2, CAx h2 (stR S (tryN g hh b (trR (sR S)))) → frC h h2 → Q (some (.int (lkx (sR S (6 + a)) (mor (sR S) g 0 a) (nI b)))) h2 := by
      rw [← e1, show 624 + (6 + a) = 630 + a by omega]
      exact k
    simp (disch := first | assumption | omega | decide | exact hX_o13 | exact hU_o | exact hX_o45 | exact hX_o47 | exact hX_o49 | exact hX_o54 | exact hU_o7 | exact hU_o9 | exact hU_o11 | exact hU_o13) only [t90_0, t90_1, t90_4, t90_5, t90_8, t90_11, t90_12, t90_13, t90_15, t90_18, t90_21, t90_22, t90_24, t90_27, t90_28, t90_29, t90_32, t90_33, t90_34, t90_37, hC_13, hC_45, hC_47, hC_49, hC_54, gF_6_0, gF_6_1, gF_6_2, gF_6_3, gF_6_4, gF_6_5, gF_6_6, gF_6_7, gF_6_8, gF_6_9, hU_0, hU_7, hU_9, hU_11, hU_13, gF_5_0, gF_5_1, gF_5_2, gF_5_3, gF_5_4, gF_5_5, gF_5_6, gF_5_7, gF_5_8, gF_5_9, gF_5_10, gF_5_11, gF_5_12, gF_5_13, gF_3_0, gF_3_1, gF_3_2, gF_3_3, ln_add, nl_add, ln_mul, nl_mul, nI_add, nI_1, i32_nl, ite_not, lt_nn, lt_nl, lt_ln, eq_nn, eq_nl, eq_ln, if_true, if_false, kil_i, kil_r, kil_l, kil_u, rl_s, rl_n, Nat.zero_add, Nat.lt_irrefl, not_true_eq_false, not_false_eq_true, true_and, dp_1, dp_2, dp_3, dp_4, dp_5, dp_6, dp_7, dp_8, dp_9, dp_10, dp_11, dp_12, dp_13, dp_14, dp_15, dp_16, dp_17, dp_18, dp_19, dp_20, dp_21, dp_22, dp_23, dp_24, dp_25, dp_26, dp_27, dp_28, dp_29, dp_30, dp_31, dp_32, dp_33, dp_34, dp_35, dp_36, dp_37, dp_38, dp_39, U_hasHouse re, E_withinL, zb_0, q1, q2, U_likingAfter re ha (sm.2.2.2.1 a ha).2.2]
    exact kcT cb (fun k hk => by rw [ev.2.2 k (by omega) (by omega), trR_o hk]) ri sm k2
  · rw [if_neg q] at k
    by_cases q2 : rg i 0 (hh - 1 : Int) = true
    · have q3 : ¬ rg w 0 60 = true := fun z => q ⟨q2, z⟩
      simp (disch := first | assumption | omega | decide | exact hX_o13 | exact hU_o | exact hX_o45 | exact hX_o47 | exact hX_o49 | exact hX_o54 | exact hU_o7 | exact hU_o9 | exact hU_o11 | exact hU_o13) only [t90_0, t90_1, t90_4, t90_5, t90_8, t90_11, t90_12, t90_13, t90_15, t90_18, t90_21, t90_22, t90_24, t90_27, t90_28, t90_29, t90_32, t90_33, t90_34, t90_37, hC_13, hC_45, hC_47, hC_49, hC_54, gF_6_0, gF_6_1, gF_6_2, gF_6_3, gF_6_4, gF_6_5, gF_6_6, gF_6_7, gF_6_8, gF_6_9, hU_0, hU_7, hU_9, hU_11, hU_13, gF_5_0, gF_5_1, gF_5_2, gF_5_3, gF_5_4, gF_5_5, gF_5_6, gF_5_7, gF_5_8, gF_5_9, gF_5_10, gF_5_11, gF_5_12, gF_5_13, gF_3_0, gF_3_1, gF_3_2, gF_3_3, ln_add, nl_add, ln_mul, nl_mul, nI_add, nI_1, i32_nl, ite_not, lt_nn, lt_nl, lt_ln, eq_nn, eq_nl, eq_ln, if_true, if_false, kil_i, kil_r, kil_l, kil_u, rl_s, rl_n, Nat.zero_add, Nat.lt_irrefl, not_true_eq_false, not_false_eq_true, true_and, dp_1, dp_2, dp_3, dp_4, dp_5, dp_6, dp_7, dp_8, dp_9, dp_10, dp_11, dp_12, dp_13, dp_14, dp_15, dp_16, dp_17, dp_18, dp_19, dp_20, dp_21, dp_22, dp_23, dp_24, dp_25, dp_26, dp_27, dp_28, dp_29, dp_30, dp_31, dp_32, dp_33, dp_34, dp_35, dp_36, dp_37, dp_38, dp_39, U_hasHouse re, E_withinL, zb_0, q2, q3, C_refB, Bool.false_eq_true]
      exact kcR cb ri sm 0 k
    · simp (disch := first | assumption | omega | decide | exact hX_o13 | exact hU_o | exact hX_o45 | exact hX_o47 | exact hX_o49 | exact hX_o54 | exact hU_o7 | exact hU_o9 | exact hU_o11 | exact hU_o13) only [t90_0, t90_1, t90_4, t90_5, t90_8, t90_11, t90_12, t90_13, t90_15, t90_18, t90_21, t90_22, t90_24, t90_27, t90_28, t90_29, t90_32, t90_33, t90_34, t90_37, hC_13, hC_45, hC_47, hC_49, hC_54, gF_6_0, gF_6_1, gF_6_2, gF_6_3, gF_6_4, gF_6_5, gF_6_6, gF_6_7, gF_6_8, gF_6_9, hU_0, hU_7, hU_9, hU_11, hU_13, gF_5_0, gF_5_1, gF_5_2, gF_5_3, gF_5_4, gF_5_5, gF_5_6, gF_5_7, gF_5_8, gF_5_9, gF_5_10, gF_5_11, gF_5_12, gF_5_13, gF_3_0, gF_3_1, gF_3_2, gF_3_3, ln_add, nl_add, ln_mul, nl_mul, nI_add, nI_1, i32_nl, ite_not, lt_nn, lt_nl, lt_ln, eq_nn, eq_nl, eq_ln, if_true, if_false, kil_i, kil_r, kil_l, kil_u, rl_s, rl_n, Nat.zero_add, Nat.lt_irrefl, not_true_eq_false, not_false_eq_true, true_and, dp_1, dp_2, dp_3, dp_4, dp_5, dp_6, dp_7, dp_8, dp_9, dp_10, dp_11, dp_12, dp_13, dp_14, dp_15, dp_16, dp_17, dp_18, dp_19, dp_20, dp_21, dp_22, dp_23, dp_24, dp_25, dp_26, dp_27, dp_28, dp_29, dp_30, dp_31, dp_32, dp_33, dp_34, dp_35, dp_36, dp_37, dp_38, dp_39, U_hasHouse re, zb_0, q2, C_refB, Bool.false_eq_true]
      exact kcR cb ri sm 0 k
/-- the first time that liking is so much -/
def whC (R : Nat → Int32) (g a : Nat) (x : Int32) (m : Nat) : Bool := decide (x ≤ lkx (R (6 + a)) (mor R g 0 a) (nI m))
def whF (R : Nat → Int32) (g a : Nat) (x : Int32) (n i : Nat) : Option Nat := (fnd (fun m (_ : Unit) => whC R g a x m) (fun _ s => s) n i ()).1
theorem whn_eq {R : Nat → Int32} {a : Nat} {x : Int32} (ri : RI R g hh sn nn mn un0) (ha : a < hh) : ∀ n i S, i + n ≤ 61 → isEv (trR R) S g hh 624 i → (fnd (fun _ R => decide (x ≤ R (630 + a))) (fun _ R => psR R g hh 624) n i S).1 = whF R g a x n i ∧ ∀ k, k < 624 → (fnd (fun _ R => decide (x ≤ R (630 + a))) (fun _ R => psR R g hh 624) n i S).2 k = R k := by
  have h6 := ri.1.2
  have h4 := ri.2.1.2
  intro n
  induction n with
  | zero =>
    intro i S _ ev
    exact ⟨rfl, fun k hk => by show S k = R k; rw [ev.2.2 k (by omega) (by omega), trR_o hk]⟩
  | succ n ih =>
    intro i S hi ev
    have e1 := ev.1 a ha
    rw [mor_tr h6 (by omega), show 624 + 6 + a = 630 + a by omega, show 630 + a = 624 + (6 + a) by omega, trR_i (by omega), show 624 + (6 + a) = 630 + a by omega] at e1
    have ec : decide (x ≤ S (630 + a)) = whC R g a x i := by unfold whC; rw [e1]
    unfold whF fnd
    rw [ec]
    by_cases q : whC R g a x i = true
    · rw [if_pos q, if_pos q]
      exact ⟨rfl, fun k hk => by show S k = R k; rw [ev.2.2 k (by omega) (by omega), trR_o hk]⟩
    · rw [if_neg q, if_neg q]
      have P := psR_isEv (R := S) (b := 624) h4 h6 (Or.inr rfl) (isEv_lk h6 (by omega) ev (tr_l4 ri))
      exact ih (i + 1) _ (by omega) (isEv_add h4 h6 (Or.inr rfl) (by omega) ev P (tr_l4 ri))
theorem X_when {i x : Int32} (c : ClsAt h S g hh sn nn mn un0 n) (k : ∀ h2, CAx h2 (sp_when g hh S i x).2 → frC h h2 → Q (some (.int (sp_when g hh S i x).1)) h2) : T (d + 9) 91 0 [.ref 13, .int i, .int x, un] [] h Q := by
  obtain ⟨ab, be, V, O, D, I, c1, c2, cb, ri, sm⟩ := c
  refine T_eq (hX_self c1 c2) ?_
  have re := sm.rl ri
  have h6 := ri.1.2
  have h4 := ri.2.1.2
  unfold sp_when at k
  by_cases q : rg i 0 (hh - 1 : Int) = true ∧ rg x 1 999 = true
  · rw [if_pos q] at k
    obtain ⟨q1, q2⟩ := q
    obtain ⟨a, ha, rfl⟩ := rg_n q1
    simp (disch := first | assumption | omega | decide) only [nI_clamp] at k
    have ev0 : isEv (trR (sR S)) (trR (sR S)) g hh 624 0 := isEv_0 h6 (tr_l4 ri)
    have W := whn_eq (x := x) ri ha 61 0 (trR (sR S)) (by omega) ev0
    have k2 : ∀ h2, CAx h2 (stR S (whn g hh a x (trR (sR S))).2) → frC h h2 → Q (some (.int (match whF (sR S) g a x 61 0 with | some j => nI j | none => -1))) h2 := by
      rw [← W.1]
      exact k
    simp (disch := first | assumption | omega | decide | exact hX_o13 | exact hU_o | exact hX_o45 | exact hX_o47 | exact hX_o49 | exact hX_o54 | exact hU_o7 | exact hU_o9 | exact hU_o11 | exact hU_o13) only [t91_0, t91_1, t91_4, t91_5, t91_8, t91_11, t91_12, t91_13, t91_16, t91_19, t91_22, t91_23, t91_25, t91_28, t91_29, t91_30, hC_13, hC_45, hC_47, hC_49, hC_54, gF_6_0, gF_6_1, gF_6_2, gF_6_3, gF_6_4, gF_6_5, gF_6_6, gF_6_7, gF_6_8, gF_6_9, hU_0, hU_7, hU_9, hU_11, hU_13, gF_5_0, gF_5_1, gF_5_2, gF_5_3, gF_5_4, gF_5_5, gF_5_6, gF_5_7, gF_5_8, gF_5_9, gF_5_10, gF_5_11, gF_5_12, gF_5_13, gF_3_0, gF_3_1, gF_3_2, gF_3_3, ln_add, nl_add, ln_mul, nl_mul, nI_add, nI_1, i32_nl, ite_not, lt_nn, lt_nl, lt_ln, eq_nn, eq_nl, eq_ln, if_true, if_false, kil_i, kil_r, kil_l, kil_u, rl_s, rl_n, Nat.zero_add, Nat.lt_irrefl, not_true_eq_false, not_false_eq_true, true_and, dp_1, dp_2, dp_3, dp_4, dp_5, dp_6, dp_7, dp_8, dp_9, dp_10, dp_11, dp_12, dp_13, dp_14, dp_15, dp_16, dp_17, dp_18, dp_19, dp_20, dp_21, dp_22, dp_23, dp_24, dp_25, dp_26, dp_27, dp_28, dp_29, dp_30, dp_31, dp_32, dp_33, dp_34, dp_35, dp_36, dp_37, dp_38, dp_39, U_hasHouse re, E_withinL, zb_0, q1, q2]
    have L := loop_f (P := fun m (_ : Unit) (_ : Unit) => T (d + 9) 91 31 [.ref 13, .int (nI a), .int x, .int (nI m)] [] (hX h ab be V O D) Q) (c := fun m _ => whC (sR S) g a x m) (F := fun _ s => s) (I := fun _ _ => True) (E := fun o _ => Q (some (.int (match o with | some j => nI j | none => -1))) (hX h ab be V O D)) (g := 61) ?_ ?_ ?_
    · refine (L () () trivial).2 ?_
      exact kcT cb W.2 ri sm k2
    · intro m _ _ hm _ hc
      have hc2 := of_decide_eq_true hc
      rw [i32_nl] at hc2
      rw [t91_31]
      simp (disch := first | assumption | omega | decide | exact hX_o13 | exact hU_o | exact hX_o45 | exact hX_o47 | exact hX_o49 | exact hX_o54 | exact hU_o7 | exact hU_o9 | exact hU_o11 | exact hU_o13) only [t91_32, t91_34, t91_37, t91_38, t91_41, t91_42, t91_43, t91_46, t91_47, t91_50, t91_51, hC_13, hC_45, hC_47, hC_49, hC_54, gF_6_0, gF_6_1, gF_6_2, gF_6_3, gF_6_4, gF_6_5, gF_6_6, gF_6_7, gF_6_8, gF_6_9, hU_0, hU_7, hU_9, hU_11, hU_13, gF_5_0, gF_5_1, gF_5_2, gF_5_3, gF_5_4, gF_5_5, gF_5_6, gF_5_7, gF_5_8, gF_5_9, gF_5_10, gF_5_11, gF_5_12, gF_5_13, gF_3_0, gF_3_1, gF_3_2, gF_3_3, ln_add, nl_add, ln_mul, nl_mul, nI_add, nI_1, i32_nl, ite_not, lt_nn, lt_nl, lt_ln, eq_nn, eq_nl, eq_ln, if_true, if_false, kil_i, kil_r, kil_l, kil_u, rl_s, rl_n, Nat.zero_add, Nat.lt_irrefl, not_true_eq_false, not_false_eq_true, true_and, dp_1, dp_2, dp_3, dp_4, dp_5, dp_6, dp_7, dp_8, dp_9, dp_10, dp_11, dp_12, dp_13, dp_14, dp_15, dp_16, dp_17, dp_18, dp_19, dp_20, dp_21, dp_22, dp_23, dp_24, dp_25, dp_26, dp_27, dp_28, dp_29, dp_30, dp_31, dp_32, dp_33, dp_34, dp_35, dp_36, dp_37, dp_38, dp_39, show ¬ 60 < m by omega, U_likingAfter re ha (sm.2.2.2.1 a ha).2.2, hc2]
    · intro m _ _ hm _ hc
      refine ⟨trivial, (), ?_⟩
      have hc2 : ¬ x ≤ _ := of_decide_eq_false (by rw [Bool.not_eq_true] at hc; exact hc)
      rw [i32_nl, Classical.not_not] at hc2
      rw [t91_31]
      simp (disch := first | assumption | omega | decide | exact hX_o13 | exact hU_o | exact hX_o45 | exact hX_o47 | exact hX_o49 | exact hX_o54 | exact hU_o7 | exact hU_o9 | exact hU_o11 | exact hU_o13) only [t91_32, t91_34, t91_37, t91_38, t91_41, t91_42, t91_43, t91_46, t91_47, t91_50, t91_51, t91_52, t91_55, hC_13, hC_45, hC_47, hC_49, hC_54, gF_6_0, gF_6_1, gF_6_2, gF_6_3, gF_6_4, gF_6_5, gF_6_6, gF_6_7, gF_6_8, gF_6_9, hU_0, hU_7, hU_9, hU_11, hU_13, gF_5_0, gF_5_1, gF_5_2, gF_5_3, gF_5_4, gF_5_5, gF_5_6, gF_5_7, gF_5_8, gF_5_9, gF_5_10, gF_5_11, gF_5_12, gF_5_13, gF_3_0, gF_3_1, gF_3_2, gF_3_3, ln_add, nl_add, ln_mul, nl_mul, nI_add, nI_1, i32_nl, ite_not, lt_nn, lt_nl, lt_ln, eq_nn, eq_nl, eq_ln, if_true, if_false, kil_i, kil_r, kil_l, kil_u, rl_s, rl_n, Nat.zero_add, Nat.lt_irrefl, not_true_eq_false, not_false_eq_true, true_and, dp_1, dp_2, dp_3, dp_4, dp_5, dp_6, dp_7, dp_8, dp_9, dp_10, dp_11, dp_12, dp_13, dp_14, dp_15, dp_16, dp_17, dp_18, dp_19, dp_20, dp_21, dp_22, dp_23, dp_24, dp_25, dp_26, dp_27, dp_28, dp_29, dp_30, dp_31, dp_32, dp_33, dp_34, dp_35, dp_36, dp_37, dp_38, dp_39, show ¬ 60 < m by omega, U_likingAfter re ha (sm.2.2.2.1 a ha).2.2, hc2]
    · intro _ _ _
      rw [t91_31]
      simp (disch := first | assumption | omega | decide | exact hX_o13 | exact hU_o | exact hX_o45 | exact hX_o47 | exact hX_o49 | exact hX_o54 | exact hU_o7 | exact hU_o9 | exact hU_o11 | exact hU_o13) only [t91_32, t91_34, t91_58, t91_59, hC_13, hC_45, hC_47, hC_49, hC_54, gF_6_0, gF_6_1, gF_6_2, gF_6_3, gF_6_4, gF_6_5, gF_6_6, gF_6_7, gF_6_8, gF_6_9, hU_0, hU_7, hU_9, hU_11, hU_13, gF_5_0, gF_5_1, gF_5_2, gF_5_3, gF_5_4, gF_5_5, gF_5_6, gF_5_7, gF_5_8, gF_5_9, gF_5_10, gF_5_11, gF_5_12, gF_5_13, gF_3_0, gF_3_1, gF_3_2, gF_3_3, ln_add, nl_add, ln_mul, nl_mul, nI_add, nI_1, i32_nl, ite_not, lt_nn, lt_nl, lt_ln, eq_nn, eq_nl, eq_ln, if_true, if_false, kil_i, kil_r, kil_l, kil_u, rl_s, rl_n, Nat.zero_add, Nat.lt_irrefl, not_true_eq_false, not_false_eq_true, true_and, dp_1, dp_2, dp_3, dp_4, dp_5, dp_6, dp_7, dp_8, dp_9, dp_10, dp_11, dp_12, dp_13, dp_14, dp_15, dp_16, dp_17, dp_18, dp_19, dp_20, dp_21, dp_22, dp_23, dp_24, dp_25, dp_26, dp_27, dp_28, dp_29, dp_30, dp_31, dp_32, dp_33, dp_34, dp_35, dp_36, dp_37, dp_38, dp_39, show 60 < 61 by decide]
  · rw [if_neg q] at k
    by_cases q2 : rg i 0 (hh - 1 : Int) = true
    · have q3 : ¬ rg x 1 999 = true := fun z => q ⟨q2, z⟩
      simp (disch := first | assumption | omega | decide | exact hX_o13 | exact hU_o | exact hX_o45 | exact hX_o47 | exact hX_o49 | exact hX_o54 | exact hU_o7 | exact hU_o9 | exact hU_o11 | exact hU_o13) only [t91_0, t91_1, t91_4, t91_5, t91_8, t91_11, t91_12, t91_13, t91_16, t91_19, t91_22, t91_23, t91_25, t91_28, hC_13, hC_45, hC_47, hC_49, hC_54, gF_6_0, gF_6_1, gF_6_2, gF_6_3, gF_6_4, gF_6_5, gF_6_6, gF_6_7, gF_6_8, gF_6_9, hU_0, hU_7, hU_9, hU_11, hU_13, gF_5_0, gF_5_1, gF_5_2, gF_5_3, gF_5_4, gF_5_5, gF_5_6, gF_5_7, gF_5_8, gF_5_9, gF_5_10, gF_5_11, gF_5_12, gF_5_13, gF_3_0, gF_3_1, gF_3_2, gF_3_3, ln_add, nl_add, ln_mul, nl_mul, nI_add, nI_1, i32_nl, ite_not, lt_nn, lt_nl, lt_ln, eq_nn, eq_nl, eq_ln, if_true, if_false, kil_i, kil_r, kil_l, kil_u, rl_s, rl_n, Nat.zero_add, Nat.lt_irrefl, not_true_eq_false, not_false_eq_true, true_and, dp_1, dp_2, dp_3, dp_4, dp_5, dp_6, dp_7, dp_8, dp_9, dp_10, dp_11, dp_12, dp_13, dp_14, dp_15, dp_16, dp_17, dp_18, dp_19, dp_20, dp_21, dp_22, dp_23, dp_24, dp_25, dp_26, dp_27, dp_28, dp_29, dp_30, dp_31, dp_32, dp_33, dp_34, dp_35, dp_36, dp_37, dp_38, dp_39, U_hasHouse re, E_withinL, zb_0, q2, q3, C_refB, Bool.false_eq_true]
      exact kcR cb ri sm 0 k
    · simp (disch := first | assumption | omega | decide | exact hX_o13 | exact hU_o | exact hX_o45 | exact hX_o47 | exact hX_o49 | exact hX_o54 | exact hU_o7 | exact hU_o9 | exact hU_o11 | exact hU_o13) only [t91_0, t91_1, t91_4, t91_5, t91_8, t91_11, t91_12, t91_13, t91_16, t91_19, t91_22, t91_23, t91_25, t91_28, hC_13, hC_45, hC_47, hC_49, hC_54, gF_6_0, gF_6_1, gF_6_2, gF_6_3, gF_6_4, gF_6_5, gF_6_6, gF_6_7, gF_6_8, gF_6_9, hU_0, hU_7, hU_9, hU_11, hU_13, gF_5_0, gF_5_1, gF_5_2, gF_5_3, gF_5_4, gF_5_5, gF_5_6, gF_5_7, gF_5_8, gF_5_9, gF_5_10, gF_5_11, gF_5_12, gF_5_13, gF_3_0, gF_3_1, gF_3_2, gF_3_3, ln_add, nl_add, ln_mul, nl_mul, nI_add, nI_1, i32_nl, ite_not, lt_nn, lt_nl, lt_ln, eq_nn, eq_nl, eq_ln, if_true, if_false, kil_i, kil_r, kil_l, kil_u, rl_s, rl_n, Nat.zero_add, Nat.lt_irrefl, not_true_eq_false, not_false_eq_true, true_and, dp_1, dp_2, dp_3, dp_4, dp_5, dp_6, dp_7, dp_8, dp_9, dp_10, dp_11, dp_12, dp_13, dp_14, dp_15, dp_16, dp_17, dp_18, dp_19, dp_20, dp_21, dp_22, dp_23, dp_24, dp_25, dp_26, dp_27, dp_28, dp_29, dp_30, dp_31, dp_32, dp_33, dp_34, dp_35, dp_36, dp_37, dp_38, dp_39, U_hasHouse re, zb_0, q2, C_refB, Bool.false_eq_true]
      exact kcR cb ri sm 0 k
/-- the class's way to the house that has most -/
def moC (R : Nat → Int32) (i j : Nat) (s : Int32 × Int32) : Int32 × Int32 := if s.1 = -1 ∨ s.2 < bsx (sts R i j (R 10)) then (nI j, bsx (sts R i j (R 10))) else s
theorem moC_eq {R : Nat → Int32} {i : Nat} : ∀ n j (s : Int32 × Int32), j + n ≤ 4 → ¬ s.1 = -1 → itr (moC R i) n j s = itr (mostF R i) n j s := by
  intro n
  induction n with
  | zero => intro j s _ _; rfl
  | succ n ih =>
    intro j s hj hs
    have e : moC R i j s = mostF R i j s := by
      unfold moC mostF
      simp only []
      by_cases q : s.2 < bsx (sts R i j (R 10))
      · rw [if_pos (Or.inr q), if_pos q, if_pos q]
      · rw [if_neg (fun z => z.elim hs q), if_neg q, if_neg q]
    unfold itr
    rw [e]
    refine ih (j + 1) _ (by omega) ?_
    unfold mostF
    simp only []
    split
    · exact nm1 (by omega)
    · exact hs
theorem moC_mostV {R : Nat → Int32} {i : Nat} (h4 : hh ≤ 4) : (itr (moC R i) hh 0 (-1, 0)).1 = (mostV R i hh).1 ∧ (itr (moC R i) hh 0 (-1, 0)).2 = (if (mostV R i hh).1 = -1 then 0 else (mostV R i hh).2) := by
  unfold mostV
  cases hh with
  | zero => exact ⟨rfl, rfl⟩
  | succ m =>
    obtain ⟨h1, h2⟩ := nb_stb (R (13 + i)) (R (19 + i)) (nd (R (26 + 0)) (R (30 + 0)) (R 10))
    have e1 : moC R i 0 (-1, 0) = (nI 0, bsx (sts R i 0 (R 10))) := by unfold moC; rw [if_pos (Or.inl rfl)]
    have e2 : mostF R i 0 (-1, -1) = (nI 0, bsx (sts R i 0 (R 10))) := by
      unfold mostF
      simp only []
      have : (-1 : Int32) < bsx (sts R i 0 (R 10)) := by
        unfold sts
        rw [h1, i32_lt, nI_toInt (by omega), show (-1 : Int32).toInt = -1 from rfl]
        omega
      rw [if_pos this, if_pos this]
    unfold itr
    rw [e1, e2, moC_eq m 1 _ (by omega) (nm1 (by decide))]
    have hne : ∀ n j (s : Int32 × Int32), j + n ≤ 4 → ¬ s.1 = -1 → ¬ (itr (mostF R i) n j s).1 = -1 := by
      intro n
      induction n with
      | zero => intro j s _ hs; exact hs
      | succ n ih =>
        intro j s hj hs
        unfold itr
        refine ih (j + 1) _ (by omega) ?_
        unfold mostF
        simp only []
        split
        · exact nm1 (by omega)
        · exact hs
    rw [if_neg (hne m 1 _ (by omega) (nm1 (by decide)))]
    exact ⟨rfl, rfl⟩
theorem X_most {i w : Int32} (c : ClsAt h S g hh sn nn mn un0 n) (k : ∀ h2, CAx h2 (sp_most g hh S i w).2 → frC h h2 → Q (some (.int (sp_most g hh S i w).1)) h2) : T (d + 9) 92 0 [.ref 13, .int i, .int w, un, un, un, un] [] h Q := by
  obtain ⟨ab, be, V, O, D, I, c1, c2, cb, ri, sm⟩ := c
  refine T_eq (hX_self c1 c2) ?_
  have re := sm.rl ri
  have h6 := ri.1.2
  have h4 := ri.2.1.2
  have hh0 : D 0 1 = nI hh := sm.1.2.1.trans ri.2.1.1
  unfold sp_most at k
  by_cases q : rg i 0 (g - 1 : Int) = true ∧ rg w 0 1 = true
  · rw [if_pos q] at k
    obtain ⟨q1, q2⟩ := q
    obtain ⟨a, ha, rfl⟩ := rg_n q1
    simp (disch := first | assumption | omega | decide) only [nI_clamp] at k
    obtain ⟨m1, m2⟩ := @moC_mostV hh (sR S) a h4
    rw [← m2, ← m1] at k
    simp (disch := first | assumption | omega | decide | exact hX_o13 | exact hU_o | exact hX_o45 | exact hX_o47 | exact hX_o49 | exact hX_o54 | exact hU_o7 | exact hU_o9 | exact hU_o11 | exact hU_o13) only [t92_0, t92_1, t92_4, t92_5, t92_8, t92_11, t92_12, t92_13, t92_14, t92_17, t92_20, t92_21, t92_23, t92_26, t92_27, t92_28, t92_29, t92_30, t92_32, t92_33, hC_13, hC_45, hC_47, hC_49, hC_54, gF_6_0, gF_6_1, gF_6_2, gF_6_3, gF_6_4, gF_6_5, gF_6_6, gF_6_7, gF_6_8, gF_6_9, hU_0, hU_7, hU_9, hU_11, hU_13, gF_5_0, gF_5_1, gF_5_2, gF_5_3, gF_5_4, gF_5_5, gF_5_6, gF_5_7, gF_5_8, gF_5_9, gF_5_10, gF_5_11, gF_5_12, gF_5_13, gF_3_0, gF_3_1, gF_3_2, gF_3_3, ln_add, nl_add, ln_mul, nl_mul, nI_add, nI_1, i32_nl, ite_not, lt_nn, lt_nl, lt_ln, eq_nn, eq_nl, eq_ln, if_true, if_false, kil_i, kil_r, kil_l, kil_u, rl_s, rl_n, Nat.zero_add, Nat.lt_irrefl, not_true_eq_false, not_false_eq_true, true_and, dp_1, dp_2, dp_3, dp_4, dp_5, dp_6, dp_7, dp_8, dp_9, dp_10, dp_11, dp_12, dp_13, dp_14, dp_15, dp_16, dp_17, dp_18, dp_19, dp_20, dp_21, dp_22, dp_23, dp_24, dp_25, dp_26, dp_27, dp_28, dp_29, dp_30, dp_31, dp_32, dp_33, dp_34, dp_35, dp_36, dp_37, dp_38, dp_39, U_hasGuest re, E_withinL, zb_0, q1, q2]
    have L := loop_d (P := fun j (s : Int32 × Int32) (u : Value) => T (d + 9) 92 35 [.ref 13, .int (nI a), .int w, .int s.1, .int s.2, .int (nI j), u] [] (hX h ab be V O D) Q) (F := moC (sR S) a) (E := fun s => Q (some (.int (if w = 0 then s.1 else s.2))) (hX h ab be V O D)) (g := hh) ?_ ?_
    · refine (L (-1, 0) un).2 ?_
      exact kcN cb ri sm k
    · intro j s u hj
      refine ⟨.int (bsx (sts (sR S) a j (sR S 10))), ?_⟩
      have U := @U_stayCount (d + 5) (hC h ab be V O) (fun r h2 => T (d + 9) 92 57 [.ref 13, .int (nI a), .int w, .int s.1, .int s.2, .int (nI j), u] (rl r []) h2 Q) 14 0 g hh D (sR S) a j re ha hj
      rw [t92_35]
      simp (disch := first | assumption | omega | decide | exact hX_o13 | exact hU_o | exact hX_o45 | exact hX_o47 | exact hX_o49 | exact hX_o54 | exact hU_o7 | exact hU_o9 | exact hU_o11 | exact hU_o13) only [t92_37, t92_38, t92_41, t92_44, t92_47, t92_48, t92_51, t92_52, t92_54, hC_13, hC_45, hC_47, hC_49, hC_54, gF_6_0, gF_6_1, gF_6_2, gF_6_3, gF_6_4, gF_6_5, gF_6_6, gF_6_7, gF_6_8, gF_6_9, hU_0, hU_7, hU_9, hU_11, hU_13, gF_5_0, gF_5_1, gF_5_2, gF_5_3, gF_5_4, gF_5_5, gF_5_6, gF_5_7, gF_5_8, gF_5_9, gF_5_10, gF_5_11, gF_5_12, gF_5_13, gF_3_0, gF_3_1, gF_3_2, gF_3_3, ln_add, nl_add, ln_mul, nl_mul, nI_add, nI_1, i32_nl, ite_not, lt_nn, lt_nl, lt_ln, eq_nn, eq_nl, eq_ln, if_true, if_false, kil_i, kil_r, kil_l, kil_u, rl_s, rl_n, Nat.zero_add, Nat.lt_irrefl, not_true_eq_false, not_false_eq_true, true_and, dp_1, dp_2, dp_3, dp_4, dp_5, dp_6, dp_7, dp_8, dp_9, dp_10, dp_11, dp_12, dp_13, dp_14, dp_15, dp_16, dp_17, dp_18, dp_19, dp_20, dp_21, dp_22, dp_23, dp_24, dp_25, dp_26, dp_27, dp_28, dp_29, dp_30, dp_31, dp_32, dp_33, dp_34, dp_35, dp_36, dp_37, dp_38, dp_39, hh0, hj]
      refine U.trans ?_
      unfold moC
      by_cases p1 : s.1 = -1
      · simp (disch := first | assumption | omega | decide | exact hX_o13 | exact hU_o | exact hX_o45 | exact hX_o47 | exact hX_o49 | exact hX_o54 | exact hU_o7 | exact hU_o9 | exact hU_o11 | exact hU_o13) only [t92_57, t92_59, t92_60, t92_61, t92_64, t92_66, t92_68, t92_71, t92_73, t92_74, t92_76, t92_78, t92_81, hC_13, hC_45, hC_47, hC_49, hC_54, gF_6_0, gF_6_1, gF_6_2, gF_6_3, gF_6_4, gF_6_5, gF_6_6, gF_6_7, gF_6_8, gF_6_9, hU_0, hU_7, hU_9, hU_11, hU_13, gF_5_0, gF_5_1, gF_5_2, gF_5_3, gF_5_4, gF_5_5, gF_5_6, gF_5_7, gF_5_8, gF_5_9, gF_5_10, gF_5_11, gF_5_12, gF_5_13, gF_3_0, gF_3_1, gF_3_2, gF_3_3, ln_add, nl_add, ln_mul, nl_mul, nI_add, nI_1, i32_nl, ite_not, lt_nn, lt_nl, lt_ln, eq_nn, eq_nl, eq_ln, if_true, if_false, kil_i, kil_r, kil_l, kil_u, rl_s, rl_n, Nat.zero_add, Nat.lt_irrefl, not_true_eq_false, not_false_eq_true, true_and, dp_1, dp_2, dp_3, dp_4, dp_5, dp_6, dp_7, dp_8, dp_9, dp_10, dp_11, dp_12, dp_13, dp_14, dp_15, dp_16, dp_17, dp_18, dp_19, dp_20, dp_21, dp_22, dp_23, dp_24, dp_25, dp_26, dp_27, dp_28, dp_29, dp_30, dp_31, dp_32, dp_33, dp_34, dp_35, dp_36, dp_37, dp_38, dp_39, p1, true_or]
      · by_cases p2 : s.2 < bsx (sts (sR S) a j (sR S 10))
        · simp (disch := first | assumption | omega | decide | exact hX_o13 | exact hU_o | exact hX_o45 | exact hX_o47 | exact hX_o49 | exact hX_o54 | exact hU_o7 | exact hU_o9 | exact hU_o11 | exact hU_o13) only [t92_57, t92_59, t92_60, t92_61, t92_64, t92_66, t92_68, t92_71, t92_73, t92_74, t92_76, t92_78, t92_81, hC_13, hC_45, hC_47, hC_49, hC_54, gF_6_0, gF_6_1, gF_6_2, gF_6_3, gF_6_4, gF_6_5, gF_6_6, gF_6_7, gF_6_8, gF_6_9, hU_0, hU_7, hU_9, hU_11, hU_13, gF_5_0, gF_5_1, gF_5_2, gF_5_3, gF_5_4, gF_5_5, gF_5_6, gF_5_7, gF_5_8, gF_5_9, gF_5_10, gF_5_11, gF_5_12, gF_5_13, gF_3_0, gF_3_1, gF_3_2, gF_3_3, ln_add, nl_add, ln_mul, nl_mul, nI_add, nI_1, i32_nl, ite_not, lt_nn, lt_nl, lt_ln, eq_nn, eq_nl, eq_ln, if_true, if_false, kil_i, kil_r, kil_l, kil_u, rl_s, rl_n, Nat.zero_add, Nat.lt_irrefl, not_true_eq_false, not_false_eq_true, true_and, dp_1, dp_2, dp_3, dp_4, dp_5, dp_6, dp_7, dp_8, dp_9, dp_10, dp_11, dp_12, dp_13, dp_14, dp_15, dp_16, dp_17, dp_18, dp_19, dp_20, dp_21, dp_22, dp_23, dp_24, dp_25, dp_26, dp_27, dp_28, dp_29, dp_30, dp_31, dp_32, dp_33, dp_34, dp_35, dp_36, dp_37, dp_38, dp_39, p1, p2, or_true]
        · simp (disch := first | assumption | omega | decide | exact hX_o13 | exact hU_o | exact hX_o45 | exact hX_o47 | exact hX_o49 | exact hX_o54 | exact hU_o7 | exact hU_o9 | exact hU_o11 | exact hU_o13) only [t92_57, t92_59, t92_60, t92_61, t92_64, t92_66, t92_68, t92_71, t92_73, t92_74, t92_76, t92_78, t92_81, hC_13, hC_45, hC_47, hC_49, hC_54, gF_6_0, gF_6_1, gF_6_2, gF_6_3, gF_6_4, gF_6_5, gF_6_6, gF_6_7, gF_6_8, gF_6_9, hU_0, hU_7, hU_9, hU_11, hU_13, gF_5_0, gF_5_1, gF_5_2, gF_5_3, gF_5_4, gF_5_5, gF_5_6, gF_5_7, gF_5_8, gF_5_9, gF_5_10, gF_5_11, gF_5_12, gF_5_13, gF_3_0, gF_3_1, gF_3_2, gF_3_3, ln_add, nl_add, ln_mul, nl_mul, nI_add, nI_1, i32_nl, ite_not, lt_nn, lt_nl, lt_ln, eq_nn, eq_nl, eq_ln, if_true, if_false, kil_i, kil_r, kil_l, kil_u, rl_s, rl_n, Nat.zero_add, Nat.lt_irrefl, not_true_eq_false, not_false_eq_true, true_and, dp_1, dp_2, dp_3, dp_4, dp_5, dp_6, dp_7, dp_8, dp_9, dp_10, dp_11, dp_12, dp_13, dp_14, dp_15, dp_16, dp_17, dp_18, dp_19, dp_20, dp_21, dp_22, dp_23, dp_24, dp_25, dp_26, dp_27, dp_28, dp_29, dp_30, dp_31, dp_32, dp_33, dp_34, dp_35, dp_36, dp_37, dp_38, dp_39, p1, p2, or_self]
    · intro s u
      rw [t92_35]
      by_cases p : w = 0 <;> simp (disch := first | assumption | omega | decide | exact hX_o13 | exact hU_o | exact hX_o45 | exact hX_o47 | exact hX_o49 | exact hX_o54 | exact hU_o7 | exact hU_o9 | exact hU_o11 | exact hU_o13) only [t92_37, t92_38, t92_41, t92_44, t92_84, t92_85, t92_88, t92_89, t92_92, t92_94, hC_13, hC_45, hC_47, hC_49, hC_54, gF_6_0, gF_6_1, gF_6_2, gF_6_3, gF_6_4, gF_6_5, gF_6_6, gF_6_7, gF_6_8, gF_6_9, hU_0, hU_7, hU_9, hU_11, hU_13, gF_5_0, gF_5_1, gF_5_2, gF_5_3, gF_5_4, gF_5_5, gF_5_6, gF_5_7, gF_5_8, gF_5_9, gF_5_10, gF_5_11, gF_5_12, gF_5_13, gF_3_0, gF_3_1, gF_3_2, gF_3_3, ln_add, nl_add, ln_mul, nl_mul, nI_add, nI_1, i32_nl, ite_not, lt_nn, lt_nl, lt_ln, eq_nn, eq_nl, eq_ln, if_true, if_false, kil_i, kil_r, kil_l, kil_u, rl_s, rl_n, Nat.zero_add, Nat.lt_irrefl, not_true_eq_false, not_false_eq_true, true_and, dp_1, dp_2, dp_3, dp_4, dp_5, dp_6, dp_7, dp_8, dp_9, dp_10, dp_11, dp_12, dp_13, dp_14, dp_15, dp_16, dp_17, dp_18, dp_19, dp_20, dp_21, dp_22, dp_23, dp_24, dp_25, dp_26, dp_27, dp_28, dp_29, dp_30, dp_31, dp_32, dp_33, dp_34, dp_35, dp_36, dp_37, dp_38, dp_39, hh0, p]
  · rw [if_neg q] at k
    by_cases q2 : rg i 0 (g - 1 : Int) = true
    · have q3 : ¬ rg w 0 1 = true := fun z => q ⟨q2, z⟩
      simp (disch := first | assumption | omega | decide | exact hX_o13 | exact hU_o | exact hX_o45 | exact hX_o47 | exact hX_o49 | exact hX_o54 | exact hU_o7 | exact hU_o9 | exact hU_o11 | exact hU_o13) only [t92_0, t92_1, t92_4, t92_5, t92_8, t92_11, t92_12, t92_13, t92_14, t92_17, t92_20, t92_21, t92_23, t92_26, hC_13, hC_45, hC_47, hC_49, hC_54, gF_6_0, gF_6_1, gF_6_2, gF_6_3, gF_6_4, gF_6_5, gF_6_6, gF_6_7, gF_6_8, gF_6_9, hU_0, hU_7, hU_9, hU_11, hU_13, gF_5_0, gF_5_1, gF_5_2, gF_5_3, gF_5_4, gF_5_5, gF_5_6, gF_5_7, gF_5_8, gF_5_9, gF_5_10, gF_5_11, gF_5_12, gF_5_13, gF_3_0, gF_3_1, gF_3_2, gF_3_3, ln_add, nl_add, ln_mul, nl_mul, nI_add, nI_1, i32_nl, ite_not, lt_nn, lt_nl, lt_ln, eq_nn, eq_nl, eq_ln, if_true, if_false, kil_i, kil_r, kil_l, kil_u, rl_s, rl_n, Nat.zero_add, Nat.lt_irrefl, not_true_eq_false, not_false_eq_true, true_and, dp_1, dp_2, dp_3, dp_4, dp_5, dp_6, dp_7, dp_8, dp_9, dp_10, dp_11, dp_12, dp_13, dp_14, dp_15, dp_16, dp_17, dp_18, dp_19, dp_20, dp_21, dp_22, dp_23, dp_24, dp_25, dp_26, dp_27, dp_28, dp_29, dp_30, dp_31, dp_32, dp_33, dp_34, dp_35, dp_36, dp_37, dp_38, dp_39, U_hasGuest re, E_withinL, zb_0, q2, q3, C_refB, Bool.false_eq_true]
      exact kcR cb ri sm 0 k
    · simp (disch := first | assumption | omega | decide | exact hX_o13 | exact hU_o | exact hX_o45 | exact hX_o47 | exact hX_o49 | exact hX_o54 | exact hU_o7 | exact hU_o9 | exact hU_o11 | exact hU_o13) only [t92_0, t92_1, t92_4, t92_5, t92_8, t92_11, t92_12, t92_13, t92_14, t92_17, t92_20, t92_21, t92_23, t92_26, hC_13, hC_45, hC_47, hC_49, hC_54, gF_6_0, gF_6_1, gF_6_2, gF_6_3, gF_6_4, gF_6_5, gF_6_6, gF_6_7, gF_6_8, gF_6_9, hU_0, hU_7, hU_9, hU_11, hU_13, gF_5_0, gF_5_1, gF_5_2, gF_5_3, gF_5_4, gF_5_5, gF_5_6, gF_5_7, gF_5_8, gF_5_9, gF_5_10, gF_5_11, gF_5_12, gF_5_13, gF_3_0, gF_3_1, gF_3_2, gF_3_3, ln_add, nl_add, ln_mul, nl_mul, nI_add, nI_1, i32_nl, ite_not, lt_nn, lt_nl, lt_ln, eq_nn, eq_nl, eq_ln, if_true, if_false, kil_i, kil_r, kil_l, kil_u, rl_s, rl_n, Nat.zero_add, Nat.lt_irrefl, not_true_eq_false, not_false_eq_true, true_and, dp_1, dp_2, dp_3, dp_4, dp_5, dp_6, dp_7, dp_8, dp_9, dp_10, dp_11, dp_12, dp_13, dp_14, dp_15, dp_16, dp_17, dp_18, dp_19, dp_20, dp_21, dp_22, dp_23, dp_24, dp_25, dp_26, dp_27, dp_28, dp_29, dp_30, dp_31, dp_32, dp_33, dp_34, dp_35, dp_36, dp_37, dp_38, dp_39, U_hasGuest re, zb_0, q2, C_refB, Bool.false_eq_true]
      exact kcR cb ri sm 0 k
/-- the class's way to the finest round -/
def roC (R : Nat → Int32) (i hh : Nat) (m : Nat) (best : Int32) : Int32 :=
  if (best = -1 ∨ bc (nI (1 + m)) < bc best) ∧ rndH R i (nI (1 + m)) hh = 31 then nI (1 + m) else best
theorem roC_eq {R : Nat → Int32} {i : Nat} : ∀ n m (b : Int32), m + n ≤ 15 → (b = -1 ∨ ∃ v, v < 16 ∧ b = nI v) → itr (roC R i hh) n m b = itr (rndF R i hh) n (1 + m) b := by
  intro n
  induction n with
  | zero => intro m b _ _; rfl
  | succ n ih =>
    intro m b hm hb
    have e : roC R i hh m b = rndF R i hh (1 + m) b := by
      unfold roC rndF
      have e2 : (b = -1 ∨ bc (nI (1 + m)) < bc b) = (b = -1 ∨ bsx (nI (1 + m)) < bsx b) := by
        rcases hb with z | ⟨v, hv, z⟩
        · simp [z]
        · rw [z, b6_bc _ (by omega), b6_bc _ (by omega)]
      by_cases z1 : rndH R i (nI (1 + m)) hh = 31 ∧ (b = -1 ∨ bsx (nI (1 + m)) < bsx b)
      · rw [if_pos z1, if_pos ⟨by rw [e2]; exact z1.2, z1.1⟩]
      · rw [if_neg z1, if_neg (fun y => z1 ⟨y.2, by rw [← e2]; exact y.1⟩)]
    unfold itr
    rw [e]
    refine ih (m + 1) _ (by omega) ?_
    unfold rndF
    split
    · exact Or.inr ⟨1 + m, by omega, rfl⟩
    · exact hb
theorem hb_0 : ∀ j, j < 4 → hb (nI 0) (nI j) = 0 := by decide
theorem rndH_0 {R : Nat → Int32} {i : Nat} (h4 : hh ≤ 4) : rndH R i (nI 0) hh = 0 := by
  have key : ∀ n j, j + n ≤ 4 → itr (fun j had => had ||| (if hb (nI 0) (nI j) = 0 then 0 else sts R i j (R 10))) n j 0 = 0 := by
    intro n
    induction n with
    | zero => intro j _; rfl
    | succ n ih =>
      intro j hj
      unfold itr
      rw [if_pos (hb_0 j (by omega)), or_0]
      exact ih (j + 1) (by omega)
  exact key hh 0 (by omega)
theorem X_round {i : Int32} (c : ClsAt h S g hh sn nn mn un0 n) (k : ∀ h2, CAx h2 (sp_round g hh S i).2 → frC h h2 → Q (some (.int (sp_round g hh S i).1)) h2) : T (d + 9) 93 0 [.ref 13, .int i, un, un, un] [] h Q := by
  obtain ⟨ab, be, V, O, D, I, c1, c2, cb, ri, sm⟩ := c
  refine T_eq (hX_self c1 c2) ?_
  have re := sm.rl ri
  have h6 := ri.1.2
  have h4 := ri.2.1.2
  have hh0 : D 0 1 = nI hh := sm.1.2.1.trans ri.2.1.1
  unfold sp_round at k
  by_cases q : rg i 0 (g - 1 : Int) = true
  · rw [if_pos q] at k
    obtain ⟨a, ha, rfl⟩ := rg_n q
    simp (disch := first | assumption | omega | decide) only [nI_clamp] at k
    have h16 := two_le h4
    have h1 : 1 ≤ 2 ^ hh := Nat.one_le_two_pow
    have eS := shl_4 hh h4
    obtain ⟨N, hN⟩ : ∃ N, N + 1 = 2 ^ hh := ⟨2 ^ hh - 1, by omega⟩
    rw [← hN] at k h16 eS
    have e0 : itr (rndF (sR S) a hh) (N + 1) 0 (-1) = itr (roC (sR S) a hh) N 0 (-1) := by
      rw [roC_eq N 0 (-1) (by omega) (Or.inl rfl)]
      have e : rndF (sR S) a hh 0 (-1) = -1 := by
        unfold rndF
        rw [rndH_0 h4, if_neg (fun z => absurd z.1 (by decide))]
      show itr (rndF (sR S) a hh) N (0 + 1) (rndF (sR S) a hh 0 (-1)) = _
      rw [e]
    rw [e0] at k
    have e31 : ∀ x : Int32, (x = 31) = (x = 31) := fun _ => rfl
    simp (disch := first | assumption | omega | decide | exact hX_o13 | exact hU_o | exact hX_o45 | exact hX_o47 | exact hX_o49 | exact hX_o54 | exact hU_o7 | exact hU_o9 | exact hU_o11 | exact hU_o13) only [t93_0, t93_1, t93_4, t93_5, t93_8, t93_11, t93_12, t93_14, t93_17, t93_18, t93_19, t93_20, t93_21, hC_13, hC_45, hC_47, hC_49, hC_54, gF_6_0, gF_6_1, gF_6_2, gF_6_3, gF_6_4, gF_6_5, gF_6_6, gF_6_7, gF_6_8, gF_6_9, hU_0, hU_7, hU_9, hU_11, hU_13, gF_5_0, gF_5_1, gF_5_2, gF_5_3, gF_5_4, gF_5_5, gF_5_6, gF_5_7, gF_5_8, gF_5_9, gF_5_10, gF_5_11, gF_5_12, gF_5_13, gF_3_0, gF_3_1, gF_3_2, gF_3_3, ln_add, nl_add, ln_mul, nl_mul, nI_add, nI_1, i32_nl, ite_not, lt_nn, lt_nl, lt_ln, eq_nn, eq_nl, eq_ln, if_true, if_false, kil_i, kil_r, kil_l, kil_u, rl_s, rl_n, Nat.zero_add, Nat.lt_irrefl, not_true_eq_false, not_false_eq_true, true_and, dp_1, dp_2, dp_3, dp_4, dp_5, dp_6, dp_7, dp_8, dp_9, dp_10, dp_11, dp_12, dp_13, dp_14, dp_15, dp_16, dp_17, dp_18, dp_19, dp_20, dp_21, dp_22, dp_23, dp_24, dp_25, dp_26, dp_27, dp_28, dp_29, dp_30, dp_31, dp_32, dp_33, dp_34, dp_35, dp_36, dp_37, dp_38, dp_39, U_hasGuest re, zb_0, q]
    have L := loop_d (P := fun m (best : Int32) (u : Value) => T (d + 9) 93 22 [.ref 13, .int (nI a), .int best, .int (nI (1 + m)), u] [] (hX h ab be V O D) Q) (F := roC (sR S) a hh) (E := fun s => Q (some (.int s)) (hX h ab be V O D)) (g := N) ?_ ?_
    · refine (L (-1) un).2 ?_
      exact kcN cb ri sm k
    · intro m best u hm
      refine ⟨.int (if best = -1 ∨ bc (nI (1 + m)) < bc best then 1 else 0), ?_⟩
      have U := fun z => @U_stayRound (d + 5) (hC h ab be V O) (fun r h2 => T (d + 9) 93 72 [.ref 13, .int (nI a), .int best, .int (nI (1 + m)), .int z] (rl r []) h2 Q) 14 0 g hh D (sR S) a (nI (1 + m)) re ha
      rw [t93_22, show 1 + (m + 1) = 1 + m + 1 by omega]
      simp (disch := first | assumption | omega | decide | exact hX_o13 | exact hU_o | exact hX_o45 | exact hX_o47 | exact hX_o49 | exact hX_o54 | exact hU_o7 | exact hU_o9 | exact hU_o11 | exact hU_o13) only [t93_23, t93_24, t93_25, t93_28, t93_31, t93_32, hC_13, hC_45, hC_47, hC_49, hC_54, gF_6_0, gF_6_1, gF_6_2, gF_6_3, gF_6_4, gF_6_5, gF_6_6, gF_6_7, gF_6_8, gF_6_9, hU_0, hU_7, hU_9, hU_11, hU_13, gF_5_0, gF_5_1, gF_5_2, gF_5_3, gF_5_4, gF_5_5, gF_5_6, gF_5_7, gF_5_8, gF_5_9, gF_5_10, gF_5_11, gF_5_12, gF_5_13, gF_3_0, gF_3_1, gF_3_2, gF_3_3, ln_add, nl_add, ln_mul, nl_mul, nI_add, nI_1, i32_nl, ite_not, lt_nn, lt_nl, lt_ln, eq_nn, eq_nl, eq_ln, if_true, if_false, kil_i, kil_r, kil_l, kil_u, rl_s, rl_n, Nat.zero_add, Nat.lt_irrefl, not_true_eq_false, not_false_eq_true, true_and, dp_1, dp_2, dp_3, dp_4, dp_5, dp_6, dp_7, dp_8, dp_9, dp_10, dp_11, dp_12, dp_13, dp_14, dp_15, dp_16, dp_17, dp_18, dp_19, dp_20, dp_21, dp_22, dp_23, dp_24, dp_25, dp_26, dp_27, dp_28, dp_29, dp_30, dp_31, dp_32, dp_33, dp_34, dp_35, dp_36, dp_37, dp_38, dp_39, hh0, eS, show 1 + m < N + 1 by omega]
      unfold roC
      by_cases p1 : best = -1 ∨ bc (nI (1 + m)) < bc best
      · have e35 : ∀ Q2 : Pst, (T (d + 9) 93 35 [.ref 13, .int (nI a), .int best, .int (nI (1 + m)), u] [] (hX h ab be V O D) Q2 ↔ T (d + 9) 93 63 [.ref 13, .int (nI a), .int best, .int (nI (1 + m)), .int 1] [] (hX h ab be V O D) Q2) := fun Q2 => by
          by_cases p2 : best = -1
          · simp (disch := first | assumption | omega | decide | exact hX_o13 | exact hU_o | exact hX_o45 | exact hX_o47 | exact hX_o49 | exact hX_o54 | exact hU_o7 | exact hU_o9 | exact hU_o11 | exact hU_o13) only [t93_35, t93_36, t93_37, t93_40, t93_41, t93_44, t93_45, t93_48, t93_51, t93_52, t93_55, t93_56, t93_58, t93_60, hC_13, hC_45, hC_47, hC_49, hC_54, gF_6_0, gF_6_1, gF_6_2, gF_6_3, gF_6_4, gF_6_5, gF_6_6, gF_6_7, gF_6_8, gF_6_9, hU_0, hU_7, hU_9, hU_11, hU_13, gF_5_0, gF_5_1, gF_5_2, gF_5_3, gF_5_4, gF_5_5, gF_5_6, gF_5_7, gF_5_8, gF_5_9, gF_5_10, gF_5_11, gF_5_12, gF_5_13, gF_3_0, gF_3_1, gF_3_2, gF_3_3, ln_add, nl_add, ln_mul, nl_mul, nI_add, nI_1, i32_nl, ite_not, lt_nn, lt_nl, lt_ln, eq_nn, eq_nl, eq_ln, if_true, if_false, kil_i, kil_r, kil_l, kil_u, rl_s, rl_n, Nat.zero_add, Nat.lt_irrefl, not_true_eq_false, not_false_eq_true, true_and, dp_1, dp_2, dp_3, dp_4, dp_5, dp_6, dp_7, dp_8, dp_9, dp_10, dp_11, dp_12, dp_13, dp_14, dp_15, dp_16, dp_17, dp_18, dp_19, dp_20, dp_21, dp_22, dp_23, dp_24, dp_25, dp_26, dp_27, dp_28, dp_29, dp_30, dp_31, dp_32, dp_33, dp_34, dp_35, dp_36, dp_37, dp_38, dp_39, p2, z10]
          · have p3 := p1.resolve_left p2
            simp (disch := first | assumption | omega | decide | exact hX_o13 | exact hU_o | exact hX_o45 | exact hX_o47 | exact hX_o49 | exact hX_o54 | exact hU_o7 | exact hU_o9 | exact hU_o11 | exact hU_o13) only [t93_35, t93_36, t93_37, t93_40, t93_41, t93_44, t93_45, t93_48, t93_51, t93_52, t93_55, t93_56, t93_58, t93_60, hC_13, hC_45, hC_47, hC_49, hC_54, gF_6_0, gF_6_1, gF_6_2, gF_6_3, gF_6_4, gF_6_5, gF_6_6, gF_6_7, gF_6_8, gF_6_9, hU_0, hU_7, hU_9, hU_11, hU_13, gF_5_0, gF_5_1, gF_5_2, gF_5_3, gF_5_4, gF_5_5, gF_5_6, gF_5_7, gF_5_8, gF_5_9, gF_5_10, gF_5_11, gF_5_12, gF_5_13, gF_3_0, gF_3_1, gF_3_2, gF_3_3, ln_add, nl_add, ln_mul, nl_mul, nI_add, nI_1, i32_nl, ite_not, lt_nn, lt_nl, lt_ln, eq_nn, eq_nl, eq_ln, if_true, if_false, kil_i, kil_r, kil_l, kil_u, rl_s, rl_n, Nat.zero_add, Nat.lt_irrefl, not_true_eq_false, not_false_eq_true, true_and, dp_1, dp_2, dp_3, dp_4, dp_5, dp_6, dp_7, dp_8, dp_9, dp_10, dp_11, dp_12, dp_13, dp_14, dp_15, dp_16, dp_17, dp_18, dp_19, dp_20, dp_21, dp_22, dp_23, dp_24, dp_25, dp_26, dp_27, dp_28, dp_29, dp_30, dp_31, dp_32, dp_33, dp_34, dp_35, dp_36, dp_37, dp_38, dp_39, p2, E_bitCount, p3, z10]
        rw [e35, if_pos p1]
        simp (disch := first | assumption | omega | decide | exact hX_o13 | exact hU_o | exact hX_o45 | exact hX_o47 | exact hX_o49 | exact hX_o54 | exact hU_o7 | exact hU_o9 | exact hU_o11 | exact hU_o13) only [t93_63, t93_64, t93_67, t93_68, t93_69, hC_13, hC_45, hC_47, hC_49, hC_54, gF_6_0, gF_6_1, gF_6_2, gF_6_3, gF_6_4, gF_6_5, gF_6_6, gF_6_7, gF_6_8, gF_6_9, hU_0, hU_7, hU_9, hU_11, hU_13, gF_5_0, gF_5_1, gF_5_2, gF_5_3, gF_5_4, gF_5_5, gF_5_6, gF_5_7, gF_5_8, gF_5_9, gF_5_10, gF_5_11, gF_5_12, gF_5_13, gF_3_0, gF_3_1, gF_3_2, gF_3_3, ln_add, nl_add, ln_mul, nl_mul, nI_add, nI_1, i32_nl, ite_not, lt_nn, lt_nl, lt_ln, eq_nn, eq_nl, eq_ln, if_true, if_false, kil_i, kil_r, kil_l, kil_u, rl_s, rl_n, Nat.zero_add, Nat.lt_irrefl, not_true_eq_false, not_false_eq_true, true_and, dp_1, dp_2, dp_3, dp_4, dp_5, dp_6, dp_7, dp_8, dp_9, dp_10, dp_11, dp_12, dp_13, dp_14, dp_15, dp_16, dp_17, dp_18, dp_19, dp_20, dp_21, dp_22, dp_23, dp_24, dp_25, dp_26, dp_27, dp_28, dp_29, dp_30, dp_31, dp_32, dp_33, dp_34, dp_35, dp_36, dp_37, dp_38, dp_39]
        refine (U 1).trans ?_
        show (T (d + 9) 93 72 [.ref 13, .int (nI a), .int best, .int (nI (1 + m)), .int 1] (rl (some (.int (rndH (sR S) a (nI (1 + m)) hh))) []) (hX h ab be V O D) Q) ↔ _
        by_cases p4 : rndH (sR S) a (nI (1 + m)) hh = 31
        · rw [if_pos ⟨p1, p4⟩]
          simp (disch := first | assumption | omega | decide | exact hX_o13 | exact hU_o | exact hX_o45 | exact hX_o47 | exact hX_o49 | exact hX_o54 | exact hU_o7 | exact hU_o9 | exact hU_o11 | exact hU_o13) only [t93_72, t93_74, t93_77, t93_78, t93_79, t93_82, hC_13, hC_45, hC_47, hC_49, hC_54, gF_6_0, gF_6_1, gF_6_2, gF_6_3, gF_6_4, gF_6_5, gF_6_6, gF_6_7, gF_6_8, gF_6_9, hU_0, hU_7, hU_9, hU_11, hU_13, gF_5_0, gF_5_1, gF_5_2, gF_5_3, gF_5_4, gF_5_5, gF_5_6, gF_5_7, gF_5_8, gF_5_9, gF_5_10, gF_5_11, gF_5_12, gF_5_13, gF_3_0, gF_3_1, gF_3_2, gF_3_3, ln_add, nl_add, ln_mul, nl_mul, nI_add, nI_1, i32_nl, ite_not, lt_nn, lt_nl, lt_ln, eq_nn, eq_nl, eq_ln, if_true, if_false, kil_i, kil_r, kil_l, kil_u, rl_s, rl_n, Nat.zero_add, Nat.lt_irrefl, not_true_eq_false, not_false_eq_true, true_and, dp_1, dp_2, dp_3, dp_4, dp_5, dp_6, dp_7, dp_8, dp_9, dp_10, dp_11, dp_12, dp_13, dp_14, dp_15, dp_16, dp_17, dp_18, dp_19, dp_20, dp_21, dp_22, dp_23, dp_24, dp_25, dp_26, dp_27, dp_28, dp_29, dp_30, dp_31, dp_32, dp_33, dp_34, dp_35, dp_36, dp_37, dp_38, dp_39, p4]
        · rw [if_neg (fun z => p4 z.2)]
          simp (disch := first | assumption | omega | decide | exact hX_o13 | exact hU_o | exact hX_o45 | exact hX_o47 | exact hX_o49 | exact hX_o54 | exact hU_o7 | exact hU_o9 | exact hU_o11 | exact hU_o13) only [t93_72, t93_74, t93_77, t93_78, t93_79, t93_82, hC_13, hC_45, hC_47, hC_49, hC_54, gF_6_0, gF_6_1, gF_6_2, gF_6_3, gF_6_4, gF_6_5, gF_6_6, gF_6_7, gF_6_8, gF_6_9, hU_0, hU_7, hU_9, hU_11, hU_13, gF_5_0, gF_5_1, gF_5_2, gF_5_3, gF_5_4, gF_5_5, gF_5_6, gF_5_7, gF_5_8, gF_5_9, gF_5_10, gF_5_11, gF_5_12, gF_5_13, gF_3_0, gF_3_1, gF_3_2, gF_3_3, ln_add, nl_add, ln_mul, nl_mul, nI_add, nI_1, i32_nl, ite_not, lt_nn, lt_nl, lt_ln, eq_nn, eq_nl, eq_ln, if_true, if_false, kil_i, kil_r, kil_l, kil_u, rl_s, rl_n, Nat.zero_add, Nat.lt_irrefl, not_true_eq_false, not_false_eq_true, true_and, dp_1, dp_2, dp_3, dp_4, dp_5, dp_6, dp_7, dp_8, dp_9, dp_10, dp_11, dp_12, dp_13, dp_14, dp_15, dp_16, dp_17, dp_18, dp_19, dp_20, dp_21, dp_22, dp_23, dp_24, dp_25, dp_26, dp_27, dp_28, dp_29, dp_30, dp_31, dp_32, dp_33, dp_34, dp_35, dp_36, dp_37, dp_38, dp_39, p4]
      · have p2 : ¬ best = -1 := fun z => p1 (Or.inl z)
        have p3 : ¬ bc (nI (1 + m)) < bc best := fun z => p1 (Or.inr z)
        rw [if_neg p1, if_neg (fun z => p1 z.1)]
        simp (disch := first | assumption | omega | decide | exact hX_o13 | exact hU_o | exact hX_o45 | exact hX_o47 | exact hX_o49 | exact hX_o54 | exact hU_o7 | exact hU_o9 | exact hU_o11 | exact hU_o13) only [t93_35, t93_36, t93_37, t93_40, t93_41, t93_44, t93_45, t93_48, t93_51, t93_52, t93_55, t93_56, t93_58, t93_60, t93_79, t93_82, hC_13, hC_45, hC_47, hC_49, hC_54, gF_6_0, gF_6_1, gF_6_2, gF_6_3, gF_6_4, gF_6_5, gF_6_6, gF_6_7, gF_6_8, gF_6_9, hU_0, hU_7, hU_9, hU_11, hU_13, gF_5_0, gF_5_1, gF_5_2, gF_5_3, gF_5_4, gF_5_5, gF_5_6, gF_5_7, gF_5_8, gF_5_9, gF_5_10, gF_5_11, gF_5_12, gF_5_13, gF_3_0, gF_3_1, gF_3_2, gF_3_3, ln_add, nl_add, ln_mul, nl_mul, nI_add, nI_1, i32_nl, ite_not, lt_nn, lt_nl, lt_ln, eq_nn, eq_nl, eq_ln, if_true, if_false, kil_i, kil_r, kil_l, kil_u, rl_s, rl_n, Nat.zero_add, Nat.lt_irrefl, not_true_eq_false, not_false_eq_true, true_and, dp_1, dp_2, dp_3, dp_4, dp_5, dp_6, dp_7, dp_8, dp_9, dp_10, dp_11, dp_12, dp_13, dp_14, dp_15, dp_16, dp_17, dp_18, dp_19, dp_20, dp_21, dp_22, dp_23, dp_24, dp_25, dp_26, dp_27, dp_28, dp_29, dp_30, dp_31, dp_32, dp_33, dp_34, dp_35, dp_36, dp_37, dp_38, dp_39, p2, E_bitCount, p3]
    · intro best u
      rw [t93_22]
      simp (disch := first | assumption | omega | decide | exact hX_o13 | exact hU_o | exact hX_o45 | exact hX_o47 | exact hX_o49 | exact hX_o54 | exact hU_o7 | exact hU_o9 | exact hU_o11 | exact hU_o13) only [t93_23, t93_24, t93_25, t93_28, t93_31, t93_32, t93_85, t93_86, hC_13, hC_45, hC_47, hC_49, hC_54, gF_6_0, gF_6_1, gF_6_2, gF_6_3, gF_6_4, gF_6_5, gF_6_6, gF_6_7, gF_6_8, gF_6_9, hU_0, hU_7, hU_9, hU_11, hU_13, gF_5_0, gF_5_1, gF_5_2, gF_5_3, gF_5_4, gF_5_5, gF_5_6, gF_5_7, gF_5_8, gF_5_9, gF_5_10, gF_5_11, gF_5_12, gF_5_13, gF_3_0, gF_3_1, gF_3_2, gF_3_3, ln_add, nl_add, ln_mul, nl_mul, nI_add, nI_1, i32_nl, ite_not, lt_nn, lt_nl, lt_ln, eq_nn, eq_nl, eq_ln, if_true, if_false, kil_i, kil_r, kil_l, kil_u, rl_s, rl_n, Nat.zero_add, Nat.lt_irrefl, not_true_eq_false, not_false_eq_true, true_and, dp_1, dp_2, dp_3, dp_4, dp_5, dp_6, dp_7, dp_8, dp_9, dp_10, dp_11, dp_12, dp_13, dp_14, dp_15, dp_16, dp_17, dp_18, dp_19, dp_20, dp_21, dp_22, dp_23, dp_24, dp_25, dp_26, dp_27, dp_28, dp_29, dp_30, dp_31, dp_32, dp_33, dp_34, dp_35, dp_36, dp_37, dp_38, dp_39, hh0, eS, show ¬ 1 + N < N + 1 by omega]
  · rw [if_neg q] at k
    simp (disch := first | assumption | omega | decide | exact hX_o13 | exact hU_o | exact hX_o45 | exact hX_o47 | exact hX_o49 | exact hX_o54 | exact hU_o7 | exact hU_o9 | exact hU_o11 | exact hU_o13) only [t93_0, t93_1, t93_4, t93_5, t93_8, t93_11, t93_12, t93_14, t93_17, hC_13, hC_45, hC_47, hC_49, hC_54, gF_6_0, gF_6_1, gF_6_2, gF_6_3, gF_6_4, gF_6_5, gF_6_6, gF_6_7, gF_6_8, gF_6_9, hU_0, hU_7, hU_9, hU_11, hU_13, gF_5_0, gF_5_1, gF_5_2, gF_5_3, gF_5_4, gF_5_5, gF_5_6, gF_5_7, gF_5_8, gF_5_9, gF_5_10, gF_5_11, gF_5_12, gF_5_13, gF_3_0, gF_3_1, gF_3_2, gF_3_3, ln_add, nl_add, ln_mul, nl_mul, nI_add, nI_1, i32_nl, ite_not, lt_nn, lt_nl, lt_ln, eq_nn, eq_nl, eq_ln, if_true, if_false, kil_i, kil_r, kil_l, kil_u, rl_s, rl_n, Nat.zero_add, Nat.lt_irrefl, not_true_eq_false, not_false_eq_true, true_and, dp_1, dp_2, dp_3, dp_4, dp_5, dp_6, dp_7, dp_8, dp_9, dp_10, dp_11, dp_12, dp_13, dp_14, dp_15, dp_16, dp_17, dp_18, dp_19, dp_20, dp_21, dp_22, dp_23, dp_24, dp_25, dp_26, dp_27, dp_28, dp_29, dp_30, dp_31, dp_32, dp_33, dp_34, dp_35, dp_36, dp_37, dp_38, dp_39, U_hasGuest re, zb_0, q, C_refB, Bool.false_eq_true]
    exact kcR cb ri sm 0 k
end X4
