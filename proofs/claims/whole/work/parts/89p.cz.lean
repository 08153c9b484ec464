/-! place: the class's public call -/
theorem oP_of {O : Nat → Nat → Int32} {a b c : Int32} : wA O 49 (fq a b c 0) = oP O a b c (O 51) (O 52) (O 53) := by
  funext q; unfold wA oP
  by_cases e : q = 49
  · rw [if_pos e, if_pos e]
  · rw [if_neg e, if_neg e]
    by_cases e1 : q = 51
    · rw [if_pos e1, e1]
    · rw [if_neg e1]
      by_cases e2 : q = 52
      · rw [if_pos e2, e2]
      · rw [if_neg e2]
        by_cases e3 : q = 53
        · rw [if_pos e3, e3]
        · rw [if_neg e3]
theorem oP_50 {O : Nat → Nat → Int32} {a b c : Int32} {C W B A : Nat → Int32} : wA (oP O a b c C W B) 50 A = oP (wA O 50 A) a b c C W B := by
  funext q; unfold wA oP
  by_cases e : q = 50
  · subst e; rfl
  · simp only [e, if_false]
/-- the parts filled in -/
def ptI (P : Nat → Nat → Nat) (i j : Nat) (A : Nat → Int32) : Nat → Int32 := upd A (i * 4 + j) (nI (P i j))
def ptA (P : Nat → Nat → Nat) (hh g : Nat) (A : Nat → Int32) : Nat → Int32 := itr (fun i A => itr (fun j A => ptI P i j A) hh 0 A) g 0 A
theorem ptA_at {P : Nat → Nat → Nat} {hh g : Nat} {A0 : Nat → Int32} (h4 : hh ≤ 4) : ∀ i j, i < g → j < hh → ptA P hh g A0 (i * 4 + j) = nI (P i j) := by
  have K := itr_inv (F := fun i A => itr (fun j A => ptI P i j A) hh 0 A) (I := fun n A => ∀ i j, i < n → j < hh → A (i * 4 + j) = nI (P i j)) g 0 A0 (fun i j hi => absurd hi (Nat.not_lt_zero _)) (fun n A _ _ hA => by
    have L := itr_inv (F := fun j A => ptI P n j A) (I := fun m A => (∀ i j, i < n → j < hh → A (i * 4 + j) = nI (P i j)) ∧ ∀ j, j < m → A (n * 4 + j) = nI (P n j)) hh 0 A ⟨hA, fun j hj => absurd hj (Nat.not_lt_zero _)⟩ (fun m A _ hm ⟨h1, h2⟩ => ⟨fun i j hi hj => by
        show upd A (n * 4 + m) _ (i * 4 + j) = _
        rw [upd_ne (by omega)]; exact h1 i j hi hj, fun j hj => by
        show upd A (n * 4 + m) _ (n * 4 + j) = _
        by_cases e : j = m
        · rw [e]; exact upd_eq
        · rw [upd_ne (by omega)]; exact h2 j (by omega)⟩)
    rw [Nat.zero_add] at L
    intro i j hi hj
    by_cases e : i = n
    · rw [e]; exact L.2 j hj
    · exact L.1 i j (by omega) hj)
  rw [Nat.zero_add] at K
  exact K
section FB
variable {d : Nat} {h : Hp} {S : St} {ab be : Int32} {V : Nat → Int32} {O D : Nat → Nat → Int32} {g hh sn nn mn un0 n : Nat} {Q : Pst} {I : Nat → Option Nat}
theorem CB.oP {a b c : Int32} {C W B A : Nat → Int32} (cb : CB h S ab be V O I n) : CB h S ab be V (oP (wA O 50 A) a b c C W B) I n := by
  obtain ⟨b1, b2, b3, b4, b5, b6, b7⟩ := cb
  exact ⟨b1, b2, b3, b4, b5, b6, b7⟩
theorem pP_50 {A C W B : Nat → Int32} {a b c x : Int32} {k : Nat} (hk : k < 24) : T d 123 0 [.ref 50, .int (nI k), .int x] [] (hP h ab be V (wA O 50 A) D a b c C W B) Q ↔ Q none (hP h ab be V (wA O 50 (upd A k x)) D a b c C W B) := by
  rw [P_n hP_50 hk (by decide), hC_u50, oP_50, wA_wA, wA_s]
theorem W_findBest (ri : RI (sR S) g hh sn nn mn un0) (sm : SM D (sR S) g hh sn nn mn un0) (k : ∀ A m C W B, RkP g m B (KSr hh (stP (sR S)) g 0 (fun _ => 0) 0 (fun _ => 0) (-1, fun _ => 0)) → Q none (hP h ab be V (wA O 50 A) D (nI g) (nI hh) m C W B)) : T (d + 14) 46 0 [.ref 49, .ref 14, un, un] [] (hX h ab be V O D) Q := by
  have re := sm.rl ri
  have h6 := ri.1.2
  have h4 := ri.2.1.2
  have hg : D 0 0 = nI g := sm.1.1.trans ri.1.1
  have hh0 : D 0 1 = nI hh := sm.1.2.1.trans ri.2.1.1
  have L1 := loop_u (P := fun i (A : Nat → Int32) (u : Value) => T (d + 14) 46 23 [.ref 49, .ref 14, .int (nI i), u] [] (hP h ab be V (wA O 50 A) D (nI g) (nI hh) (-1) (O 51) (O 52) (O 53)) Q) (F := fun i A => itr (fun j A => ptI (stP (sR S)) i j A) hh 0 A) (g := g) ?_
  · simp (disch := first | assumption | omega | decide | exact hX_o13 | exact hU_o | exact hX_o45 | exact hX_o47 | exact hX_o49 | exact hX_o54 | exact hU_o7 | exact hU_o9 | exact hU_o11 | exact hU_o13) only [t46_0, t46_1, t46_2, t46_5, t46_8, t46_9, t46_10, t46_13, t46_16, t46_17, t46_18, t46_21, t46_22, hC_13, hC_45, hC_47, hC_49, hC_54, gF_6_0, gF_6_1, gF_6_2, gF_6_3, gF_6_4, gF_6_5, gF_6_6, gF_6_7, gF_6_8, gF_6_9, hU_0, hU_7, hU_9, hU_11, hU_13, gF_5_0, gF_5_1, gF_5_2, gF_5_3, gF_5_4, gF_5_5, gF_5_6, gF_5_7, gF_5_8, gF_5_9, gF_5_10, gF_5_11, gF_5_12, gF_5_13, gF_3_0, gF_3_1, gF_3_2, gF_3_3, ln_add, nl_add, ln_mul, nl_mul, nI_add, nI_1, i32_nl, ite_not, lt_nn, lt_nl, lt_ln, eq_nn, eq_nl, eq_ln, if_true, if_false, kil_i, kil_r, kil_l, kil_u, rl_s, rl_n, Nat.zero_add, Nat.lt_irrefl, not_true_eq_false, not_false_eq_true, true_and, dp_1, dp_2, dp_3, dp_4, dp_5, dp_6, dp_7, dp_8, dp_9, dp_10, dp_11, dp_12, dp_13, dp_14, dp_15, dp_16, dp_17, dp_18, dp_19, dp_20, dp_21, dp_22, dp_23, dp_24, dp_25, dp_26, dp_27, dp_28, dp_29, dp_30, dp_31, dp_32, dp_33, dp_34, dp_35, dp_36, dp_37, dp_38, dp_39, hg, hh0, pF_4_4, pF_4_5, pF_4_6, hC_u49, wA_s, wA_wA, fq_0, fq_1, fq_2]
    have eO : hX h ab be V (wA O 49 (fq (nI g) (nI hh) (-1) 0)) D = hP h ab be V (wA O 50 (O 50)) D (nI g) (nI hh) (-1) (O 51) (O 52) (O 53) := by
      rw [oP_of, wA_self]
    rw [eO]
    obtain ⟨u1, K1⟩ := L1 (O 50) un
    refine K1.2 ?_
    have hA := ptA_at (P := stP (sR S)) (hh := hh) (g := g) (A0 := O 50) h4
    obtain ⟨A, eA⟩ : ∃ A, A = ptA (stP (sR S)) hh g (O 50) := ⟨_, rfl⟩
    rw [show itr (fun i A => itr (fun j A => ptI (stP (sR S)) i j A) hh 0 A) g 0 (O 50) = A from eA.symm]
    rw [← eA] at hA
    have L2 := loop_u (P := fun j (s : Nat → Int32) (u : Value) => T (d + 14) 46 73 [.ref 49, .ref 14, .int (nI j), u] [] (hP h ab be V (wA O 50 A) D (nI g) (nI hh) (-1) s (O 52) (O 53)) Q) (F := fun j s => upd s j 0) (g := hh) ?_
    · rw [t46_23]
      simp (disch := first | assumption | omega | decide | exact hX_o13 | exact hU_o | exact hX_o45 | exact hX_o47 | exact hX_o49 | exact hX_o54 | exact hU_o7 | exact hU_o9 | exact hU_o11 | exact hU_o13) only [t46_24, t46_25, t46_28, t46_71, t46_72, hC_13, hC_45, hC_47, hC_49, hC_54, gF_6_0, gF_6_1, gF_6_2, gF_6_3, gF_6_4, gF_6_5, gF_6_6, gF_6_7, gF_6_8, gF_6_9, hU_0, hU_7, hU_9, hU_11, hU_13, gF_5_0, gF_5_1, gF_5_2, gF_5_3, gF_5_4, gF_5_5, gF_5_6, gF_5_7, gF_5_8, gF_5_9, gF_5_10, gF_5_11, gF_5_12, gF_5_13, gF_3_0, gF_3_1, gF_3_2, gF_3_3, ln_add, nl_add, ln_mul, nl_mul, nI_add, nI_1, i32_nl, ite_not, lt_nn, lt_nl, lt_ln, eq_nn, eq_nl, eq_ln, if_true, if_false, kil_i, kil_r, kil_l, kil_u, rl_s, rl_n, Nat.zero_add, Nat.lt_irrefl, not_true_eq_false, not_false_eq_true, true_and, dp_1, dp_2, dp_3, dp_4, dp_5, dp_6, dp_7, dp_8, dp_9, dp_10, dp_11, dp_12, dp_13, dp_14, dp_15, dp_16, dp_17, dp_18, dp_19, dp_20, dp_21, dp_22, dp_23, dp_24, dp_25, dp_26, dp_27, dp_28, dp_29, dp_30, dp_31, dp_32, dp_33, dp_34, dp_35, dp_36, dp_37, dp_38, dp_39, gF_4_4, gF_4_5, oP_a, oP_b, oP_c]
      obtain ⟨u2, K2⟩ := L2 (O 51) u1
      refine K2.2 ?_
      have hC : ∀ j, j < hh → itr (fun j (s : Nat → Int32) => upd s j 0) hh 0 (O 51) j = nI 0 := fun j hj => @itr_up (fun _ => 0) (O 51) hh j hj
      generalize itr (fun j (s : Nat → Int32) => upd s j 0) hh 0 (O 51) = C at hC ⊢
      rw [t46_73]
      simp (disch := first | assumption | omega | decide | exact hX_o13 | exact hU_o | exact hX_o45 | exact hX_o47 | exact hX_o49 | exact hX_o54 | exact hU_o7 | exact hU_o9 | exact hU_o11 | exact hU_o13) only [t46_74, t46_75, t46_78, t46_96, t46_97, t46_98, t46_99, hC_13, hC_45, hC_47, hC_49, hC_54, gF_6_0, gF_6_1, gF_6_2, gF_6_3, gF_6_4, gF_6_5, gF_6_6, gF_6_7, gF_6_8, gF_6_9, hU_0, hU_7, hU_9, hU_11, hU_13, gF_5_0, gF_5_1, gF_5_2, gF_5_3, gF_5_4, gF_5_5, gF_5_6, gF_5_7, gF_5_8, gF_5_9, gF_5_10, gF_5_11, gF_5_12, gF_5_13, gF_3_0, gF_3_1, gF_3_2, gF_3_3, ln_add, nl_add, ln_mul, nl_mul, nI_add, nI_1, i32_nl, ite_not, lt_nn, lt_nl, lt_ln, eq_nn, eq_nl, eq_ln, if_true, if_false, kil_i, kil_r, kil_l, kil_u, rl_s, rl_n, Nat.zero_add, Nat.lt_irrefl, not_true_eq_false, not_false_eq_true, true_and, dp_1, dp_2, dp_3, dp_4, dp_5, dp_6, dp_7, dp_8, dp_9, dp_10, dp_11, dp_12, dp_13, dp_14, dp_15, dp_16, dp_17, dp_18, dp_19, dp_20, dp_21, dp_22, dp_23, dp_24, dp_25, dp_26, dp_27, dp_28, dp_29, dp_30, dp_31, dp_32, dp_33, dp_34, dp_35, dp_36, dp_37, dp_38, dp_39, gF_4_4, gF_4_5, oP_a, oP_b, oP_c]
      have WS := @W_settle g hh (sR S) (wA O 50 A) D h ab be V h6 h4 (fun i j hi hj => by rw [wA_s]; exact hA i j hi hj) g (Nat.le_refl g) (d + 10 - g) (fun x h2 => T (d + 14) 46 102 [.ref 49, .ref 14, .int (nI hh), u2] (rl x []) h2 Q) (-1) C (O 52) (O 53) (fun _ => 0) (fun _ => 0) 0 (-1, fun _ => 0)
      rw [Nat.sub_self, show d + 10 - g + g + 3 = d + 13 by omega] at WS
      refine WS hC (fun _ _ => Nat.le_refl 0) (fun k hk => absurd hk (Nat.not_lt_zero _)) (Nat.zero_le _) ⟨show ((-1 : Int32)).toInt = -1 by decide, fun z => absurd z (show ¬ (0 : Int) ≤ -1 by decide)⟩ (fun m2 W2 B2 _ r2 => ?_)
      simp only [t46_102, rl_n]
      exact k A m2 C W2 B2 r2
    · intro j s u hj
      refine ⟨u, ?_⟩
      rw [t46_73]
      simp (disch := first | assumption | omega | decide | exact hX_o13 | exact hU_o | exact hX_o45 | exact hX_o47 | exact hX_o49 | exact hX_o54 | exact hU_o7 | exact hU_o9 | exact hU_o11 | exact hU_o13) only [t46_74, t46_75, t46_78, t46_81, t46_82, t46_85, t46_86, t46_87, t46_90, t46_93, hC_13, hC_45, hC_47, hC_49, hC_54, gF_6_0, gF_6_1, gF_6_2, gF_6_3, gF_6_4, gF_6_5, gF_6_6, gF_6_7, gF_6_8, gF_6_9, hU_0, hU_7, hU_9, hU_11, hU_13, gF_5_0, gF_5_1, gF_5_2, gF_5_3, gF_5_4, gF_5_5, gF_5_6, gF_5_7, gF_5_8, gF_5_9, gF_5_10, gF_5_11, gF_5_12, gF_5_13, gF_3_0, gF_3_1, gF_3_2, gF_3_3, ln_add, nl_add, ln_mul, nl_mul, nI_add, nI_1, i32_nl, ite_not, lt_nn, lt_nl, lt_ln, eq_nn, eq_nl, eq_ln, if_true, if_false, kil_i, kil_r, kil_l, kil_u, rl_s, rl_n, Nat.zero_add, Nat.lt_irrefl, not_true_eq_false, not_false_eq_true, true_and, dp_1, dp_2, dp_3, dp_4, dp_5, dp_6, dp_7, dp_8, dp_9, dp_10, dp_11, dp_12, dp_13, dp_14, dp_15, dp_16, dp_17, dp_18, dp_19, dp_20, dp_21, dp_22, dp_23, dp_24, dp_25, dp_26, dp_27, dp_28, dp_29, dp_30, dp_31, dp_32, dp_33, dp_34, dp_35, dp_36, dp_37, dp_38, dp_39, gF_4_1, gF_4_5, oP_a, oP_b, oP_c, hj, pP_51 (show j < 4 by omega)]
  · intro i A u hi
    have LI := loop_u (P := fun j (A : Nat → Int32) (_ : Unit) => T (d + 14) 46 33 [.ref 49, .ref 14, .int (nI i), .int (nI j)] [] (hP h ab be V (wA O 50 A) D (nI g) (nI hh) (-1) (O 51) (O 52) (O 53)) Q) (F := fun j A => ptI (stP (sR S)) i j A) (g := hh) ?_
    · obtain ⟨_, K⟩ := LI A ()
      refine ⟨.int (nI hh), ?_⟩
      rw [t46_23]
      simp (disch := first | assumption | omega | decide | exact hX_o13 | exact hU_o | exact hX_o45 | exact hX_o47 | exact hX_o49 | exact hX_o54 | exact hU_o7 | exact hU_o9 | exact hU_o11 | exact hU_o13) only [t46_24, t46_25, t46_28, t46_31, t46_32, hC_13, hC_45, hC_47, hC_49, hC_54, gF_6_0, gF_6_1, gF_6_2, gF_6_3, gF_6_4, gF_6_5, gF_6_6, gF_6_7, gF_6_8, gF_6_9, hU_0, hU_7, hU_9, hU_11, hU_13, gF_5_0, gF_5_1, gF_5_2, gF_5_3, gF_5_4, gF_5_5, gF_5_6, gF_5_7, gF_5_8, gF_5_9, gF_5_10, gF_5_11, gF_5_12, gF_5_13, gF_3_0, gF_3_1, gF_3_2, gF_3_3, ln_add, nl_add, ln_mul, nl_mul, nI_add, nI_1, i32_nl, ite_not, lt_nn, lt_nl, lt_ln, eq_nn, eq_nl, eq_ln, if_true, if_false, kil_i, kil_r, kil_l, kil_u, rl_s, rl_n, Nat.zero_add, Nat.lt_irrefl, not_true_eq_false, not_false_eq_true, true_and, dp_1, dp_2, dp_3, dp_4, dp_5, dp_6, dp_7, dp_8, dp_9, dp_10, dp_11, dp_12, dp_13, dp_14, dp_15, dp_16, dp_17, dp_18, dp_19, dp_20, dp_21, dp_22, dp_23, dp_24, dp_25, dp_26, dp_27, dp_28, dp_29, dp_30, dp_31, dp_32, dp_33, dp_34, dp_35, dp_36, dp_37, dp_38, dp_39, gF_4_4, oP_a, oP_b, oP_c, hi]
      refine K.trans ?_
      rw [t46_33]
      simp (disch := first | assumption | omega | decide | exact hX_o13 | exact hU_o | exact hX_o45 | exact hX_o47 | exact hX_o49 | exact hX_o54 | exact hU_o7 | exact hU_o9 | exact hU_o11 | exact hU_o13) only [t46_34, t46_35, t46_38, t46_65, t46_68, hC_13, hC_45, hC_47, hC_49, hC_54, gF_6_0, gF_6_1, gF_6_2, gF_6_3, gF_6_4, gF_6_5, gF_6_6, gF_6_7, gF_6_8, gF_6_9, hU_0, hU_7, hU_9, hU_11, hU_13, gF_5_0, gF_5_1, gF_5_2, gF_5_3, gF_5_4, gF_5_5, gF_5_6, gF_5_7, gF_5_8, gF_5_9, gF_5_10, gF_5_11, gF_5_12, gF_5_13, gF_3_0, gF_3_1, gF_3_2, gF_3_3, ln_add, nl_add, ln_mul, nl_mul, nI_add, nI_1, i32_nl, ite_not, lt_nn, lt_nl, lt_ln, eq_nn, eq_nl, eq_ln, if_true, if_false, kil_i, kil_r, kil_l, kil_u, rl_s, rl_n, Nat.zero_add, Nat.lt_irrefl, not_true_eq_false, not_false_eq_true, true_and, dp_1, dp_2, dp_3, dp_4, dp_5, dp_6, dp_7, dp_8, dp_9, dp_10, dp_11, dp_12, dp_13, dp_14, dp_15, dp_16, dp_17, dp_18, dp_19, dp_20, dp_21, dp_22, dp_23, dp_24, dp_25, dp_26, dp_27, dp_28, dp_29, dp_30, dp_31, dp_32, dp_33, dp_34, dp_35, dp_36, dp_37, dp_38, dp_39, gF_4_5, oP_a, oP_b, oP_c]
    · intro j A _ hj
      refine ⟨(), ?_⟩
      have U := @U_stayCount (d + 10) (hC h ab be V (oP (wA O 50 A) (nI g) (nI hh) (-1) (O 51) (O 52) (O 53))) (fun r h2 => T (d + 14) 46 56 [.ref 49, .ref 14, .int (nI i), .int (nI j)] (rl r [.int (nI (i * 4 + j)), .ref 50]) h2 Q) 14 0 g hh D (sR S) i j re hi hj
      rw [t46_33]
      simp (disch := first | assumption | omega | decide | exact hX_o13 | exact hU_o | exact hX_o45 | exact hX_o47 | exact hX_o49 | exact hX_o54 | exact hU_o7 | exact hU_o9 | exact hU_o11 | exact hU_o13) only [t46_34, t46_35, t46_38, t46_41, t46_42, t46_45, t46_46, t46_47, t46_48, t46_49, t46_50, t46_51, t46_52, t46_53, hC_13, hC_45, hC_47, hC_49, hC_54, gF_6_0, gF_6_1, gF_6_2, gF_6_3, gF_6_4, gF_6_5, gF_6_6, gF_6_7, gF_6_8, gF_6_9, hU_0, hU_7, hU_9, hU_11, hU_13, gF_5_0, gF_5_1, gF_5_2, gF_5_3, gF_5_4, gF_5_5, gF_5_6, gF_5_7, gF_5_8, gF_5_9, gF_5_10, gF_5_11, gF_5_12, gF_5_13, gF_3_0, gF_3_1, gF_3_2, gF_3_3, ln_add, nl_add, ln_mul, nl_mul, nI_add, nI_1, i32_nl, ite_not, lt_nn, lt_nl, lt_ln, eq_nn, eq_nl, eq_ln, if_true, if_false, kil_i, kil_r, kil_l, kil_u, rl_s, rl_n, Nat.zero_add, Nat.lt_irrefl, not_true_eq_false, not_false_eq_true, true_and, dp_1, dp_2, dp_3, dp_4, dp_5, dp_6, dp_7, dp_8, dp_9, dp_10, dp_11, dp_12, dp_13, dp_14, dp_15, dp_16, dp_17, dp_18, dp_19, dp_20, dp_21, dp_22, dp_23, dp_24, dp_25, dp_26, dp_27, dp_28, dp_29, dp_30, dp_31, dp_32, dp_33, dp_34, dp_35, dp_36, dp_37, dp_38, dp_39, gF_4_0, gF_4_5, oP_a, oP_b, oP_c, hj]
      refine U.trans ?_
      rw [Nat.zero_add, stP_n.1]
      simp (disch := first | assumption | omega | decide | exact hX_o13 | exact hU_o | exact hX_o45 | exact hX_o47 | exact hX_o49 | exact hX_o54 | exact hU_o7 | exact hU_o9 | exact hU_o11 | exact hU_o13) only [t46_56, t46_59, t46_62, hC_13, hC_45, hC_47, hC_49, hC_54, gF_6_0, gF_6_1, gF_6_2, gF_6_3, gF_6_4, gF_6_5, gF_6_6, gF_6_7, gF_6_8, gF_6_9, hU_0, hU_7, hU_9, hU_11, hU_13, gF_5_0, gF_5_1, gF_5_2, gF_5_3, gF_5_4, gF_5_5, gF_5_6, gF_5_7, gF_5_8, gF_5_9, gF_5_10, gF_5_11, gF_5_12, gF_5_13, gF_3_0, gF_3_1, gF_3_2, gF_3_3, ln_add, nl_add, ln_mul, nl_mul, nI_add, nI_1, i32_nl, ite_not, lt_nn, lt_nl, lt_ln, eq_nn, eq_nl, eq_ln, if_true, if_false, kil_i, kil_r, kil_l, kil_u, rl_s, rl_n, Nat.zero_add, Nat.lt_irrefl, not_true_eq_false, not_false_eq_true, true_and, dp_1, dp_2, dp_3, dp_4, dp_5, dp_6, dp_7, dp_8, dp_9, dp_10, dp_11, dp_12, dp_13, dp_14, dp_15, dp_16, dp_17, dp_18, dp_19, dp_20, dp_21, dp_22, dp_23, dp_24, dp_25, dp_26, dp_27, dp_28, dp_29, dp_30, dp_31, dp_32, dp_33, dp_34, dp_35, dp_36, dp_37, dp_38, dp_39, pP_50 (show i * 4 + j < 24 by omega), ptI]
end FB
