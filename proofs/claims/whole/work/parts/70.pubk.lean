/-! the reference's public calls: read: words and numbers -/
def chA (X : Nat → Int32) (a e k : Nat) : Int32 := if a + k < e then X (a + k) else 0
def wdB (X : Nat → Int32) (a e w : Nat) : Bool := itr (fun k b => b && decide (chA X a e k = wtab (8 * w + k))) 8 0 (decide (e ≤ a + 8))
def wdH (X : Nat → Int32) (n a e : Nat) : Option Nat := (fnd (fun w (_ : Unit) => isLt X n a && wdB X a e w) (fun _ s => s) 6 0 ()).1
def nmV (X : Nat → Int32) (a e : Nat) : Int32 := if e = a + 2 then 10 * (X a - 48) + X (a + 1) - 48 else X a - 48
theorem sub_nn {a b : Nat} (h : b ≤ a) : nI a - nI b = nI (a - b) := by
  obtain ⟨c, rfl⟩ : ∃ c, a = b + c := ⟨a - b, by omega⟩
  rw [Nat.add_sub_cancel_left, ← nI_add, Int32.add_comm, Int32.add_sub_cancel]
section PK
variable {d : Nat} {h : Hp} {Q : Pst} {R X : Nat → Int32} {ab be : Int64} {n : Nat}
theorem E_isWord {a e w : Nat} {r5 r6 dg : Int32} (eX : h.2.2 62 = oI 150 X) (eW : h.2.2 63 = oI 48 wtab) (hn : n ≤ 150) (ha : a ≤ e) (he : e ≤ n) (hw : w < 6) : T (d + 2) 142 0 [.ref 58, .int (nI w), un, un, un] [] (hm (md h ab be (nI n) (nI a) (nI e) r5 r6 dg) R) Q ↔ Q (some (.int (zI (wdB X a e w)))) (hm (md h ab be (nI n) (nI a) (nI e) r5 r6 dg) R) := by
  have e1 : (md h ab be (nI n) (nI a) (nI e) r5 r6 dg).2.2 58 = MO ab be (nI n) (nI a) (nI e) r5 r6 dg := rfl
  have exF : ∀ k u, k ≤ 8 → (T (d + 2) 142 22 [.ref 58, .int (nI w), .int (zI false), .int (nI k), u] [] (hm (md h ab be (nI n) (nI a) (nI e) r5 r6 dg) R) Q ↔ Q (some (.int (zI false))) (hm (md h ab be (nI n) (nI a) (nI e) r5 r6 dg) R)) := by
    intro k u hk
    rw [t142_22]
    by_cases q : k < 8
    · simp (disch := first | assumption | omega | decide) only [t142_23, t142_25, t142_28, t142_29, t142_90, t142_91, hm_58, hm_59, hm_up, e1, MO, gF_7_0, gF_7_1, gF_7_2, gF_7_3, gF_7_4, gF_7_5, gF_7_6, gF_7_7, aS_n, aS_l, aL_n, aL_l, ln_add, nl_add, ln_mul, nl_mul, nI_add, nI_1, i32_nl, ite_not, lt_nn, lt_nl, lt_ln, eq_nn, eq_nl, eq_ln, if_true, if_false, kil_i, kil_r, kil_l, kil_u, rl_s, rl_n, Nat.zero_add, Nat.lt_irrefl, not_true_eq_false, not_false_eq_true, true_and, dp_1, dp_2, dp_3, dp_4, dp_5, dp_6, dp_7, dp_8, dp_9, dp_10, dp_11, dp_12, dp_13, dp_14, dp_15, dp_16, dp_17, dp_18, dp_19, dp_20, dp_21, dp_22, dp_23, dp_24, dp_25, dp_26, dp_27, dp_28, dp_29, dp_30, dp_31, dp_32, dp_33, dp_34, dp_35, dp_36, dp_37, dp_38, dp_39, q, zI_0, Bool.false_eq_true, nar_zI]
    · simp (disch := first | assumption | omega | decide) only [t142_23, t142_25, t142_28, t142_29, t142_90, t142_91, hm_58, hm_59, hm_up, e1, MO, gF_7_0, gF_7_1, gF_7_2, gF_7_3, gF_7_4, gF_7_5, gF_7_6, gF_7_7, aS_n, aS_l, aL_n, aL_l, ln_add, nl_add, ln_mul, nl_mul, nI_add, nI_1, i32_nl, ite_not, lt_nn, lt_nl, lt_ln, eq_nn, eq_nl, eq_ln, if_true, if_false, kil_i, kil_r, kil_l, kil_u, rl_s, rl_n, Nat.zero_add, Nat.lt_irrefl, not_true_eq_false, not_false_eq_true, true_and, dp_1, dp_2, dp_3, dp_4, dp_5, dp_6, dp_7, dp_8, dp_9, dp_10, dp_11, dp_12, dp_13, dp_14, dp_15, dp_16, dp_17, dp_18, dp_19, dp_20, dp_21, dp_22, dp_23, dp_24, dp_25, dp_26, dp_27, dp_28, dp_29, dp_30, dp_31, dp_32, dp_33, dp_34, dp_35, dp_36, dp_37, dp_38, dp_39, q, zI_0, Bool.false_eq_true, nar_zI]
  have L := loop_d (P := fun k (b : Bool) (u : Value) => T (d + 2) 142 22 [.ref 58, .int (nI w), .int (zI b), .int (nI k), u] [] (hm (md h ab be (nI n) (nI a) (nI e) r5 r6 dg) R) Q) (F := fun k b => b && decide (chA X a e k = wtab (8 * w + k))) (E := fun b => Q (some (.int (zI b))) (hm (md h ab be (nI n) (nI a) (nI e) r5 r6 dg) R)) (g := 8) ?_ ?_
  · have L2 := L (decide (e ≤ a + 8)) un
    refine Iff.trans ?_ L2
    by_cases q : e ≤ a + 8
    · simp (disch := first | assumption | omega | decide) only [t142_0, t142_1, t142_4, t142_5, t142_8, t142_9, t142_11, t142_14, t142_15, t142_18, t142_19, t142_20, t142_21, hm_58, hm_59, hm_up, e1, MO, gF_7_0, gF_7_1, gF_7_2, gF_7_3, gF_7_4, gF_7_5, gF_7_6, gF_7_7, aS_n, aS_l, aL_n, aL_l, ln_add, nl_add, ln_mul, nl_mul, nI_add, nI_1, i32_nl, ite_not, lt_nn, lt_nl, lt_ln, eq_nn, eq_nl, eq_ln, if_true, if_false, kil_i, kil_r, kil_l, kil_u, rl_s, rl_n, Nat.zero_add, Nat.lt_irrefl, not_true_eq_false, not_false_eq_true, true_and, dp_1, dp_2, dp_3, dp_4, dp_5, dp_6, dp_7, dp_8, dp_9, dp_10, dp_11, dp_12, dp_13, dp_14, dp_15, dp_16, dp_17, dp_18, dp_19, dp_20, dp_21, dp_22, dp_23, dp_24, dp_25, dp_26, dp_27, dp_28, dp_29, dp_30, dp_31, dp_32, dp_33, dp_34, dp_35, dp_36, dp_37, dp_38, dp_39, gF_7_8, gF_7_9, sub_nn, show ¬ 8 < e - a by omega, q, decide_true, zI, show nI 0 = 0 from rfl]
    · simp (disch := first | assumption | omega | decide) only [t142_0, t142_1, t142_4, t142_5, t142_8, t142_9, t142_11, t142_14, t142_15, t142_18, t142_19, t142_20, t142_21, hm_58, hm_59, hm_up, e1, MO, gF_7_0, gF_7_1, gF_7_2, gF_7_3, gF_7_4, gF_7_5, gF_7_6, gF_7_7, aS_n, aS_l, aL_n, aL_l, ln_add, nl_add, ln_mul, nl_mul, nI_add, nI_1, i32_nl, ite_not, lt_nn, lt_nl, lt_ln, eq_nn, eq_nl, eq_ln, if_true, if_false, kil_i, kil_r, kil_l, kil_u, rl_s, rl_n, Nat.zero_add, Nat.lt_irrefl, not_true_eq_false, not_false_eq_true, true_and, dp_1, dp_2, dp_3, dp_4, dp_5, dp_6, dp_7, dp_8, dp_9, dp_10, dp_11, dp_12, dp_13, dp_14, dp_15, dp_16, dp_17, dp_18, dp_19, dp_20, dp_21, dp_22, dp_23, dp_24, dp_25, dp_26, dp_27, dp_28, dp_29, dp_30, dp_31, dp_32, dp_33, dp_34, dp_35, dp_36, dp_37, dp_38, dp_39, gF_7_8, gF_7_9, sub_nn, show 8 < e - a by omega, q, decide_false, zI, Bool.false_eq_true, show nI 0 = 0 from rfl]
  · intro k b u hk
    cases b with
    | false => exact ⟨u, (exF k u (by omega)).trans (exF (k + 1) u (by omega)).symm⟩
    | true =>
      refine ⟨.int (chA X a e k), ?_⟩
      rw [t142_22, Bool.true_and]
      have e63 : (hm (md h ab be (nI n) (nI a) (nI e) r5 r6 dg) R).2.2 63 = oI 48 wtab := eW
      by_cases q : a + k < e
      · have ec : chA X a e k = X (a + k) := by unfold chA; rw [if_pos q]
        rw [ec]
        by_cases q2 : X (a + k) = wtab (8 * w + k)
        · simp (disch := first | assumption | omega | decide) only [t142_23, t142_25, t142_28, t142_29, t142_32, t142_33, t142_36, t142_37, t142_38, t142_39, t142_42, t142_45, t142_46, t142_49, t142_50, t142_53, t142_54, t142_55, t142_56, t142_59, t142_60, t142_62, t142_64, t142_65, t142_68, t142_70, t142_71, t142_72, t142_73, t142_74, t142_75, t142_78, t142_79, t142_82, t142_83, t142_84, t142_87, hm_58, hm_59, hm_up, e1, MO, gF_7_0, gF_7_1, gF_7_2, gF_7_3, gF_7_4, gF_7_5, gF_7_6, gF_7_7, aS_n, aS_l, aL_n, aL_l, ln_add, nl_add, ln_mul, nl_mul, nI_add, nI_1, i32_nl, ite_not, lt_nn, lt_nl, lt_ln, eq_nn, eq_nl, eq_ln, if_true, if_false, kil_i, kil_r, kil_l, kil_u, rl_s, rl_n, Nat.zero_add, Nat.lt_irrefl, not_true_eq_false, not_false_eq_true, true_and, dp_1, dp_2, dp_3, dp_4, dp_5, dp_6, dp_7, dp_8, dp_9, dp_10, dp_11, dp_12, dp_13, dp_14, dp_15, dp_16, dp_17, dp_18, dp_19, dp_20, dp_21, dp_22, dp_23, dp_24, dp_25, dp_26, dp_27, dp_28, dp_29, dp_30, dp_31, dp_32, dp_33, dp_34, dp_35, dp_36, dp_37, dp_38, dp_39, gF_7_8, gF_7_9, hk, q, q2, md_62, eX, e63, zI_0, decide_true, zI, z10]
        · simp (disch := first | assumption | omega | decide) only [t142_23, t142_25, t142_28, t142_29, t142_32, t142_33, t142_36, t142_37, t142_38, t142_39, t142_42, t142_45, t142_46, t142_49, t142_50, t142_53, t142_54, t142_55, t142_56, t142_59, t142_60, t142_62, t142_64, t142_65, t142_68, t142_70, t142_71, t142_72, t142_73, t142_74, t142_75, t142_78, t142_79, t142_82, t142_83, t142_84, t142_87, hm_58, hm_59, hm_up, e1, MO, gF_7_0, gF_7_1, gF_7_2, gF_7_3, gF_7_4, gF_7_5, gF_7_6, gF_7_7, aS_n, aS_l, aL_n, aL_l, ln_add, nl_add, ln_mul, nl_mul, nI_add, nI_1, i32_nl, ite_not, lt_nn, lt_nl, lt_ln, eq_nn, eq_nl, eq_ln, if_true, if_false, kil_i, kil_r, kil_l, kil_u, rl_s, rl_n, Nat.zero_add, Nat.lt_irrefl, not_true_eq_false, not_false_eq_true, true_and, dp_1, dp_2, dp_3, dp_4, dp_5, dp_6, dp_7, dp_8, dp_9, dp_10, dp_11, dp_12, dp_13, dp_14, dp_15, dp_16, dp_17, dp_18, dp_19, dp_20, dp_21, dp_22, dp_23, dp_24, dp_25, dp_26, dp_27, dp_28, dp_29, dp_30, dp_31, dp_32, dp_33, dp_34, dp_35, dp_36, dp_37, dp_38, dp_39, gF_7_8, gF_7_9, hk, q, q2, md_62, eX, e63, zI_0, decide_false, zI, Bool.false_eq_true, z10]
      · have ec : chA X a e k = 0 := by unfold chA; rw [if_neg q]
        rw [ec]
        by_cases q2 : 0 = wtab (8 * w + k)
        · simp (disch := first | assumption | omega | decide) only [t142_23, t142_25, t142_28, t142_29, t142_32, t142_33, t142_36, t142_37, t142_38, t142_39, t142_42, t142_45, t142_46, t142_49, t142_50, t142_53, t142_54, t142_55, t142_56, t142_59, t142_60, t142_62, t142_64, t142_65, t142_68, t142_70, t142_71, t142_72, t142_73, t142_74, t142_75, t142_78, t142_79, t142_82, t142_83, t142_84, t142_87, hm_58, hm_59, hm_up, e1, MO, gF_7_0, gF_7_1, gF_7_2, gF_7_3, gF_7_4, gF_7_5, gF_7_6, gF_7_7, aS_n, aS_l, aL_n, aL_l, ln_add, nl_add, ln_mul, nl_mul, nI_add, nI_1, i32_nl, ite_not, lt_nn, lt_nl, lt_ln, eq_nn, eq_nl, eq_ln, if_true, if_false, kil_i, kil_r, kil_l, kil_u, rl_s, rl_n, Nat.zero_add, Nat.lt_irrefl, not_true_eq_false, not_false_eq_true, true_and, dp_1, dp_2, dp_3, dp_4, dp_5, dp_6, dp_7, dp_8, dp_9, dp_10, dp_11, dp_12, dp_13, dp_14, dp_15, dp_16, dp_17, dp_18, dp_19, dp_20, dp_21, dp_22, dp_23, dp_24, dp_25, dp_26, dp_27, dp_28, dp_29, dp_30, dp_31, dp_32, dp_33, dp_34, dp_35, dp_36, dp_37, dp_38, dp_39, gF_7_8, gF_7_9, hk, q, ← q2, md_62, eX, e63, zI_0, decide_true, zI, z10]
        · simp (disch := first | assumption | omega | decide) only [t142_23, t142_25, t142_28, t142_29, t142_32, t142_33, t142_36, t142_37, t142_38, t142_39, t142_42, t142_45, t142_46, t142_49, t142_50, t142_53, t142_54, t142_55, t142_56, t142_59, t142_60, t142_62, t142_64, t142_65, t142_68, t142_70, t142_71, t142_72, t142_73, t142_74, t142_75, t142_78, t142_79, t142_82, t142_83, t142_84, t142_87, hm_58, hm_59, hm_up, e1, MO, gF_7_0, gF_7_1, gF_7_2, gF_7_3, gF_7_4, gF_7_5, gF_7_6, gF_7_7, aS_n, aS_l, aL_n, aL_l, ln_add, nl_add, ln_mul, nl_mul, nI_add, nI_1, i32_nl, ite_not, lt_nn, lt_nl, lt_ln, eq_nn, eq_nl, eq_ln, if_true, if_false, kil_i, kil_r, kil_l, kil_u, rl_s, rl_n, Nat.zero_add, Nat.lt_irrefl, not_true_eq_false, not_false_eq_true, true_and, dp_1, dp_2, dp_3, dp_4, dp_5, dp_6, dp_7, dp_8, dp_9, dp_10, dp_11, dp_12, dp_13, dp_14, dp_15, dp_16, dp_17, dp_18, dp_19, dp_20, dp_21, dp_22, dp_23, dp_24, dp_25, dp_26, dp_27, dp_28, dp_29, dp_30, dp_31, dp_32, dp_33, dp_34, dp_35, dp_36, dp_37, dp_38, dp_39, gF_7_8, gF_7_9, hk, q, q2, md_62, eX, e63, zI_0, decide_false, zI, Bool.false_eq_true, z10]
  · intro b u
    cases b with
    | false => exact exF 8 u (by omega)
    | true =>
      rw [t142_22]
      simp (disch := first | assumption | omega | decide) only [t142_23, t142_25, t142_90, t142_91, hm_58, hm_59, hm_up, e1, MO, gF_7_0, gF_7_1, gF_7_2, gF_7_3, gF_7_4, gF_7_5, gF_7_6, gF_7_7, aS_n, aS_l, aL_n, aL_l, ln_add, nl_add, ln_mul, nl_mul, nI_add, nI_1, i32_nl, ite_not, lt_nn, lt_nl, lt_ln, eq_nn, eq_nl, eq_ln, if_true, if_false, kil_i, kil_r, kil_l, kil_u, rl_s, rl_n, Nat.zero_add, Nat.lt_irrefl, not_true_eq_false, not_false_eq_true, true_and, dp_1, dp_2, dp_3, dp_4, dp_5, dp_6, dp_7, dp_8, dp_9, dp_10, dp_11, dp_12, dp_13, dp_14, dp_15, dp_16, dp_17, dp_18, dp_19, dp_20, dp_21, dp_22, dp_23, dp_24, dp_25, dp_26, dp_27, dp_28, dp_29, dp_30, dp_31, dp_32, dp_33, dp_34, dp_35, dp_36, dp_37, dp_38, dp_39, nar_zI]
theorem E_wordHere {a e : Nat} {r5 r6 dg : Int32} (eX : h.2.2 62 = oI 150 X) (eW : h.2.2 63 = oI 48 wtab) (hn : n ≤ 150) (ha : a ≤ e) (he : e ≤ n) : T (d + 3) 143 0 [.ref 58, un] [] (hm (md h ab be (nI n) (nI a) (nI e) r5 r6 dg) R) Q ↔ Q (some (.int (match wdH X n a e with | some w => nI w | none => -1))) (hm (md h ab be (nI n) (nI a) (nI e) r5 r6 dg) R) := by
  have e1 : (md h ab be (nI n) (nI a) (nI e) r5 r6 dg).2.2 58 = MO ab be (nI n) (nI a) (nI e) r5 r6 dg := rfl
  have ho : isO ((hm (md h ab be (nI n) (nI a) (nI e) r5 r6 dg) R).2.2 58) 7 := md_mo.o
  have L := loop_f (P := fun w (_ : Unit) (_ : Unit) => T (d + 3) 143 2 [.ref 58, .int (nI w)] [] (hm (md h ab be (nI n) (nI a) (nI e) r5 r6 dg) R) Q) (c := fun w _ => isLt X n a && wdB X a e w) (F := fun _ s => s) (I := fun _ _ => True) (E := fun o _ => Q (some (.int (match o with | some w => nI w | none => -1))) (hm (md h ab be (nI n) (nI a) (nI e) r5 r6 dg) R)) (g := 6) ?_ ?_ ?_
  · simp (disch := first | assumption | omega | decide) only [t143_0, t143_1, hm_58, hm_59, hm_up, e1, MO, gF_7_0, gF_7_1, gF_7_2, gF_7_3, gF_7_4, gF_7_5, gF_7_6, gF_7_7, aS_n, aS_l, aL_n, aL_l, ln_add, nl_add, ln_mul, nl_mul, nI_add, nI_1, i32_nl, ite_not, lt_nn, lt_nl, lt_ln, eq_nn, eq_nl, eq_ln, if_true, if_false, kil_i, kil_r, kil_l, kil_u, rl_s, rl_n, Nat.zero_add, Nat.lt_irrefl, not_true_eq_false, not_false_eq_true, true_and, dp_1, dp_2, dp_3, dp_4, dp_5, dp_6, dp_7, dp_8, dp_9, dp_10, dp_11, dp_12, dp_13, dp_14, dp_15, dp_16, dp_17, dp_18, dp_19, dp_20, dp_21, dp_22, dp_23, dp_24, dp_25, dp_26, dp_27, dp_28, dp_29, dp_30, dp_31, dp_32, dp_33, dp_34, dp_35, dp_36, dp_37, dp_38, dp_39]
    exact L () () trivial
  · intro w _ _ hw _ hc
    rw [Bool.and_eq_true] at hc
    rw [t143_2]
    simp (disch := first | assumption | omega | decide) only [t143_3, t143_5, t143_8, t143_9, t143_10, t143_13, t143_16, t143_19, t143_20, t143_21, t143_24, t143_27, t143_28, hm_58, hm_59, hm_up, e1, MO, gF_7_0, gF_7_1, gF_7_2, gF_7_3, gF_7_4, gF_7_5, gF_7_6, gF_7_7, aS_n, aS_l, aL_n, aL_l, ln_add, nl_add, ln_mul, nl_mul, nI_add, nI_1, i32_nl, ite_not, lt_nn, lt_nl, lt_ln, eq_nn, eq_nl, eq_ln, if_true, if_false, kil_i, kil_r, kil_l, kil_u, rl_s, rl_n, Nat.zero_add, Nat.lt_irrefl, not_true_eq_false, not_false_eq_true, true_and, dp_1, dp_2, dp_3, dp_4, dp_5, dp_6, dp_7, dp_8, dp_9, dp_10, dp_11, dp_12, dp_13, dp_14, dp_15, dp_16, dp_17, dp_18, dp_19, dp_20, dp_21, dp_22, dp_23, dp_24, dp_25, dp_26, dp_27, dp_28, dp_29, dp_30, dp_31, dp_32, dp_33, dp_34, dp_35, dp_36, dp_37, dp_38, dp_39, gF_7_8, gF_7_9, hw, E_isLetter eX hn (show a < 2 ^ 20 by omega), E_isWord eX eW hn ha he hw, zI_0, hc.1, hc.2]
  · intro w _ _ hw _ hc
    refine ⟨trivial, (), ?_⟩
    rw [t143_2]
    by_cases q : isLt X n a = true
    · have q2 : ¬ wdB X a e w = true := fun z => hc (by rw [q, z]; rfl)
      simp (disch := first | assumption | omega | decide) only [t143_3, t143_5, t143_8, t143_9, t143_10, t143_13, t143_16, t143_19, t143_20, t143_21, t143_24, t143_27, t143_28, t143_29, t143_32, hm_58, hm_59, hm_up, e1, MO, gF_7_0, gF_7_1, gF_7_2, gF_7_3, gF_7_4, gF_7_5, gF_7_6, gF_7_7, aS_n, aS_l, aL_n, aL_l, ln_add, nl_add, ln_mul, nl_mul, nI_add, nI_1, i32_nl, ite_not, lt_nn, lt_nl, lt_ln, eq_nn, eq_nl, eq_ln, if_true, if_false, kil_i, kil_r, kil_l, kil_u, rl_s, rl_n, Nat.zero_add, Nat.lt_irrefl, not_true_eq_false, not_false_eq_true, true_and, dp_1, dp_2, dp_3, dp_4, dp_5, dp_6, dp_7, dp_8, dp_9, dp_10, dp_11, dp_12, dp_13, dp_14, dp_15, dp_16, dp_17, dp_18, dp_19, dp_20, dp_21, dp_22, dp_23, dp_24, dp_25, dp_26, dp_27, dp_28, dp_29, dp_30, dp_31, dp_32, dp_33, dp_34, dp_35, dp_36, dp_37, dp_38, dp_39, gF_7_8, gF_7_9, hw, E_isLetter eX hn (show a < 2 ^ 20 by omega), E_isWord eX eW hn ha he hw, zI_0, q, q2, Bool.false_eq_true]
    · simp (disch := first | assumption | omega | decide) only [t143_3, t143_5, t143_8, t143_9, t143_10, t143_13, t143_16, t143_19, t143_20, t143_21, t143_24, t143_27, t143_28, t143_29, t143_32, hm_58, hm_59, hm_up, e1, MO, gF_7_0, gF_7_1, gF_7_2, gF_7_3, gF_7_4, gF_7_5, gF_7_6, gF_7_7, aS_n, aS_l, aL_n, aL_l, ln_add, nl_add, ln_mul, nl_mul, nI_add, nI_1, i32_nl, ite_not, lt_nn, lt_nl, lt_ln, eq_nn, eq_nl, eq_ln, if_true, if_false, kil_i, kil_r, kil_l, kil_u, rl_s, rl_n, Nat.zero_add, Nat.lt_irrefl, not_true_eq_false, not_false_eq_true, true_and, dp_1, dp_2, dp_3, dp_4, dp_5, dp_6, dp_7, dp_8, dp_9, dp_10, dp_11, dp_12, dp_13, dp_14, dp_15, dp_16, dp_17, dp_18, dp_19, dp_20, dp_21, dp_22, dp_23, dp_24, dp_25, dp_26, dp_27, dp_28, dp_29, dp_30, dp_31, dp_32, dp_33, dp_34, dp_35, dp_36, dp_37, dp_38, dp_39, gF_7_8, gF_7_9, hw, E_isLetter eX hn (show a < 2 ^ 20 by omega), zI_0, q, Bool.false_eq_true]
  · intro _ _ _
    rw [t143_2]
    simp (disch := first | assumption | omega | decide) only [t143_3, t143_5, t143_35, t143_36, hm_58, hm_59, hm_up, e1, MO, gF_7_0, gF_7_1, gF_7_2, gF_7_3, gF_7_4, gF_7_5, gF_7_6, gF_7_7, aS_n, aS_l, aL_n, aL_l, ln_add, nl_add, ln_mul, nl_mul, nI_add, nI_1, i32_nl, ite_not, lt_nn, lt_nl, lt_ln, eq_nn, eq_nl, eq_ln, if_true, if_false, kil_i, kil_r, kil_l, kil_u, rl_s, rl_n, Nat.zero_add, Nat.lt_irrefl, not_true_eq_false, not_false_eq_true, true_and, dp_1, dp_2, dp_3, dp_4, dp_5, dp_6, dp_7, dp_8, dp_9, dp_10, dp_11, dp_12, dp_13, dp_14, dp_15, dp_16, dp_17, dp_18, dp_19, dp_20, dp_21, dp_22, dp_23, dp_24, dp_25, dp_26, dp_27, dp_28, dp_29, dp_30, dp_31, dp_32, dp_33, dp_34, dp_35, dp_36, dp_37, dp_38, dp_39]
def nmR (X : Nat → Int32) (n a e : Nat) (lo hi : Int32) : Int32 :=
  if isFg X n a = true ∧ e ≤ a + 2 then (if lo ≤ nmV X a e ∧ nmV X a e ≤ hi then nmV X a e else -1) else -1
theorem ext_ge {c : Nat → Bool} : ∀ f e, e ≤ ext c f e := by
  intro f
  induction f with
  | zero => intro e; exact Nat.le_refl e
  | succ f ih => intro e; unfold ext; split
                 · have := ih (e + 1); omega
                 · exact Nat.le_refl e
theorem tkE_ge {b : Nat} : tkA X n b ≤ tkE X n b := by
  unfold tkE
  simp only []
  have h0 : tkA X n b ≤ (if tkA X n b < n then tkA X n b + 1 else tkA X n b) := by split <;> omega
  have h1 : tkA X n b ≤ (if isLt X n (tkA X n b) = true then ext (isLt X n) (n + 1) (if tkA X n b < n then tkA X n b + 1 else tkA X n b) else (if tkA X n b < n then tkA X n b + 1 else tkA X n b)) := by
    split
    · exact Nat.le_trans h0 (ext_ge _ _)
    · exact h0
  split
  · exact Nat.le_trans h1 (ext_ge _ _)
  · exact h1
theorem E_number {b : Nat} {lo hi pa r5 r6 dg : Int32} (eX : h.2.2 62 = oI 150 X) (hn : n ≤ 150) (hb : b ≤ n) : T (d + 3) 144 0 [.ref 58, .int lo, .int hi, un] [] (hm (md h ab be (nI n) pa (nI b) r5 r6 dg) R) Q ↔ Q (some (.int (nmR X n (tkA X n b) (tkE X n b) lo hi))) (hm (md h ab be (nI n) (nI (tkA X n b)) (nI (tkE X n b)) r5 r6 dg) R) := by
  have e1 : ∀ z z2, (md h ab be (nI n) z z2 r5 r6 dg).2.2 58 = MO ab be (nI n) z z2 r5 r6 dg := fun _ _ => rfl
  have ho : ∀ z z2, isO ((hm (md h ab be (nI n) z z2 r5 r6 dg) R).2.2 58) 7 := fun z z2 => md_mo.o
  have hx := ho pa (nI b)
  have hy := ho (nI (tkA X n b)) (nI (tkE X n b))
  have ha := tkA_le (X := X) hb
  have he := tkE_le (X := X) hb
  have hae := tkE_ge (X := X) (n := n) (b := b)
  simp (disch := first | assumption | omega | decide) only [t144_0, t144_1, E_next eX hn hb]
  generalize tkA X n b = a at *
  generalize tkE X n b = e at *
  have last : ∀ v : Int32, (T (d + 3) 144 80 [.ref 58, .int lo, .int hi, .int v] [] (hm (md h ab be (nI n) (nI a) (nI e) r5 r6 dg) R) Q ↔ Q (some (.int (if lo ≤ v ∧ v ≤ hi then v else -1))) (hm (md h ab be (nI n) (nI a) (nI e) r5 r6 dg) R)) := by
    intro v
    by_cases q : lo ≤ v ∧ v ≤ hi <;> simp only [t144_80, t144_81, t144_82, t144_83, t144_86, t144_89, t144_90, t144_93, t144_94, E_in, zb_0, q, and_self, if_true, if_false, not_true_eq_false, not_false_eq_true, rl_s, dp_1, dp_2]
  unfold nmR
  by_cases q : isFg X n a = true
  · have hal := isFg_lt q
    by_cases q2 : e ≤ a + 2
    · rw [if_pos ⟨q, q2⟩]
      unfold nmV
      by_cases q3 : e = a + 2
      · subst q3
        rw [if_pos rfl]
        rw [← last]
        simp (disch := first | assumption | omega | decide) only [t144_4, t144_5, t144_6, t144_9, t144_12, t144_15, t144_16, t144_19, t144_20, t144_23, t144_24, t144_25, t144_28, t144_29, t144_30, t144_31, t144_34, t144_35, t144_38, t144_39, t144_41, t144_42, t144_43, t144_44, t144_47, t144_48, t144_51, t144_52, t144_53, t144_56, t144_58, t144_59, t144_60, t144_61, t144_64, t144_65, t144_68, t144_69, t144_70, t144_71, t144_72, t144_74, t144_75, t144_78, t144_79, hm_58, hm_59, hm_up, e1, MO, gF_7_0, gF_7_1, gF_7_2, gF_7_3, gF_7_4, gF_7_5, gF_7_6, gF_7_7, aS_n, aS_l, aL_n, aL_l, ln_add, nl_add, ln_mul, nl_mul, nI_add, nI_1, i32_nl, ite_not, lt_nn, lt_nl, lt_ln, eq_nn, eq_nl, eq_ln, if_true, if_false, kil_i, kil_r, kil_l, kil_u, rl_s, rl_n, Nat.zero_add, Nat.lt_irrefl, not_true_eq_false, not_false_eq_true, true_and, dp_1, dp_2, dp_3, dp_4, dp_5, dp_6, dp_7, dp_8, dp_9, dp_10, dp_11, dp_12, dp_13, dp_14, dp_15, dp_16, dp_17, dp_18, dp_19, dp_20, dp_21, dp_22, dp_23, dp_24, dp_25, dp_26, dp_27, dp_28, dp_29, dp_30, dp_31, dp_32, dp_33, dp_34, dp_35, dp_36, dp_37, dp_38, dp_39, gF_7_8, gF_7_9, E_isFigure eX hn (show a < 2 ^ 20 by omega), zI_0, q, sub_nn, show a + 2 - a = 2 by omega, show ¬ 2 < 2 by omega, md_62, eX]
      · rw [if_neg q3, ← last]
        simp (disch := first | assumption | omega | decide) only [t144_4, t144_5, t144_6, t144_9, t144_12, t144_15, t144_16, t144_19, t144_20, t144_23, t144_24, t144_25, t144_28, t144_29, t144_30, t144_31, t144_34, t144_35, t144_38, t144_39, t144_41, t144_42, t144_43, t144_44, t144_47, t144_48, t144_51, t144_52, t144_53, t144_56, t144_58, t144_59, t144_60, t144_61, t144_64, t144_65, t144_68, t144_69, t144_70, t144_71, t144_72, t144_74, t144_75, t144_78, t144_79, hm_58, hm_59, hm_up, e1, MO, gF_7_0, gF_7_1, gF_7_2, gF_7_3, gF_7_4, gF_7_5, gF_7_6, gF_7_7, aS_n, aS_l, aL_n, aL_l, ln_add, nl_add, ln_mul, nl_mul, nI_add, nI_1, i32_nl, ite_not, lt_nn, lt_nl, lt_ln, eq_nn, eq_nl, eq_ln, if_true, if_false, kil_i, kil_r, kil_l, kil_u, rl_s, rl_n, Nat.zero_add, Nat.lt_irrefl, not_true_eq_false, not_false_eq_true, true_and, dp_1, dp_2, dp_3, dp_4, dp_5, dp_6, dp_7, dp_8, dp_9, dp_10, dp_11, dp_12, dp_13, dp_14, dp_15, dp_16, dp_17, dp_18, dp_19, dp_20, dp_21, dp_22, dp_23, dp_24, dp_25, dp_26, dp_27, dp_28, dp_29, dp_30, dp_31, dp_32, dp_33, dp_34, dp_35, dp_36, dp_37, dp_38, dp_39, gF_7_8, gF_7_9, E_isFigure eX hn (show a < 2 ^ 20 by omega), zI_0, q, sub_nn, show ¬ 2 < e - a by omega, show ¬ e - a = 2 by omega, md_62, eX]
    · rw [if_neg (fun z => q2 z.2)]
      simp (disch := first | assumption | omega | decide) only [t144_4, t144_5, t144_6, t144_9, t144_12, t144_15, t144_16, t144_19, t144_20, t144_23, t144_24, t144_25, t144_28, t144_29, hm_58, hm_59, hm_up, e1, MO, gF_7_0, gF_7_1, gF_7_2, gF_7_3, gF_7_4, gF_7_5, gF_7_6, gF_7_7, aS_n, aS_l, aL_n, aL_l, ln_add, nl_add, ln_mul, nl_mul, nI_add, nI_1, i32_nl, ite_not, lt_nn, lt_nl, lt_ln, eq_nn, eq_nl, eq_ln, if_true, if_false, kil_i, kil_r, kil_l, kil_u, rl_s, rl_n, Nat.zero_add, Nat.lt_irrefl, not_true_eq_false, not_false_eq_true, true_and, dp_1, dp_2, dp_3, dp_4, dp_5, dp_6, dp_7, dp_8, dp_9, dp_10, dp_11, dp_12, dp_13, dp_14, dp_15, dp_16, dp_17, dp_18, dp_19, dp_20, dp_21, dp_22, dp_23, dp_24, dp_25, dp_26, dp_27, dp_28, dp_29, dp_30, dp_31, dp_32, dp_33, dp_34, dp_35, dp_36, dp_37, dp_38, dp_39, gF_7_8, gF_7_9, E_isFigure eX hn (show a < 2 ^ 20 by omega), zI_0, q, sub_nn, show 2 < e - a by omega]
  · rw [if_neg (fun z => q z.1)]
    simp (disch := first | assumption | omega | decide) only [t144_4, t144_5, t144_6, t144_9, t144_12, t144_15, t144_16, t144_19, t144_20, t144_23, t144_24, t144_25, t144_28, t144_29, hm_58, hm_59, hm_up, e1, MO, gF_7_0, gF_7_1, gF_7_2, gF_7_3, gF_7_4, gF_7_5, gF_7_6, gF_7_7, aS_n, aS_l, aL_n, aL_l, ln_add, nl_add, ln_mul, nl_mul, nI_add, nI_1, i32_nl, ite_not, lt_nn, lt_nl, lt_ln, eq_nn, eq_nl, eq_ln, if_true, if_false, kil_i, kil_r, kil_l, kil_u, rl_s, rl_n, Nat.zero_add, Nat.lt_irrefl, not_true_eq_false, not_false_eq_true, true_and, dp_1, dp_2, dp_3, dp_4, dp_5, dp_6, dp_7, dp_8, dp_9, dp_10, dp_11, dp_12, dp_13, dp_14, dp_15, dp_16, dp_17, dp_18, dp_19, dp_20, dp_21, dp_22, dp_23, dp_24, dp_25, dp_26, dp_27, dp_28, dp_29, dp_30, dp_31, dp_32, dp_33, dp_34, dp_35, dp_36, dp_37, dp_38, dp_39, gF_7_8, gF_7_9, E_isFigure eX hn (show a < 2 ^ 20 by omega), zI_0, q, Bool.false_eq_true]
end PK
