/-! what is made: cells laid one behind another; a new uplands -/
def cup (C : Nat → AC) (k : Nat) (c : AC) : Nat → AC := fun j => if j = k then c else C j
def ow (h : Hp) (b t n : Nat) (C : Nat → AC) : Hp := (b + n, t, fun j => if b ≤ j ∧ j < b + n then C (j - b) else h.2.2 j)
theorem cup_s {C : Nat → AC} {k : Nat} {c : AC} : cup C k c k = c := by unfold cup; rw [if_pos rfl]
theorem cup_o {C : Nat → AC} {k j : Nat} {c : AC} (h : j ≠ k) : cup C k c j = C j := by unfold cup; rw [if_neg h]
theorem cup_cup {C : Nat → AC} {k : Nat} {c c2 : AC} : cup (cup C k c) k c2 = cup C k c2 := by
  funext j; unfold cup; by_cases e : j = k
  · rw [if_pos e, if_pos e]
  · rw [if_neg e, if_neg e, if_neg e]
section OW
variable {h : Hp} {b t n : Nat} {C : Nat → AC}
theorem ow_1 : (ow h b t n C).1 = b + n := rfl
theorem ow_2 : (ow h b t n C).2.1 = t := rfl
theorem ow_get {k : Nat} (hk : k < n) : (ow h b t n C).2.2 (b + k) = C k := by
  show (if b ≤ b + k ∧ b + k < b + n then C (b + k - b) else h.2.2 (b + k)) = C k
  rw [if_pos ⟨by omega, by omega⟩, Nat.add_sub_cancel_left]
theorem ow_get0 (hk : 0 < n) : (ow h b t n C).2.2 b = C 0 := ow_get (k := 0) hk
theorem ow_new {m : Nat} {c : AC} : hnew (ow h b t n C) m c = ow h b (t + m) (n + 1) (cup C n c) := by
  refine Prod.ext rfl (Prod.ext rfl (funext fun j => ?_))
  show (if j = b + n then c else if b ≤ j ∧ j < b + n then C (j - b) else h.2.2 j) = (if b ≤ j ∧ j < b + (n + 1) then (if j - b = n then c else C (j - b)) else h.2.2 j)
  by_cases e : j = b + n
  · rw [if_pos e, if_pos ⟨by omega, by omega⟩, if_pos (by omega)]
  · rw [if_neg e]
    by_cases e2 : b ≤ j ∧ j < b + n
    · rw [if_pos e2, if_pos ⟨by omega, by omega⟩, if_neg (by omega)]
    · rw [if_neg e2, if_neg (by omega)]
theorem ow_up {k : Nat} {c : AC} (hk : k < n) : hup (ow h b t n C) (b + k) c = ow h b t n (cup C k c) := by
  refine Prod.ext rfl (Prod.ext rfl (funext fun j => ?_))
  show (if j = b + k then c else if b ≤ j ∧ j < b + n then C (j - b) else h.2.2 j) = (if b ≤ j ∧ j < b + n then (if j - b = k then c else C (j - b)) else h.2.2 j)
  by_cases e : j = b + k
  · rw [if_pos e, if_pos ⟨by omega, by omega⟩, if_pos (by omega)]
  · rw [if_neg e]
    by_cases e2 : b ≤ j ∧ j < b + n
    · rw [if_pos e2, if_pos e2, if_neg (by omega)]
    · rw [if_neg e2, if_neg e2]
theorem ow_up0 {c : AC} (hk : 0 < n) : hup (ow h b t n C) b c = ow h b t n (cup C 0 c) := ow_up (k := 0) hk
theorem ow_start {m : Nat} {c : AC} : hnew h m c = ow h h.1 (h.2.1 + m) 1 (cup C 0 c) := by
  refine Prod.ext rfl (Prod.ext rfl (funext fun j => ?_))
  show (if j = h.1 then c else h.2.2 j) = (if h.1 ≤ j ∧ j < h.1 + 1 then (if j - h.1 = 0 then c else C (j - h.1)) else h.2.2 j)
  by_cases e : j = h.1
  · rw [if_pos e, if_pos ⟨by omega, by omega⟩, if_pos (by omega)]
  · rw [if_neg e, if_neg (by omega)]
end OW
theorem dfl_5 : dfl 5 = [.null, .null, .null, .null, .null, .null, .null, .null, .null, .null, .int 0, .int 0, .int 0, .int 0] := rfl
theorem dfl_3 : dfl 3 = [.int 0, .int 0, .null, .int 0] := rfl
theorem na_4 : ((0 : Int) ≤ (4 : Int32).toInt ∧ (4 : Int32).toInt ≤ 100000) = True := by decide
theorem na_6 : ((0 : Int) ≤ (6 : Int32).toInt ∧ (6 : Int32).toInt ≤ 100000) = True := by decide
theorem na_20 : ((0 : Int) ≤ ((5 : Int32) * 4).toInt ∧ ((5 : Int32) * 4).toInt ≤ 100000) = True := by decide
theorem na_24 : ((0 : Int) ≤ ((6 : Int32) * 4).toInt ∧ ((6 : Int32) * 4).toInt ≤ 100000) = True := by decide
theorem na_30 : ((0 : Int) ≤ ((6 : Int32) * 5).toInt ∧ ((6 : Int32) * 5).toInt ≤ 100000) = True := by decide
theorem na_96 : ((0 : Int) ≤ ((8 : Int32) * 12).toInt ∧ ((8 : Int32) * 12).toInt ≤ 100000) = True := by decide
theorem nc_4 : (4 : Int32).toNatClampNeg = 4 := by decide
theorem nc_6 : (6 : Int32).toNatClampNeg = 6 := by decide
theorem nc_20 : ((5 : Int32) * 4).toNatClampNeg = 20 := by decide
theorem nc_24 : ((6 : Int32) * 4).toNatClampNeg = 24 := by decide
theorem nc_30 : ((6 : Int32) * 5).toNatClampNeg = 30 := by decide
theorem nc_96 : ((8 : Int32) * 12).toNatClampNeg = 96 := by decide
theorem mx_4 : (if (1 : Int32) < 4 then (4 : Int32) else 1) = 4 := by decide
theorem mx_5 : (if (1 : Int32) < 5 then (5 : Int32) else 1) = 5 := by decide
theorem mx_6 : (if (1 : Int32) < 6 then (6 : Int32) else 1) = 6 := by decide
theorem mx_8 : (if (1 : Int32) < 8 then (8 : Int32) else 1) = 8 := by decide
theorem mx_12 : (if (1 : Int32) < 12 then (12 : Int32) else 1) = 12 := by decide
theorem ow_eq {h : Hp} {b t : Nat} {C : Nat → AC} {D : Nat → Nat → Int32} (e : ∀ k, k < 15 → C k = cellU b D k) : ow h b t 15 C = hU (b + 15, t, h.2.2) b D := by
  refine Prod.ext rfl (Prod.ext rfl (funext fun j => ?_))
  show (if b ≤ j ∧ j < b + 15 then C (j - b) else h.2.2 j) = (if b ≤ j ∧ j < b + 15 then cellU b D (j - b) else h.2.2 j)
  by_cases q : b ≤ j ∧ j < b + 15
  · rw [if_pos q, if_pos q, e _ (by omega)]
  · rw [if_neg q, if_neg q]
def zD : Nat → Nat → Int32 := fun _ _ => 0
set_option maxHeartbeats 4000000 in
theorem W_newU {d b t : Nat} {h : Hp} {Q : Pst} {C : Nat → AC} : T (d + 3) 52 0 [.ref b] [] (ow h b t 1 (cup C 0 (oO 5 (dfl 5)))) Q ↔ Q none (hU (b + 15, t + 216, h.2.2) b zD) := by
  simp (disch := first | decide | omega) only [t52_0, t52_1, t52_4, t52_5, t52_7, t52_9, t52_12, t52_13, t52_15, t52_17, t52_20, t52_21, t52_23, t52_25, t52_28, t52_29, t52_30, t52_32, t52_35, t52_36, t52_37, t52_39, t52_42, t52_43, t52_44, t52_46, t52_49, t52_50, t52_53, t52_54, t52_55, t52_56, t52_59, t52_62, t52_63, t52_66, t52_67, t52_69, t52_70, t52_73, t52_76, t52_77, t52_80, t52_81, t52_83, t52_84, t52_87, t52_90, t52_91, t52_94, t52_95, t52_97, t52_99, t52_102, t52_105, t52_106, t52_107, t52_110, t52_111, t52_112, t52_115, t52_116, t52_117, t52_120, t52_121, t52_122, t52_125, t34_0, t34_1, t34_4, t34_5, t34_6, t34_9, t34_10, t34_11, t34_12, t34_15, t34_18, t34_19, t34_20, t34_21, t34_24, t34_27, t34_28, t34_29, t34_32, t34_33, t34_36, t34_37, t34_39, t34_42, dfl_5, dfl_3, ow_1, ow_get, ow_get0, ow_new, ow_up, ow_up0, cup_s, cup_o, cup_cup, na_4, na_6, na_20, na_24, na_30, na_96, nc_4, nc_6, nc_20, nc_24, nc_30, nc_96, mx_4, mx_5, mx_6, mx_8, mx_12, true_and, gF_3_0, gF_3_1, pF_3_0, pF_3_1, pF_3_2, pF_3_3, pF_5_0, pF_5_1, pF_5_2, pF_5_3, pF_5_4, pF_5_5, pF_5_6, pF_5_7, pF_5_8, pF_5_9, pF_5_10, pF_5_11, pF_5_12, pF_5_13, rl_s, rl_n, kil_i, kil_r, dp_1, dp_2, dp_3, dp_4, dp_5, dp_6, dp_7, dp_8, dp_9, dp_10, dp_11, dp_12, dp_13, dp_14, dp_15, dp_16, dp_17, dp_18, dp_19, dp_20, dp_21, dp_22, dp_23, dp_24, dp_25, dp_26, dp_27, dp_28, dp_29, dp_30, dp_31, dp_32, dp_33, dp_34, dp_35, dp_36, dp_37, dp_38, dp_39]
  refine iff_of_eq (congrArg (Q none) (ow_eq (fun k hk => ?_)))
  match k, hk with
  | 0, _ => rfl
  | 1, _ => rfl
  | 2, _ => rfl
  | 3, _ => rfl
  | 4, _ => rfl
  | 5, _ => rfl
  | 6, _ => rfl
  | 7, _ => rfl
  | 8, _ => rfl
  | 9, _ => rfl
  | 10, _ => rfl
  | 11, _ => rfl
  | 12, _ => rfl
  | 13, _ => rfl
  | 14, _ => rfl
/-! the class's public calls: images -/
theorem qL_n {m n : Nat} {f : Nat → Option Nat} {K : Option Nat → Prop} (hm : m < n) (hn : n < 2 ^ 31) : qL (oQ n f) (nI m) K ↔ K (f m) := by
  rw [qL_Q, nI_toInt (by omega), nI_clamp (by omega)]
  exact ⟨fun z => z.2, fun z => ⟨⟨by omega, by omega⟩, z⟩⟩
theorem hU_same {h : Hp} {b : Nat} {D : Nat → Nat → Int32} {j : Nat} (hj : j < b ∨ b + 15 ≤ j) : (hU h b D).2.2 j = h.2.2 j := hU_out hj
/-- a heap whose first cells are the class's -/
theorem CA_gen {h h2 : Hp} {S S2 : St} {ab be : Int32} {V : Nat → Int32} {O : Nat → Nat → Int32} {I I2 : Nat → Option Nat} {D : Nat → Nat → Int32} {g hh sn nn mn un0 n : Nat} (cb : CB h S ab be V O I n) (e : ∀ j, j < 69 → j ≠ 44 → h2.2.2 j = (hX h ab be V O D).2.2 j) (e44 : h2.2.2 44 = oQ 2 I2) (im : IM h2 S2 I2) (s1 : sL S2 = sL S) (s2 : sT S2 = sT S) (s3 : sF S2 = sF S) (s4 : sA S2 = sA S) (s5 : sB S2 = sB S) (ri : RI (sR S2) g hh sn nn mn un0) (sm : SM D (sR S2) g hh sn nn mn un0) : CAx h2 S2 := by
  obtain ⟨⟨E, b1⟩, b2, b3, b4, b5, b6, b7⟩ := cb
  refine ⟨g, hh, sn, nn, mn, un0, n, ab, be, V, O, D, I2, fun j hj => ?_, fun j hj => ?_, ⟨⟨E, fun j hj => ?_⟩, e44, by rw [s1]; exact b3, by rw [s2]; exact b4, by rw [s3]; exact b5, by rw [s4, s5]; exact b6, im⟩, ri, sm⟩
  · rw [e j (by omega) (by omega), hX_C hj]
  · rw [e _ (by omega) (by omega), hX_U hj]
  · rw [e _ (by omega) (by omega), hX_out (by omega)]; exact b1 j hj
theorem RI.four {R : Nat → Int32} {D : Nat → Nat → Int32} {g hh sn nn mn u : Nat} (r : RI R g hh sn nn mn u) (p : SM D R g hh sn nn mn u) : (D 7 0 = nI sn ∧ sn ≤ 5) ∧ (D 9 0 = nI nn ∧ nn ≤ 6) ∧ (D 11 0 = nI mn ∧ mn ≤ 6) ∧ (D 13 0 = nI u ∧ u ≤ 8) := ⟨⟨p.2.1.1.trans r.2.2.1.1, r.2.2.1.2⟩, ⟨p.2.1.2.1.trans r.2.2.2.1.1, r.2.2.2.1.2⟩, ⟨p.2.1.2.2.1.trans r.2.2.2.2.1.1, r.2.2.2.2.1.2⟩, ⟨p.2.1.2.2.2.trans r.2.2.2.2.2.1.1, r.2.2.2.2.2.1.2⟩⟩
theorem frC_gen {h h2 : Hp} (e : ∀ j, j < 69 → (j < 13 ∨ 58 ≤ j) → h2.2.2 j = h.2.2 j) : frC h h2 := fun a ha => e a (by omega) (by omega)
section XA
variable {d : Nat} {h : Hp} {S : St} {g hh sn nn mn un0 n : Nat} {Q : Pst}
theorem X_from {i : Int32} (c : ClsAt h S g hh sn nn mn un0 n) (k : ∀ h2, CAx h2 (sp_from S i).2 → frC h h2 → Q (some (.int (sp_from S i).1)) h2) : T (d + 9) 111 0 [.ref 13, .int i] [] h Q := by
  obtain ⟨ab, be, V, O, D, I, c1, c2, cb, ri, sm⟩ := c
  refine T_eq (hX_self c1 c2) ?_
  have e44 : (hX h ab be V O D).2.2 44 = oQ 2 I := by rw [hX_out (by omega)]; exact cb.2.1
  have e2 : Int32.ofNat 2 - 1 = 1 := rfl
  unfold sp_from at k
  by_cases q : rg i 0 1 = true
  · rw [if_pos q] at k
    obtain ⟨a, ha, rfl⟩ := rg_l (b := 1) q
    simp (disch := first | assumption | omega | decide) only [nI_clamp] at k
    obtain ⟨i1, i2, i3⟩ := cb.2.2.2.2.2.2
    obtain ⟨j1, j2⟩ := i3 a (by omega)
    cases hI : I a with
    | none =>
      rw [if_pos (j1 hI)] at k
      simp (disch := first | assumption | omega | decide | exact hX_o13 | exact hU_o | exact hX_o45 | exact hX_o47 | exact hX_o49 | exact hX_o54 | exact hU_o7 | exact hU_o9 | exact hU_o11 | exact hU_o13) only [t111_0, t111_1, t111_2, t111_3, t111_6, t111_7, t111_8, t111_9, t111_12, t111_15, t111_16, t111_18, t111_21, t111_22, t111_23, t111_26, t111_27, t111_28, t111_28N, t111_31, t111_32, t111_34, t111_37, t111_38, t111_39, t111_42, t111_43, t111_46, t111_47, t111_48, t111_51, t111_52, hC_13, hC_45, hC_47, hC_49, hC_54, gF_6_0, gF_6_1, gF_6_2, gF_6_3, gF_6_4, gF_6_5, gF_6_6, gF_6_7, gF_6_8, gF_6_9, hU_0, hU_7, hU_9, hU_11, hU_13, gF_5_0, gF_5_1, gF_5_2, gF_5_3, gF_5_4, gF_5_5, gF_5_6, gF_5_7, gF_5_8, gF_5_9, gF_5_10, gF_5_11, gF_5_12, gF_5_13, gF_3_0, gF_3_1, gF_3_2, gF_3_3, ln_add, nl_add, ln_mul, nl_mul, nI_add, nI_1, i32_nl, ite_not, lt_nn, lt_nl, lt_ln, eq_nn, eq_nl, eq_ln, if_true, if_false, kil_i, kil_r, kil_l, kil_u, rl_s, rl_n, Nat.zero_add, Nat.lt_irrefl, not_true_eq_false, not_false_eq_true, true_and, dp_1, dp_2, dp_3, dp_4, dp_5, dp_6, dp_7, dp_8, dp_9, dp_10, dp_11, dp_12, dp_13, dp_14, dp_15, dp_16, dp_17, dp_18, dp_19, dp_20, dp_21, dp_22, dp_23, dp_24, dp_25, dp_26, dp_27, dp_28, dp_29, dp_30, dp_31, dp_32, dp_33, dp_34, dp_35, dp_36, dp_37, dp_38, dp_39, e44, cN_Q, e2, E_withinL, zb_0, q, qL_n (show a < 2 by omega) (show 2 < 2 ^ 31 by decide), hI, va_rf, C_refN]
      exact kcR cb ri sm 1 k
    | some adr =>
      obtain ⟨z1, z2, z3, E, g2, hh2, sn2, nn2, mn2, un2, z4, z5, z6⟩ := j2 adr hI
      rw [if_neg z1] at k
      have eh : ∀ D, hX h ab be V O D = hU (hU (hC h ab be V O) adr E) 14 D := fun D => by
        show hU _ 14 D = _
        rw [hU_self (h := hC h ab be V O) (b := adr) (D := E) (fun j hj => by rw [hC_out (by omega)]; exact z4 j hj)]
      obtain ⟨⟨f1, f2⟩, ⟨f3, f4⟩, ⟨f5, f6⟩, ⟨f7, f8⟩⟩ := z5.four z6
      have U := fun Q2 : Pst => @U_takeFrom (d + 5) 14 adr (hC h ab be V O) Q2 D E sn2 nn2 mn2 un2 (by omega) f1 f2 f3 f4 f5 f6 f7 f8
      rw [← eh D, ← eh (tkD D E)] at U
      simp (disch := first | assumption | omega | decide | exact hX_o13 | exact hU_o | exact hX_o45 | exact hX_o47 | exact hX_o49 | exact hX_o54 | exact hU_o7 | exact hU_o9 | exact hU_o11 | exact hU_o13) only [t111_0, t111_1, t111_2, t111_3, t111_6, t111_7, t111_8, t111_9, t111_12, t111_15, t111_16, t111_18, t111_21, t111_22, t111_23, t111_26, t111_27, t111_28, t111_28N, t111_31, t111_32, t111_34, t111_37, t111_38, t111_39, t111_42, t111_43, t111_46, t111_47, t111_48, t111_51, t111_52, hC_13, hC_45, hC_47, hC_49, hC_54, gF_6_0, gF_6_1, gF_6_2, gF_6_3, gF_6_4, gF_6_5, gF_6_6, gF_6_7, gF_6_8, gF_6_9, hU_0, hU_7, hU_9, hU_11, hU_13, gF_5_0, gF_5_1, gF_5_2, gF_5_3, gF_5_4, gF_5_5, gF_5_6, gF_5_7, gF_5_8, gF_5_9, gF_5_10, gF_5_11, gF_5_12, gF_5_13, gF_3_0, gF_3_1, gF_3_2, gF_3_3, ln_add, nl_add, ln_mul, nl_mul, nI_add, nI_1, i32_nl, ite_not, lt_nn, lt_nl, lt_ln, eq_nn, eq_nl, eq_ln, if_true, if_false, kil_i, kil_r, kil_l, kil_u, rl_s, rl_n, Nat.zero_add, Nat.lt_irrefl, not_true_eq_false, not_false_eq_true, true_and, dp_1, dp_2, dp_3, dp_4, dp_5, dp_6, dp_7, dp_8, dp_9, dp_10, dp_11, dp_12, dp_13, dp_14, dp_15, dp_16, dp_17, dp_18, dp_19, dp_20, dp_21, dp_22, dp_23, dp_24, dp_25, dp_26, dp_27, dp_28, dp_29, dp_30, dp_31, dp_32, dp_33, dp_34, dp_35, dp_36, dp_37, dp_38, dp_39, e44, cN_Q, e2, E_withinL, zb_0, q, qL_n (show a < 2 by omega) (show 2 < 2 ^ 31 by decide), hI, va_rf, U]
      have er : ∀ k, k < 208 → cpR (sR S) (208 + 208 * a) 0 208 k = (fun k => sR S (208 + 208 * a + k)) k := fun k hk => by
        unfold cpR; rw [if_pos (by omega)]; rfl
      exact kcW cb (fun k h1 h2 => cpR_o (by omega)) (z5.congr er) ((SM_take z5 z6).congr er z5) k
  · rw [if_neg q] at k
    simp (disch := first | assumption | omega | decide | exact hX_o13 | exact hU_o | exact hX_o45 | exact hX_o47 | exact hX_o49 | exact hX_o54 | exact hU_o7 | exact hU_o9 | exact hU_o11 | exact hU_o13) only [t111_0, t111_1, t111_2, t111_3, t111_6, t111_7, t111_8, t111_9, t111_12, t111_15, t111_16, t111_18, t111_21, t111_22, t111_23, t111_26, t111_27, t111_28, t111_28N, t111_31, t111_32, t111_34, t111_37, t111_38, t111_39, t111_42, t111_43, t111_46, t111_47, t111_48, t111_51, t111_52, hC_13, hC_45, hC_47, hC_49, hC_54, gF_6_0, gF_6_1, gF_6_2, gF_6_3, gF_6_4, gF_6_5, gF_6_6, gF_6_7, gF_6_8, gF_6_9, hU_0, hU_7, hU_9, hU_11, hU_13, gF_5_0, gF_5_1, gF_5_2, gF_5_3, gF_5_4, gF_5_5, gF_5_6, gF_5_7, gF_5_8, gF_5_9, gF_5_10, gF_5_11, gF_5_12, gF_5_13, gF_3_0, gF_3_1, gF_3_2, gF_3_3, ln_add, nl_add, ln_mul, nl_mul, nI_add, nI_1, i32_nl, ite_not, lt_nn, lt_nl, lt_ln, eq_nn, eq_nl, eq_ln, if_true, if_false, kil_i, kil_r, kil_l, kil_u, rl_s, rl_n, Nat.zero_add, Nat.lt_irrefl, not_true_eq_false, not_false_eq_true, true_and, dp_1, dp_2, dp_3, dp_4, dp_5, dp_6, dp_7, dp_8, dp_9, dp_10, dp_11, dp_12, dp_13, dp_14, dp_15, dp_16, dp_17, dp_18, dp_19, dp_20, dp_21, dp_22, dp_23, dp_24, dp_25, dp_26, dp_27, dp_28, dp_29, dp_30, dp_31, dp_32, dp_33, dp_34, dp_35, dp_36, dp_37, dp_38, dp_39, e44, cN_Q, e2, E_withinL, zb_0, q, C_refB, Bool.false_eq_true]
    exact kcR cb ri sm 0 k
end XA
