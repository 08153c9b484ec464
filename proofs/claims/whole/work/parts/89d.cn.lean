/-! the class's public calls: images kept; years -/
theorem qS_n {m n v : Nat} {f : Nat → Option Nat} {fs : List Value} {K : AC → Prop} (hm : m < n) (hn : n < 2 ^ 31) : qS (oQ n f) (oO 5 fs) (nI m) v K ↔ K (oQ n (va_up f m (some v))) := by
  rw [qS_Q, nI_toInt (by omega), nI_clamp (by omega)]
  exact ⟨fun z => z.2, fun z => ⟨⟨by omega, by omega⟩, z⟩⟩
theorem vau_s {f : Nat → Option Nat} {k : Nat} {x : Option Nat} : va_up f k x k = x := by simp [va_up]
theorem vau_o {f : Nat → Option Nat} {k j : Nat} {x : Option Nat} (h : j ≠ k) : va_up f k x j = f j := by simp [va_up, h]
section XB
variable {d : Nat} {h : Hp} {S : St} {g hh sn nn mn un0 n : Nat} {Q : Pst}
/-- the uplands as it stands is kept at an address -/
theorem IM_put {h h2 : Hp} {S : St} {I I2 : Nat → Option Nat} {a adr : Nat} {D2 : Nat → Nat → Int32} (ha : a < 2) (im : IM h S I) (ri : RI (sR S) g hh sn nn mn un0) (sm : SM D2 (sR S) g hh sn nn mn un0)
    (e1 : h2.1 = 69 + 15 * (cO (I2 0) + cO (I2 1)) ∧ h2.2.1 ≤ 3000 * (1 + (cO (I2 0) + cO (I2 1)))) (hle : h.1 ≤ h2.1) (hI : I2 a = some adr) (hoth : ∀ i, i < 2 → i ≠ a → I2 i = I i)
    (hadr : 69 ≤ adr ∧ adr + 15 ≤ h2.1) (hd : ∀ i b, i < 2 → i ≠ a → I i = some b → b + 15 ≤ adr ∨ adr + 15 ≤ b)
    (hnew : ∀ j, j < 15 → h2.2.2 (adr + j) = cellU adr D2 j) (hsame : ∀ j, 69 ≤ j → (j < adr ∨ adr + 15 ≤ j) → h2.2.2 j = h.2.2 j) :
    IM h2 (stIm S (cpR (sR S) 0 (208 + 208 * a) 208) (upd (sK S) a 1)) I2 := by
  obtain ⟨i1, i2, i3⟩ := im
  refine ⟨e1, ?_, ?_⟩
  · intro x y hx hy
    have : a = 0 ∨ a = 1 := by omega
    rcases this with rfl | rfl
    · rw [hI] at hx
      cases hx
      have hy2 := hy
      rw [hoth 1 (by omega) (by omega)] at hy2
      rcases hd 1 y (by omega) (by omega) hy2 with z | z <;> omega
    · rw [hI] at hy
      cases hy
      have hx2 := hx
      rw [hoth 0 (by omega) (by omega)] at hx2
      rcases hd 0 x (by omega) (by omega) hx2 with z | z <;> omega
  · intro i hi
    by_cases q : i = a
    · subst q
      refine ⟨fun z => (by rw [hI] at z; cases z), fun x hx => ?_⟩
      rw [hI] at hx
      cases hx
      have er : ∀ k, k < 208 → (fun k => sR (stIm S (cpR (sR S) 0 (208 + 208 * i) 208) (upd (sK S) i 1)) (208 + 208 * i + k)) k = sR S k := fun k hk => by
        show cpR (sR S) 0 (208 + 208 * i) 208 (208 + 208 * i + k) = sR S k
        rw [cpR_i hk, Nat.zero_add]
      refine ⟨?_, hadr.1, hadr.2, D2, g, hh, sn, nn, mn, un0, hnew, ri.congr er, sm.congr er ri⟩
      show ¬ upd (sK S) i 1 i = 0
      rw [upd_eq]; decide
    · have ek : sK (stIm S (cpR (sR S) 0 (208 + 208 * a) 208) (upd (sK S) a 1)) i = sK S i := upd_ne q
      rw [hoth i hi q, ek]
      refine ⟨(i3 i hi).1, fun x hx => ?_⟩
      obtain ⟨z1, z2, z3, D, g3, hh3, sn3, nn3, mn3, un3, z4, z5, z6⟩ := (i3 i hi).2 x hx
      have hdx := hd i x hi q hx
      have er : ∀ k, k < 208 → (fun k => sR (stIm S (cpR (sR S) 0 (208 + 208 * a) 208) (upd (sK S) a 1)) (208 + 208 * i + k)) k = (fun k => sR S (208 + 208 * i + k)) k := fun k hk => by
        show cpR (sR S) 0 (208 + 208 * a) 208 (208 + 208 * i + k) = sR S (208 + 208 * i + k)
        have : (i = 0 ∧ a = 1) ∨ (i = 1 ∧ a = 0) := by omega
        rcases this with ⟨rfl, rfl⟩ | ⟨rfl, rfl⟩ <;> exact cpR_o (by omega)
      exact ⟨z1, z2, by omega, D, g3, hh3, sn3, nn3, mn3, un3, fun j hj => by rw [hsame (x + j) (by omega) (by omega)]; exact z4 j hj, z5.congr er, z6.congr er z5⟩
theorem X_image {i : Int32} (c : ClsAt h S g hh sn nn mn un0 n) (k : ∀ h2, CAx h2 (sp_image S i).2 → frC h h2 → Q (some (.int (sp_image S i).1)) h2) : T (d + 9) 110 0 [.ref 13, .int i] [] h Q := by
  obtain ⟨ab, be, V, O, D, I, c1, c2, cb, ri, sm⟩ := c
  refine T_eq (hX_self c1 c2) ?_
  have e44 : (hX h ab be V O D).2.2 44 = oQ 2 I := by rw [hX_out (by omega)]; exact cb.2.1
  have e2 : Int32.ofNat 2 - 1 = 1 := rfl
  unfold sp_image at k
  by_cases q : rg i 0 1 = true
  · rw [if_pos q] at k
    obtain ⟨a, ha, rfl⟩ := rg_l (b := 1) q
    simp (disch := first | assumption | omega | decide) only [nI_clamp] at k
    have im := cb.2.2.2.2.2.2
    obtain ⟨i1, i2, i3⟩ := id im
    obtain ⟨j1, j2⟩ := i3 a (by omega)
    obtain ⟨⟨f1, f2⟩, ⟨f3, f4⟩, ⟨f5, f6⟩, ⟨f7, f8⟩⟩ := ri.four sm
    have erow : ∀ k, k < 208 → sR (stIm S (cpR (sR S) 0 (208 + 208 * a) 208) (upd (sK S) a 1)) k = sR S k := fun k hk => cpR_o (by omega)
    cases hI : I a with
    | some adr =>
      obtain ⟨z1, z2, z3, E, g2, hh2, sn2, nn2, mn2, un2, z4, z5, z6⟩ := j2 adr hI
      have eh : hU (hU (hC h ab be V O) 14 D) adr E = hX h ab be V O D := hU_self (fun j hj => by rw [hX_out (by omega)]; exact z4 j hj)
      have U := @U_takeFrom (d + 5) adr 14 (hC h ab be V O) (fun r h2 => T (d + 9) 110 57 [.ref 13, .int (nI a)] (rl r []) h2 Q) E D sn nn mn un0 (by omega) f1 f2 f3 f4 f5 f6 f7 f8
      rw [eh] at U
      have ho : isO ((hX h ab be V O D).2.2 adr) 5 := by
        have := z4 0 (by omega)
        rw [hX_out (by omega), show adr = adr + 0 from rfl, this]; exact isO_O
      simp (disch := first | assumption | omega | decide | exact hX_o13 | exact hU_o | exact hX_o45 | exact hX_o47 | exact hX_o49 | exact hX_o54 | exact hU_o7 | exact hU_o9 | exact hU_o11 | exact hU_o13) only [t110_0, t110_1, t110_2, t110_3, t110_6, t110_7, t110_8, t110_9, t110_12, t110_15, t110_16, t110_18, t110_21, t110_22, t110_23, t110_26, t110_27, t110_28, t110_28N, t110_31, t110_32, t110_35, t110_36, t110_39, t110_40, t110_43, t110_44, t110_45, t110_48, t110_49, t110_50, t110_51, t110_54, hC_13, hC_45, hC_47, hC_49, hC_54, gF_6_0, gF_6_1, gF_6_2, gF_6_3, gF_6_4, gF_6_5, gF_6_6, gF_6_7, gF_6_8, gF_6_9, hU_0, hU_7, hU_9, hU_11, hU_13, gF_5_0, gF_5_1, gF_5_2, gF_5_3, gF_5_4, gF_5_5, gF_5_6, gF_5_7, gF_5_8, gF_5_9, gF_5_10, gF_5_11, gF_5_12, gF_5_13, gF_3_0, gF_3_1, gF_3_2, gF_3_3, ln_add, nl_add, ln_mul, nl_mul, nI_add, nI_1, i32_nl, ite_not, lt_nn, lt_nl, lt_ln, eq_nn, eq_nl, eq_ln, if_true, if_false, kil_i, kil_r, kil_l, kil_u, rl_s, rl_n, Nat.zero_add, Nat.lt_irrefl, not_true_eq_false, not_false_eq_true, true_and, dp_1, dp_2, dp_3, dp_4, dp_5, dp_6, dp_7, dp_8, dp_9, dp_10, dp_11, dp_12, dp_13, dp_14, dp_15, dp_16, dp_17, dp_18, dp_19, dp_20, dp_21, dp_22, dp_23, dp_24, dp_25, dp_26, dp_27, dp_28, dp_29, dp_30, dp_31, dp_32, dp_33, dp_34, dp_35, dp_36, dp_37, dp_38, dp_39, e44, cN_Q, e2, E_withinL, zb_0, q, qL_n (show a < 2 by omega) (show 2 < 2 ^ 31 by decide), hI, va_rf]
      refine U.2 ?_
      simp (disch := first | assumption | omega | decide | exact hX_o13 | exact hU_o | exact hX_o45 | exact hX_o47 | exact hX_o49 | exact hX_o54 | exact hU_o7 | exact hU_o9 | exact hU_o11 | exact hU_o13) only [t110_57, t110_58, hC_13, hC_45, hC_47, hC_49, hC_54, gF_6_0, gF_6_1, gF_6_2, gF_6_3, gF_6_4, gF_6_5, gF_6_6, gF_6_7, gF_6_8, gF_6_9, hU_0, hU_7, hU_9, hU_11, hU_13, gF_5_0, gF_5_1, gF_5_2, gF_5_3, gF_5_4, gF_5_5, gF_5_6, gF_5_7, gF_5_8, gF_5_9, gF_5_10, gF_5_11, gF_5_12, gF_5_13, gF_3_0, gF_3_1, gF_3_2, gF_3_3, ln_add, nl_add, ln_mul, nl_mul, nI_add, nI_1, i32_nl, ite_not, lt_nn, lt_nl, lt_ln, eq_nn, eq_nl, eq_ln, if_true, if_false, kil_i, kil_r, kil_l, kil_u, rl_s, rl_n, Nat.zero_add, Nat.lt_irrefl, not_true_eq_false, not_false_eq_true, true_and, dp_1, dp_2, dp_3, dp_4, dp_5, dp_6, dp_7, dp_8, dp_9, dp_10, dp_11, dp_12, dp_13, dp_14, dp_15, dp_16, dp_17, dp_18, dp_19, dp_20, dp_21, dp_22, dp_23, dp_24, dp_25, dp_26, dp_27, dp_28, dp_29, dp_30, dp_31, dp_32, dp_33, dp_34, dp_35, dp_36, dp_37, dp_38, dp_39]
      have im2 := IM_put (h2 := hU (hU (hC h ab be V O) 14 D) adr (tkD E D)) (I2 := I) (a := a) (adr := adr) (by omega) im ri (SM_take ri sm) i1 (Nat.le_refl _) hI (fun _ _ _ => rfl) ⟨z2, z3⟩ (fun i b hi hne hb => by
        have : (i = 0 ∧ a = 1) ∨ (i = 1 ∧ a = 0) := by omega
        rcases this with ⟨rfl, rfl⟩ | ⟨rfl, rfl⟩
        · exact i2 b adr hb hI
        · rcases i2 adr b hI hb with z | z <;> omega) (fun j hj => hU_at hj) (fun j h1 h2 => by
        rw [hU_out h2]; exact hX_out (by omega))
      exact k _ (CA_gen cb (fun j hj _ => by rw [hU_out (by omega)]) (by rw [hU_out (by omega)]; exact e44) im2 rfl rfl rfl rfl rfl (ri.congr erow) (sm.congr erow ri)) (frC_gen (fun j h1 h2 => by rw [hU_out (by omega)]; exact hX_out (by omega)))
    | none =>
      have hb69 : 69 ≤ h.1 := by rw [i1.1]; omega
      have ew : hnew (hX h ab be V O D) 14 (oO 5 (dfl 5)) = ow (hX h ab be V O D) h.1 (h.2.1 + 14) 1 (cup (fun _ => oI 0 fun _ => 0) 0 (oO 5 (dfl 5))) := ow_start
      simp (disch := first | assumption | omega | decide | exact hX_o13 | exact hU_o | exact hX_o45 | exact hX_o47 | exact hX_o49 | exact hX_o54 | exact hU_o7 | exact hU_o9 | exact hU_o11 | exact hU_o13) only [t110_0, t110_1, t110_2, t110_3, t110_6, t110_7, t110_8, t110_9, t110_12, t110_15, t110_16, t110_18, t110_21, t110_22, t110_23, t110_26, t110_27, t110_28, t110_28N, t110_31, t110_32, t110_35, t110_36, t110_39, hC_13, hC_45, hC_47, hC_49, hC_54, gF_6_0, gF_6_1, gF_6_2, gF_6_3, gF_6_4, gF_6_5, gF_6_6, gF_6_7, gF_6_8, gF_6_9, hU_0, hU_7, hU_9, hU_11, hU_13, gF_5_0, gF_5_1, gF_5_2, gF_5_3, gF_5_4, gF_5_5, gF_5_6, gF_5_7, gF_5_8, gF_5_9, gF_5_10, gF_5_11, gF_5_12, gF_5_13, gF_3_0, gF_3_1, gF_3_2, gF_3_3, ln_add, nl_add, ln_mul, nl_mul, nI_add, nI_1, i32_nl, ite_not, lt_nn, lt_nl, lt_ln, eq_nn, eq_nl, eq_ln, if_true, if_false, kil_i, kil_r, kil_l, kil_u, rl_s, rl_n, Nat.zero_add, Nat.lt_irrefl, not_true_eq_false, not_false_eq_true, true_and, dp_1, dp_2, dp_3, dp_4, dp_5, dp_6, dp_7, dp_8, dp_9, dp_10, dp_11, dp_12, dp_13, dp_14, dp_15, dp_16, dp_17, dp_18, dp_19, dp_20, dp_21, dp_22, dp_23, dp_24, dp_25, dp_26, dp_27, dp_28, dp_29, dp_30, dp_31, dp_32, dp_33, dp_34, dp_35, dp_36, dp_37, dp_38, dp_39, e44, cN_Q, e2, E_withinL, zb_0, q, qL_n (show a < 2 by omega) (show 2 < 2 ^ 31 by decide), hI, va_rf, ew]
      show T (d + 9) 110 40 [.ref 13, .int (nI a)] [.ref h.1, .ref h.1, .int (nI a), .ref 44] _ Q
      have W := @W_newU (d + 5) h.1 (h.2.1 + 14) (hX h ab be V O D) (fun r h2 => T (d + 9) 110 43 [.ref 13, .int (nI a)] (rl r [.ref h.1, .int (nI a), .ref 44]) h2 Q) (fun _ => oI 0 fun _ => 0)
      simp (disch := first | assumption | omega | decide | exact hX_o13 | exact hU_o | exact hX_o45 | exact hX_o47 | exact hX_o49 | exact hX_o54 | exact hU_o7 | exact hU_o9 | exact hU_o11 | exact hU_o13) only [t110_40, hC_13, hC_45, hC_47, hC_49, hC_54, gF_6_0, gF_6_1, gF_6_2, gF_6_3, gF_6_4, gF_6_5, gF_6_6, gF_6_7, gF_6_8, gF_6_9, hU_0, hU_7, hU_9, hU_11, hU_13, gF_5_0, gF_5_1, gF_5_2, gF_5_3, gF_5_4, gF_5_5, gF_5_6, gF_5_7, gF_5_8, gF_5_9, gF_5_10, gF_5_11, gF_5_12, gF_5_13, gF_3_0, gF_3_1, gF_3_2, gF_3_3, ln_add, nl_add, ln_mul, nl_mul, nI_add, nI_1, i32_nl, ite_not, lt_nn, lt_nl, lt_ln, eq_nn, eq_nl, eq_ln, if_true, if_false, kil_i, kil_r, kil_l, kil_u, rl_s, rl_n, Nat.zero_add, Nat.lt_irrefl, not_true_eq_false, not_false_eq_true, true_and, dp_1, dp_2, dp_3, dp_4, dp_5, dp_6, dp_7, dp_8, dp_9, dp_10, dp_11, dp_12, dp_13, dp_14, dp_15, dp_16, dp_17, dp_18, dp_19, dp_20, dp_21, dp_22, dp_23, dp_24, dp_25, dp_26, dp_27, dp_28, dp_29, dp_30, dp_31, dp_32, dp_33, dp_34, dp_35, dp_36, dp_37, dp_38, dp_39]
      refine W.2 ?_
      have g44 : (hU (h.1 + 15, h.2.1 + 14 + 216, (hX h ab be V O D).2.2) h.1 zD).2.2 44 = oQ 2 I := by rw [hU_out (by omega)]; exact e44
      have eX : hup (hU (h.1 + 15, h.2.1 + 14 + 216, (hX h ab be V O D).2.2) h.1 zD) 44 (oQ 2 (va_up I a (some h.1))) = hU (hU (hup (h.1 + 15, h.2.1 + 14 + 216, (hX h ab be V O D).2.2) 44 (oQ 2 (va_up I a (some h.1)))) 14 D) h.1 zD := by
        rw [hU_hup (by omega)]
        congr 1
        exact (hU_self (fun j hj => by
          rw [hup_c, if_neg (by omega)]
          exact hX_U hj)).symm
      have e13 : (hU (hU (hup (h.1 + 15, h.2.1 + 14 + 216, (hX h ab be V O D).2.2) 44 (oQ 2 (va_up I a (some h.1)))) 14 D) h.1 zD).2.2 13 = oO 6 [.ref 14, .ref 29, .ref 44, .ref 45, .ref 47, .ref 49, .ref 54, .ref 57, .int ab, .int be] := by
        rw [hU_out (by omega), hU_out (by omega), hup_c, if_neg (by omega)]
        exact hC_13 (h := h) (V := V) (O := O) (D := D)
      have k44 : (hU (hU (hup (h.1 + 15, h.2.1 + 14 + 216, (hX h ab be V O D).2.2) 44 (oQ 2 (va_up I a (some h.1)))) 14 D) h.1 zD).2.2 44 = oQ 2 (va_up I a (some h.1)) := by
        rw [hU_out (by omega), hU_out (by omega), hup_c, if_pos rfl]
      have U := @U_takeFrom (d + 5) h.1 14 (hup (h.1 + 15, h.2.1 + 14 + 216, (hX h ab be V O D).2.2) 44 (oQ 2 (va_up I a (some h.1)))) (fun r h2 => T (d + 9) 110 57 [.ref 13, .int (nI a)] (rl r []) h2 Q) zD D sn nn mn un0 (by omega) f1 f2 f3 f4 f5 f6 f7 f8
      simp (disch := first | assumption | omega | decide | exact hX_o13 | exact hU_o | exact hX_o45 | exact hX_o47 | exact hX_o49 | exact hX_o54 | exact hU_o7 | exact hU_o9 | exact hU_o11 | exact hU_o13) only [t110_43, t110_44, t110_45, t110_48, t110_49, t110_50, t110_51, t110_54, hC_13, hC_45, hC_47, hC_49, hC_54, gF_6_0, gF_6_1, gF_6_2, gF_6_3, gF_6_4, gF_6_5, gF_6_6, gF_6_7, gF_6_8, gF_6_9, hU_0, hU_7, hU_9, hU_11, hU_13, gF_5_0, gF_5_1, gF_5_2, gF_5_3, gF_5_4, gF_5_5, gF_5_6, gF_5_7, gF_5_8, gF_5_9, gF_5_10, gF_5_11, gF_5_12, gF_5_13, gF_3_0, gF_3_1, gF_3_2, gF_3_3, ln_add, nl_add, ln_mul, nl_mul, nI_add, nI_1, i32_nl, ite_not, lt_nn, lt_nl, lt_ln, eq_nn, eq_nl, eq_ln, if_true, if_false, kil_i, kil_r, kil_l, kil_u, rl_s, rl_n, Nat.zero_add, Nat.lt_irrefl, not_true_eq_false, not_false_eq_true, true_and, dp_1, dp_2, dp_3, dp_4, dp_5, dp_6, dp_7, dp_8, dp_9, dp_10, dp_11, dp_12, dp_13, dp_14, dp_15, dp_16, dp_17, dp_18, dp_19, dp_20, dp_21, dp_22, dp_23, dp_24, dp_25, dp_26, dp_27, dp_28, dp_29, dp_30, dp_31, dp_32, dp_33, dp_34, dp_35, dp_36, dp_37, dp_38, dp_39, g44, qS_n (show a < 2 by omega) (show 2 < 2 ^ 31 by decide), eX, e13, k44, qL_n (show a < 2 by omega) (show 2 < 2 ^ 31 by decide), vau_s, va_rf]
      refine U.2 ?_
      simp (disch := first | assumption | omega | decide | exact hX_o13 | exact hU_o | exact hX_o45 | exact hX_o47 | exact hX_o49 | exact hX_o54 | exact hU_o7 | exact hU_o9 | exact hU_o11 | exact hU_o13) only [t110_57, t110_58, hC_13, hC_45, hC_47, hC_49, hC_54, gF_6_0, gF_6_1, gF_6_2, gF_6_3, gF_6_4, gF_6_5, gF_6_6, gF_6_7, gF_6_8, gF_6_9, hU_0, hU_7, hU_9, hU_11, hU_13, gF_5_0, gF_5_1, gF_5_2, gF_5_3, gF_5_4, gF_5_5, gF_5_6, gF_5_7, gF_5_8, gF_5_9, gF_5_10, gF_5_11, gF_5_12, gF_5_13, gF_3_0, gF_3_1, gF_3_2, gF_3_3, ln_add, nl_add, ln_mul, nl_mul, nI_add, nI_1, i32_nl, ite_not, lt_nn, lt_nl, lt_ln, eq_nn, eq_nl, eq_ln, if_true, if_false, kil_i, kil_r, kil_l, kil_u, rl_s, rl_n, Nat.zero_add, Nat.lt_irrefl, not_true_eq_false, not_false_eq_true, true_and, dp_1, dp_2, dp_3, dp_4, dp_5, dp_6, dp_7, dp_8, dp_9, dp_10, dp_11, dp_12, dp_13, dp_14, dp_15, dp_16, dp_17, dp_18, dp_19, dp_20, dp_21, dp_22, dp_23, dp_24, dp_25, dp_26, dp_27, dp_28, dp_29, dp_30, dp_31, dp_32, dp_33, dp_34, dp_35, dp_36, dp_37, dp_38, dp_39]
      have ecnt : cO (va_up I a (some h.1) 0) + cO (va_up I a (some h.1) 1) = cO (I 0) + cO (I 1) + 1 := by
        have : a = 0 ∨ a = 1 := by omega
        rcases this with rfl | rfl
        · rw [vau_s, vau_o (by omega), hI]; simp only [cO]; omega
        · rw [vau_s, vau_o (by omega), hI]; simp only [cO]
      have im2 := IM_put (h2 := hU (hU (hup (h.1 + 15, h.2.1 + 14 + 216, (hX h ab be V O D).2.2) 44 (oQ 2 (va_up I a (some h.1)))) 14 D) h.1 (tkD zD D)) (I2 := va_up I a (some h.1)) (a := a) (adr := h.1) (by omega) im ri (SM_take ri sm) ⟨by show h.1 + 15 = _; rw [ecnt, i1.1]; omega, by show h.2.1 + 14 + 216 ≤ _; rw [ecnt]; have := i1.2; omega⟩ (by show h.1 ≤ h.1 + 15; omega) vau_s (fun i hi hne => vau_o hne) ⟨hb69, by show h.1 + 15 ≤ h.1 + 15; omega⟩ (fun i b hi hne hb => by
        obtain ⟨y1, y2, y3, -⟩ := (i3 i hi).2 b hb
        omega) (fun j hj => hU_at hj) (fun j h1 h2 => by
        rw [hU_out h2, hU_out (by omega), hup_c, if_neg (by omega)]
        exact hX_out (by omega))
      exact k _ (CA_gen cb (fun j hj h44 => by
        rw [hU_out (by omega)]
        by_cases z : 14 ≤ j ∧ j < 29
        · rw [show j = 14 + (j - 14) by omega, hU_at (by omega), hX_U (by omega)]
        · rw [hU_out (by omega), hup_c, if_neg h44]) (by rw [hU_out (by omega), hU_out (by omega), hup_c, if_pos rfl]) im2 rfl rfl rfl rfl rfl (ri.congr erow) (sm.congr erow ri)) (frC_gen (fun j h1 h2 => by
        rw [hU_out (by omega), hU_out (by omega), hup_c, if_neg (by omega)]
        exact hX_out (by omega)))
  · rw [if_neg q] at k
    simp (disch := first | assumption | omega | decide | exact hX_o13 | exact hU_o | exact hX_o45 | exact hX_o47 | exact hX_o49 | exact hX_o54 | exact hU_o7 | exact hU_o9 | exact hU_o11 | exact hU_o13) only [t110_0, t110_1, t110_2, t110_3, t110_6, t110_7, t110_8, t110_9, t110_12, t110_15, t110_16, t110_18, t110_21, hC_13, hC_45, hC_47, hC_49, hC_54, gF_6_0, gF_6_1, gF_6_2, gF_6_3, gF_6_4, gF_6_5, gF_6_6, gF_6_7, gF_6_8, gF_6_9, hU_0, hU_7, hU_9, hU_11, hU_13, gF_5_0, gF_5_1, gF_5_2, gF_5_3, gF_5_4, gF_5_5, gF_5_6, gF_5_7, gF_5_8, gF_5_9, gF_5_10, gF_5_11, gF_5_12, gF_5_13, gF_3_0, gF_3_1, gF_3_2, gF_3_3, ln_add, nl_add, ln_mul, nl_mul, nI_add, nI_1, i32_nl, ite_not, lt_nn, lt_nl, lt_ln, eq_nn, eq_nl, eq_ln, if_true, if_false, kil_i, kil_r, kil_l, kil_u, rl_s, rl_n, Nat.zero_add, Nat.lt_irrefl, not_true_eq_false, not_false_eq_true, true_and, dp_1, dp_2, dp_3, dp_4, dp_5, dp_6, dp_7, dp_8, dp_9, dp_10, dp_11, dp_12, dp_13, dp_14, dp_15, dp_16, dp_17, dp_18, dp_19, dp_20, dp_21, dp_22, dp_23, dp_24, dp_25, dp_26, dp_27, dp_28, dp_29, dp_30, dp_31, dp_32, dp_33, dp_34, dp_35, dp_36, dp_37, dp_38, dp_39, e44, cN_Q, e2, E_withinL, zb_0, q, C_refB, Bool.false_eq_true]
    exact kcR cb ri sm 0 k
end XB
