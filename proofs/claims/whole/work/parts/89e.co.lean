/-! the class's public calls: years -/
section XC
variable {E : Nat → Nat → Int32} {R R2 : Nat → Int32} {g hh : Nat}
theorem Rl.go {b0 a : Nat} {v : Int32} (hb : b0 = 624) (r : Rl E R g hh b0) (ha : a < g) : Rl (wA E 3 (upd (E 3) a v)) (upd R (b0 + a) v) g hh b0 := by
  obtain ⟨⟨a1, a2⟩, ⟨b1, b2⟩, ⟨c1, c2⟩, i, j⟩ := r
  refine ⟨⟨by rw [wA_o (by decide)]; exact a1, a2⟩, ⟨by rw [wA_o (by decide)]; exact b1, b2⟩, ⟨by rw [wA_o (by decide), upd_ne (by omega)]; exact c1, by rw [upd_ne (by omega)]; exact c2⟩, fun x hx => ?_, fun x hx => ?_⟩
  · obtain ⟨i1, i2, i3, i4⟩ := i x hx
    rw [wA_o (by decide), wA_o (by decide), wA_s, upd_ne (show 13 + x ≠ b0 + a by omega), upd_ne (show 19 + x ≠ b0 + a by omega)]
    refine ⟨i1, i2, ?_, i4⟩
    by_cases q : x = a
    · rw [q, upd_eq, upd_eq]
    · rw [upd_ne q, upd_ne (by omega)]; exact i3
  · rw [wA_o (by decide), wA_o (by decide), upd_ne (show 26 + x ≠ b0 + a by omega), upd_ne (show 30 + x ≠ b0 + a by omega)]; exact j x hx
theorem Rl.ev {e p : Nat} (r : Rl E R g hh 624) (v : isEv R R2 g hh 624 p) : Rl (peD E R g hh 624 e p) R2 g hh 624 := by
  obtain ⟨⟨a1, a2⟩, ⟨b1, b2⟩, ⟨c1, c2⟩, i, j⟩ := r
  have e0 : ∀ k, k ≠ 635 → (k < 630 ∨ 630 + hh ≤ k) → R2 k = R k := fun k h1 h2 => v.2.2 k (by omega) (by omega)
  have ez : peD E R g hh 624 e p 0 = fq (E 0 0) (E 0 1) (E 0 2) (nI (e + p)) := by unfold peD; rw [wA_s]
  have ed : ∀ a, a ≠ 0 → a ≠ 6 → peD E R g hh 624 e p a = E a := fun a h1 h2 => by unfold peD; rw [wA_o h1, wA_o h2]
  refine ⟨⟨by rw [ez]; exact a1, a2⟩, ⟨by rw [ez]; exact b1, b2⟩, ⟨by rw [ez, e0 _ (by omega) (by omega)]; exact c1, by rw [e0 _ (by omega) (by omega)]; exact c2⟩, fun x hx => ?_, fun x hx => ?_⟩
  · rw [ed _ (by decide) (by decide), ed _ (by decide) (by decide), ed _ (by decide) (by decide), e0 _ (by omega) (by omega), e0 _ (by omega) (by omega), e0 _ (by omega) (by omega)]; exact i x hx
  · rw [ed _ (by decide) (by decide), ed _ (by decide) (by decide), e0 _ (by omega) (by omega), e0 _ (by omega) (by omega)]; exact j x hx
theorem Lk.ev {e p : Nat} (l : Lk E R hh 624) (v : isEv R R2 g hh 624 p) : Lk (peD E R g hh 624 e p) R2 hh 624 := by
  intro j hj
  rw [v.1 j hj]
  unfold peD
  rw [wA_o (by decide), wA_s]
  unfold peF
  rw [if_pos hj, l j hj]
/-- what holds on the way -/
def yrI (E : Nat → Nat → Int32) (R R0 : Nat → Int32) (g hh k : Nat) : Prop := Rl E R g hh 624 ∧ Lk E R hh 624 ∧ E 0 3 = nI k ∧ (∀ j, j < hh → ∃ l, l ≤ 9999 ∧ R (624 + 6 + j) = nI l) ∧ (∀ j, hh ≤ j → j < 4 → R (624 + 6 + j) = 0) ∧ ∀ k, k < 624 → R k = R0 k
theorem yrI.pass {R0 : Nat → Int32} {k : Nat} (y : yrI E R R0 g hh k) (hk : k ≤ 900) : yrI (peD E R g hh 624 k 1) (psR R g hh 624) R0 g hh (k + 1) := by
  obtain ⟨y1, y2, y3, y4, y5, y6⟩ := y
  have h6 := y1.1.2
  have h4 := y1.2.1.2
  have v := psR_isEv (R := R) h4 h6 (Or.inr rfl) y4
  refine ⟨y1.ev v, y2.ev v, ?_, isEv_lk h6 (by omega) v y4, fun j h1 h2 => ?_, fun k hk => ?_⟩
  · unfold peD; rw [wA_s]; rfl
  · rw [v.2.2 _ (by omega) (by omega)]; exact y5 j h1 h2
  · rw [v.2.2 _ (by omega) (by omega)]; exact y6 k hk
theorem yrI.go {R0 : Nat → Int32} {k a : Nat} {v : Int32} (y : yrI E R R0 g hh k) (ha : a < g) : yrI (wA E 3 (upd (E 3) a v)) (upd R (624 + a) v) R0 g hh k := by
  obtain ⟨y1, y2, y3, y4, y5, y6⟩ := y
  have h6 := y1.1.2
  refine ⟨y1.go rfl ha, fun j hj => ?_, by rw [wA_o (by decide)]; exact y3, fun j hj => by rw [upd_ne (by omega)]; exact y4 j hj, fun j h1 h2 => by rw [upd_ne (by omega)]; exact y5 j h1 h2, fun k hk => by rw [upd_ne (by omega)]; exact y6 k hk⟩
  rw [wA_o (by decide), upd_ne (by omega)]
  exact y2 j hj
end XC
section XD
variable {d : Nat} {h : Hp} {S : St} {g hh sn nn mn un0 n : Nat} {Q : Pst}
theorem X_years {sd w : Int32} (c : ClsAt h S g hh sn nn mn un0 n) (k : ∀ h2, CAx h2 (sp_years g hh S sd w).2 → frC h h2 → Q (some (.int (sp_years g hh S sd w).1)) h2) : T (d + 9) 108 0 [.ref 13, .int sd, .int w, un, un, un, un, un] [] h Q := by
  obtain ⟨ab, be, V, O, D, I, c1, c2, cb, ri, sm⟩ := c
  refine T_eq (hX_self c1 c2) ?_
  have h6 := ri.1.2
  have h4 := ri.2.1.2
  unfold sp_years at k
  by_cases q : rg sd 0 999999 = true ∧ rg w 0 60 = true
  · rw [if_pos q] at k
    obtain ⟨q1, q2⟩ := q
    obtain ⟨b, hb, rfl⟩ := rg_l (b := 60) q2
    simp (disch := first | assumption | omega | decide) only [nI_clamp] at k
    obtain ⟨⟨E, hE⟩, -⟩ := id cb
    obtain ⟨⟨f1, f2⟩, ⟨f3, f4⟩, ⟨f5, f6⟩, ⟨f7, f8⟩⟩ := ri.four sm
    have eh : hU (hU (hC h ab be V O) 14 D) 29 E = hX h ab be V O D := hU_self (fun j hj => by rw [hX_out (by omega)]; exact hE j hj)
    have ho : isO ((hX h ab be V O D).2.2 29) 5 := by
      have := hE 0 (by omega)
      rw [hX_out (by omega), show 29 = 29 + 0 from rfl, this]; exact isO_O
    have e13 : ∀ E, (hU (hX h ab be V O D) 29 E).2.2 13 = oO 6 [.ref 14, .ref 29, .ref 44, .ref 45, .ref 47, .ref 49, .ref 54, .ref 57, .int ab, .int be] := fun E => by
      rw [hU_out (by omega)]
      exact hC_13 (h := h) (V := V) (O := O) (D := D)
    have U := @U_takeFrom (d + 5) 29 14 (hC h ab be V O) (fun r h2 => T (d + 9) 108 39 [.ref 13, .int sd, .int (nI b), un, un, un, un, un] (rl r []) h2 Q) E D sn nn mn un0 (by omega) f1 f2 f3 f4 f5 f6 f7 f8
    rw [eh] at U
    have e999 : T (d + 9) 108 0 [.ref 13, .int sd, .int (nI b), un, un, un, un, un] [] (hX h ab be V O D) Q ↔ T (d + 9) 108 28 [.ref 13, .int sd, .int (nI b), un, un, un, un, un] [] (hX h ab be V O D) Q := by
      simp (disch := first | assumption | omega | decide | exact hX_o13 | exact hU_o | exact hX_o45 | exact hX_o47 | exact hX_o49 | exact hX_o54 | exact hU_o7 | exact hU_o9 | exact hU_o11 | exact hU_o13) only [t108_0, t108_1, t108_2, t108_5, t108_8, t108_11, t108_12, t108_13, t108_15, t108_18, hC_13, hC_45, hC_47, hC_49, hC_54, gF_6_0, gF_6_1, gF_6_2, gF_6_3, gF_6_4, gF_6_5, gF_6_6, gF_6_7, gF_6_8, gF_6_9, hU_0, hU_7, hU_9, hU_11, hU_13, gF_5_0, gF_5_1, gF_5_2, gF_5_3, gF_5_4, gF_5_5, gF_5_6, gF_5_7, gF_5_8, gF_5_9, gF_5_10, gF_5_11, gF_5_12, gF_5_13, gF_3_0, gF_3_1, gF_3_2, gF_3_3, ln_add, nl_add, ln_mul, nl_mul, nI_add, nI_1, i32_nl, ite_not, lt_nn, lt_nl, lt_ln, eq_nn, eq_nl, eq_ln, if_true, if_false, kil_i, kil_r, kil_l, kil_u, rl_s, rl_n, Nat.zero_add, Nat.lt_irrefl, not_true_eq_false, not_false_eq_true, true_and, dp_1, dp_2, dp_3, dp_4, dp_5, dp_6, dp_7, dp_8, dp_9, dp_10, dp_11, dp_12, dp_13, dp_14, dp_15, dp_16, dp_17, dp_18, dp_19, dp_20, dp_21, dp_22, dp_23, dp_24, dp_25, dp_26, dp_27, dp_28, dp_29, dp_30, dp_31, dp_32, dp_33, dp_34, dp_35, dp_36, dp_37, dp_38, dp_39, E_withinL, zb_0, q1, q2]
    rw [e999]
    simp (disch := first | assumption | omega | decide | exact hX_o13 | exact hU_o | exact hX_o45 | exact hX_o47 | exact hX_o49 | exact hX_o54 | exact hU_o7 | exact hU_o9 | exact hU_o11 | exact hU_o13) only [t108_28, t108_29, t108_32, t108_33, t108_36, hC_13, hC_45, hC_47, hC_49, hC_54, gF_6_0, gF_6_1, gF_6_2, gF_6_3, gF_6_4, gF_6_5, gF_6_6, gF_6_7, gF_6_8, gF_6_9, hU_0, hU_7, hU_9, hU_11, hU_13, gF_5_0, gF_5_1, gF_5_2, gF_5_3, gF_5_4, gF_5_5, gF_5_6, gF_5_7, gF_5_8, gF_5_9, gF_5_10, gF_5_11, gF_5_12, gF_5_13, gF_3_0, gF_3_1, gF_3_2, gF_3_3, ln_add, nl_add, ln_mul, nl_mul, nI_add, nI_1, i32_nl, ite_not, lt_nn, lt_nl, lt_ln, eq_nn, eq_nl, eq_ln, if_true, if_false, kil_i, kil_r, kil_l, kil_u, rl_s, rl_n, Nat.zero_add, Nat.lt_irrefl, not_true_eq_false, not_false_eq_true, true_and, dp_1, dp_2, dp_3, dp_4, dp_5, dp_6, dp_7, dp_8, dp_9, dp_10, dp_11, dp_12, dp_13, dp_14, dp_15, dp_16, dp_17, dp_18, dp_19, dp_20, dp_21, dp_22, dp_23, dp_24, dp_25, dp_26, dp_27, dp_28, dp_29, dp_30, dp_31, dp_32, dp_33, dp_34, dp_35, dp_36, dp_37, dp_38, dp_39]
    refine U.2 ?_
    show T (d + 9) 108 39 [.ref 13, .int sd, .int (nI b), un, un, un, un, un] [] (hU (hX h ab be V O D) 29 (tkD E D)) Q
    simp (disch := first | assumption | omega | decide | exact hX_o13 | exact hU_o | exact hX_o45 | exact hX_o47 | exact hX_o49 | exact hX_o54 | exact hU_o7 | exact hU_o9 | exact hU_o11 | exact hU_o13) only [t108_39, t108_40, t108_43, t108_44, t108_47, t108_48, t108_49, t108_50, t108_51, hC_13, hC_45, hC_47, hC_49, hC_54, gF_6_0, gF_6_1, gF_6_2, gF_6_3, gF_6_4, gF_6_5, gF_6_6, gF_6_7, gF_6_8, gF_6_9, hU_0, hU_7, hU_9, hU_11, hU_13, gF_5_0, gF_5_1, gF_5_2, gF_5_3, gF_5_4, gF_5_5, gF_5_6, gF_5_7, gF_5_8, gF_5_9, gF_5_10, gF_5_11, gF_5_12, gF_5_13, gF_3_0, gF_3_1, gF_3_2, gF_3_3, ln_add, nl_add, ln_mul, nl_mul, nI_add, nI_1, i32_nl, ite_not, lt_nn, lt_nl, lt_ln, eq_nn, eq_nl, eq_ln, if_true, if_false, kil_i, kil_r, kil_l, kil_u, rl_s, rl_n, Nat.zero_add, Nat.lt_irrefl, not_true_eq_false, not_false_eq_true, true_and, dp_1, dp_2, dp_3, dp_4, dp_5, dp_6, dp_7, dp_8, dp_9, dp_10, dp_11, dp_12, dp_13, dp_14, dp_15, dp_16, dp_17, dp_18, dp_19, dp_20, dp_21, dp_22, dp_23, dp_24, dp_25, dp_26, dp_27, dp_28, dp_29, dp_30, dp_31, dp_32, dp_33, dp_34, dp_35, dp_36, dp_37, dp_38, dp_39, e13, pF_5_13, hU_u0, tk_0, fq_0, fq_1, fq_2, fq_3]
    have re := sm.rl ri
    have y0 : yrI (wA (tkD E D) 0 (fq (D 0 0) (D 0 1) (D 0 2) 0)) (cpR (sR S) 0 624 12) (sR S) g hh 0 := by
      obtain ⟨⟨a1, a2⟩, ⟨b1, b2⟩, ⟨r1, r2⟩, i, j⟩ := re
      have tr : ∀ k, k < 12 → cpR (sR S) 0 624 12 (624 + k) = sR S k := fun k hk => trR_i hk
      refine ⟨⟨⟨by rw [wA_s]; exact a1, a2⟩, ⟨by rw [wA_s]; exact b1, b2⟩, ⟨?_, ?_⟩, fun x hx => ?_, fun x hx => ?_⟩, fun x hx => ?_, by rw [wA_s]; rfl, tr_l4 ri, fun x h1 h2 => ?_, fun k hk => cpR_o (by omega)⟩
      · rw [wA_s, tr 10 (by omega)]; exact r1
      · rw [tr 10 (by omega)]; exact r2
      · obtain ⟨i1, i2, i3, i4⟩ := i x hx
        rw [wA_o (by decide), wA_o (by decide), wA_o (by decide), tk_1 (by omega), tk_2 (by omega), tk_3 (by omega), cpR_o (by omega), cpR_o (by omega), tr x (by omega)]
        exact ⟨i1, i2, by rw [i3, Nat.zero_add], i4⟩
      · rw [wA_o (by decide), wA_o (by decide), tk_4 (by omega), tk_5 (by omega), cpR_o (by omega), cpR_o (by omega)]
        exact j x hx
      · rw [wA_o (by decide), tk_6 (by omega), show 624 + 6 + x = 624 + (6 + x) by omega, tr (6 + x) (by omega)]
        exact (sm.2.2.2.1 x hx).2.2
      · rw [show 624 + 6 + x = 624 + (6 + x) by omega, tr (6 + x) (by omega)]
        have := ri.z4 x h1 h2
        rw [Nat.zero_add] at this
        exact this
    have L := loop_w (P := fun m (s : Int64 × (Nat → Int32)) (u : (Nat → Nat → Int32) × Value × Value) => yrI u.1 s.2 (sR S) g hh m → T (d + 9) 108 53 [.ref 13, .int sd, .int (nI b), .long s.1, un, .int (nI m), u.2.1, u.2.2] [] (hU (hX h ab be V O D) 29 u.1) Q) (F := yrF g hh) (g := b) ?_ (sd.toInt64, cpR (sR S) 0 624 12) ?_ (wA (tkD E D) 0 (fq (D 0 0) (D 0 1) (D 0 2) 0), un, un) y0
    · exact L
    · intro m s u hm hs y
      obtain ⟨E1, v1, v2⟩ := u
      obtain ⟨x, Rt⟩ := s
      simp only [] at y hs ⊢
      have r0 := y.1
      have ex1 : ¬ (2147483648 : Int64) = 0 := by decide
      have ex2 : ¬ (65536 : Int64) = 0 := by decide
      have ex3 : ¬ (1048576 : Int64) = 0 := by decide
      have ex4 : ¬ (6 : Int64) = 0 := by decide
      have ex5 : ¬ (4 : Int64) = 0 := by decide
      have ernd : (x * 1103515245 + 12345) - (x * 1103515245 + 12345) / 2147483648 * 2147483648 = rnd x := rfl
      have eI : (rnd x / 65536 - rnd x / 65536 / 6 * 6).toInt32 = rndI (rnd x) := rfl
      have eJ : (rnd x / 1048576 - rnd x / 1048576 / 4 * 4).toInt32 = rndJ (rnd x) := rfl
      rw [t108_53]
      simp (disch := first | assumption | omega | decide | exact hX_o13 | exact hU_o | exact hX_o45 | exact hX_o47 | exact hX_o49 | exact hX_o54 | exact hU_o7 | exact hU_o9 | exact hU_o11 | exact hU_o13) only [t108_55, t108_56, t108_59, t108_60, t108_63, t108_64, t108_67, t108_68, t108_71, t108_72, t108_73, t108_74, t108_77, t108_78, t108_81, t108_82, t108_83, t108_85, t108_86, t108_89, t108_90, t108_93, t108_94, t108_95, t108_97, t108_98, t108_101, t108_103, hC_13, hC_45, hC_47, hC_49, hC_54, gF_6_0, gF_6_1, gF_6_2, gF_6_3, gF_6_4, gF_6_5, gF_6_6, gF_6_7, gF_6_8, gF_6_9, hU_0, hU_7, hU_9, hU_11, hU_13, gF_5_0, gF_5_1, gF_5_2, gF_5_3, gF_5_4, gF_5_5, gF_5_6, gF_5_7, gF_5_8, gF_5_9, gF_5_10, gF_5_11, gF_5_12, gF_5_13, gF_3_0, gF_3_1, gF_3_2, gF_3_3, ln_add, nl_add, ln_mul, nl_mul, nI_add, nI_1, i32_nl, ite_not, lt_nn, lt_nl, lt_ln, eq_nn, eq_nl, eq_ln, if_true, if_false, kil_i, kil_r, kil_l, kil_u, rl_s, rl_n, Nat.zero_add, Nat.lt_irrefl, not_true_eq_false, not_false_eq_true, true_and, dp_1, dp_2, dp_3, dp_4, dp_5, dp_6, dp_7, dp_8, dp_9, dp_10, dp_11, dp_12, dp_13, dp_14, dp_15, dp_16, dp_17, dp_18, dp_19, dp_20, dp_21, dp_22, dp_23, dp_24, dp_25, dp_26, dp_27, dp_28, dp_29, dp_30, dp_31, dp_32, dp_33, dp_34, dp_35, dp_36, dp_37, dp_38, dp_39, hm, ex1, ex2, ex3, ex4, ex5, ernd, eI, eJ, e13, U_hasGuest r0]
      have tail : ∀ E2 Rt2, yrI E2 Rt2 (sR S) g hh m → psR Rt2 g hh 624 = (yrF g hh m (x, Rt)).2 → T (d + 9) 108 139 [.ref 13, .int sd, .int (nI b), .long (rnd x), un, .int (nI m), .int (rndI (rnd x)), .int (rndJ (rnd x))] [] (hU (hX h ab be V O D) 29 E2) Q := by
        intro E2 Rt2 y2 ep
        have P := @U_passEvenings (d + 4) (hX h ab be V O D) (fun r h2 => T (d + 9) 108 147 [.ref 13, .int sd, .int (nI b), .long (rnd x), un, .int (nI m), .int (rndI (rnd x)), .int (rndJ (rnd x))] (rl r []) h2 Q) 29 624 g hh E2 Rt2 1 m un y2.1 y2.2.2.1 (by omega) (by omega)
        simp (disch := first | assumption | omega | decide | exact hX_o13 | exact hU_o | exact hX_o45 | exact hX_o47 | exact hX_o49 | exact hX_o54 | exact hU_o7 | exact hU_o9 | exact hU_o11 | exact hU_o13) only [t108_139, t108_140, t108_143, t108_144, hC_13, hC_45, hC_47, hC_49, hC_54, gF_6_0, gF_6_1, gF_6_2, gF_6_3, gF_6_4, gF_6_5, gF_6_6, gF_6_7, gF_6_8, gF_6_9, hU_0, hU_7, hU_9, hU_11, hU_13, gF_5_0, gF_5_1, gF_5_2, gF_5_3, gF_5_4, gF_5_5, gF_5_6, gF_5_7, gF_5_8, gF_5_9, gF_5_10, gF_5_11, gF_5_12, gF_5_13, gF_3_0, gF_3_1, gF_3_2, gF_3_3, ln_add, nl_add, ln_mul, nl_mul, nI_add, nI_1, i32_nl, ite_not, lt_nn, lt_nl, lt_ln, eq_nn, eq_nl, eq_ln, if_true, if_false, kil_i, kil_r, kil_l, kil_u, rl_s, rl_n, Nat.zero_add, Nat.lt_irrefl, not_true_eq_false, not_false_eq_true, true_and, dp_1, dp_2, dp_3, dp_4, dp_5, dp_6, dp_7, dp_8, dp_9, dp_10, dp_11, dp_12, dp_13, dp_14, dp_15, dp_16, dp_17, dp_18, dp_19, dp_20, dp_21, dp_22, dp_23, dp_24, dp_25, dp_26, dp_27, dp_28, dp_29, dp_30, dp_31, dp_32, dp_33, dp_34, dp_35, dp_36, dp_37, dp_38, dp_39, e13]
        refine P.2 ?_
        rw [show min 1 (999 - m) = 1 by omega]
        simp (disch := first | assumption | omega | decide | exact hX_o13 | exact hU_o | exact hX_o45 | exact hX_o47 | exact hX_o49 | exact hX_o54 | exact hU_o7 | exact hU_o9 | exact hU_o11 | exact hU_o13) only [t108_147, t108_150, hC_13, hC_45, hC_47, hC_49, hC_54, gF_6_0, gF_6_1, gF_6_2, gF_6_3, gF_6_4, gF_6_5, gF_6_6, gF_6_7, gF_6_8, gF_6_9, hU_0, hU_7, hU_9, hU_11, hU_13, gF_5_0, gF_5_1, gF_5_2, gF_5_3, gF_5_4, gF_5_5, gF_5_6, gF_5_7, gF_5_8, gF_5_9, gF_5_10, gF_5_11, gF_5_12, gF_5_13, gF_3_0, gF_3_1, gF_3_2, gF_3_3, ln_add, nl_add, ln_mul, nl_mul, nI_add, nI_1, i32_nl, ite_not, lt_nn, lt_nl, lt_ln, eq_nn, eq_nl, eq_ln, if_true, if_false, kil_i, kil_r, kil_l, kil_u, rl_s, rl_n, Nat.zero_add, Nat.lt_irrefl, not_true_eq_false, not_false_eq_true, true_and, dp_1, dp_2, dp_3, dp_4, dp_5, dp_6, dp_7, dp_8, dp_9, dp_10, dp_11, dp_12, dp_13, dp_14, dp_15, dp_16, dp_17, dp_18, dp_19, dp_20, dp_21, dp_22, dp_23, dp_24, dp_25, dp_26, dp_27, dp_28, dp_29, dp_30, dp_31, dp_32, dp_33, dp_34, dp_35, dp_36, dp_37, dp_38, dp_39]
        have h3 := y2.pass (by omega)
        rw [ep] at h3
        exact hs (peD E2 Rt2 g hh 624 m 1, .int (rndI (rnd x)), .int (rndJ (rnd x))) h3
      rw [t108_106]
      by_cases g1 : rg (rndI (rnd x)) 0 (g - 1 : Int) = true
      · obtain ⟨a, ha, ea⟩ := rg_n g1
        rw [if_neg (fun z => by rw [zb_0] at z; exact z g1), ea]
        have tail2 := fun v => tail (wA E1 3 (upd (E1 3) a v)) (upd Rt (624 + a) v) (y.go ha)
        rw [ea] at tail2
        have ef : ∀ v, v = (if rg (rndJ (rnd x)) 0 (hh - 1 : Int) = true then rndJ (rnd x) else -1) → psR (upd Rt (624 + a) v) g hh 624 = (yrF g hh m (x, Rt)).2 := fun v ev => by
          unfold yrF yrP
          simp only []
          rw [if_pos g1, ea, nI_clamp (by omega), ev]
        by_cases g2 : rg (rndJ (rnd x)) 0 (hh - 1 : Int) = true
        · simp (disch := first | assumption | omega | decide | exact hX_o13 | exact hU_o | exact hX_o45 | exact hX_o47 | exact hX_o49 | exact hX_o54 | exact hU_o7 | exact hU_o9 | exact hU_o11 | exact hU_o13) only [t108_109, t108_110, t108_113, t108_116, t108_118, t108_119, t108_122, t108_124, t108_127, t108_130, t108_132, t108_135, t108_136, hC_13, hC_45, hC_47, hC_49, hC_54, gF_6_0, gF_6_1, gF_6_2, gF_6_3, gF_6_4, gF_6_5, gF_6_6, gF_6_7, gF_6_8, gF_6_9, hU_0, hU_7, hU_9, hU_11, hU_13, gF_5_0, gF_5_1, gF_5_2, gF_5_3, gF_5_4, gF_5_5, gF_5_6, gF_5_7, gF_5_8, gF_5_9, gF_5_10, gF_5_11, gF_5_12, gF_5_13, gF_3_0, gF_3_1, gF_3_2, gF_3_3, ln_add, nl_add, ln_mul, nl_mul, nI_add, nI_1, i32_nl, ite_not, lt_nn, lt_nl, lt_ln, eq_nn, eq_nl, eq_ln, if_true, if_false, kil_i, kil_r, kil_l, kil_u, rl_s, rl_n, Nat.zero_add, Nat.lt_irrefl, not_true_eq_false, not_false_eq_true, true_and, dp_1, dp_2, dp_3, dp_4, dp_5, dp_6, dp_7, dp_8, dp_9, dp_10, dp_11, dp_12, dp_13, dp_14, dp_15, dp_16, dp_17, dp_18, dp_19, dp_20, dp_21, dp_22, dp_23, dp_24, dp_25, dp_26, dp_27, dp_28, dp_29, dp_30, dp_31, dp_32, dp_33, dp_34, dp_35, dp_36, dp_37, dp_38, dp_39, e13, U_hasHouse r0, zb_0, g2, P_3 (b := 29) (show a < 6 by omega)]
          exact tail2 _ (ef _ (by rw [if_pos g2]))
        · simp (disch := first | assumption | omega | decide | exact hX_o13 | exact hU_o | exact hX_o45 | exact hX_o47 | exact hX_o49 | exact hX_o54 | exact hU_o7 | exact hU_o9 | exact hU_o11 | exact hU_o13) only [t108_109, t108_110, t108_113, t108_116, t108_118, t108_119, t108_122, t108_124, t108_127, t108_130, t108_132, t108_135, t108_136, hC_13, hC_45, hC_47, hC_49, hC_54, gF_6_0, gF_6_1, gF_6_2, gF_6_3, gF_6_4, gF_6_5, gF_6_6, gF_6_7, gF_6_8, gF_6_9, hU_0, hU_7, hU_9, hU_11, hU_13, gF_5_0, gF_5_1, gF_5_2, gF_5_3, gF_5_4, gF_5_5, gF_5_6, gF_5_7, gF_5_8, gF_5_9, gF_5_10, gF_5_11, gF_5_12, gF_5_13, gF_3_0, gF_3_1, gF_3_2, gF_3_3, ln_add, nl_add, ln_mul, nl_mul, nI_add, nI_1, i32_nl, ite_not, lt_nn, lt_nl, lt_ln, eq_nn, eq_nl, eq_ln, if_true, if_false, kil_i, kil_r, kil_l, kil_u, rl_s, rl_n, Nat.zero_add, Nat.lt_irrefl, not_true_eq_false, not_false_eq_true, true_and, dp_1, dp_2, dp_3, dp_4, dp_5, dp_6, dp_7, dp_8, dp_9, dp_10, dp_11, dp_12, dp_13, dp_14, dp_15, dp_16, dp_17, dp_18, dp_19, dp_20, dp_21, dp_22, dp_23, dp_24, dp_25, dp_26, dp_27, dp_28, dp_29, dp_30, dp_31, dp_32, dp_33, dp_34, dp_35, dp_36, dp_37, dp_38, dp_39, e13, U_hasHouse r0, zb_0, g2, P_3 (b := 29) (show a < 6 by omega), Bool.false_eq_true]
          exact tail2 _ (ef _ (by rw [if_neg g2]))
      · rw [if_pos (by rw [zb_0]; exact g1)]
        refine tail E1 Rt y ?_
        unfold yrF yrP
        simp only []
        rw [if_neg g1]
    · intro u y
      obtain ⟨E1, v1, v2⟩ := u
      simp only [] at y ⊢
      have ey : (itr (yrF g hh) b 0 (sd.toInt64, cpR (sR S) 0 624 12)).2 = yrV g hh b sd (sR S) := rfl
      rw [ey] at y
      have ea := alj_alk h4 y.2.2.2.2.1
      have A := @U_allLiking (d + 7) (hX h ab be V O D) (fun r h2 => T (d + 9) 108 160 [.ref 13, .int sd, .int (nI b), .long (itr (yrF g hh) b 0 (sd.toInt64, cpR (sR S) 0 624 12)).1, un, .int (nI b), v1, v2] (rl r []) h2 Q) 29 624 g hh E1 (yrV g hh b sd (sR S)) y.1 y.2.1
      rw [t108_53]
      simp (disch := first | assumption | omega | decide | exact hX_o13 | exact hU_o | exact hX_o45 | exact hX_o47 | exact hX_o49 | exact hX_o54 | exact hU_o7 | exact hU_o9 | exact hU_o11 | exact hU_o13) only [t108_55, t108_56, t108_153, t108_154, t108_157, hC_13, hC_45, hC_47, hC_49, hC_54, gF_6_0, gF_6_1, gF_6_2, gF_6_3, gF_6_4, gF_6_5, gF_6_6, gF_6_7, gF_6_8, gF_6_9, hU_0, hU_7, hU_9, hU_11, hU_13, gF_5_0, gF_5_1, gF_5_2, gF_5_3, gF_5_4, gF_5_5, gF_5_6, gF_5_7, gF_5_8, gF_5_9, gF_5_10, gF_5_11, gF_5_12, gF_5_13, gF_3_0, gF_3_1, gF_3_2, gF_3_3, ln_add, nl_add, ln_mul, nl_mul, nI_add, nI_1, i32_nl, ite_not, lt_nn, lt_nl, lt_ln, eq_nn, eq_nl, eq_ln, if_true, if_false, kil_i, kil_r, kil_l, kil_u, rl_s, rl_n, Nat.zero_add, Nat.lt_irrefl, not_true_eq_false, not_false_eq_true, true_and, dp_1, dp_2, dp_3, dp_4, dp_5, dp_6, dp_7, dp_8, dp_9, dp_10, dp_11, dp_12, dp_13, dp_14, dp_15, dp_16, dp_17, dp_18, dp_19, dp_20, dp_21, dp_22, dp_23, dp_24, dp_25, dp_26, dp_27, dp_28, dp_29, dp_30, dp_31, dp_32, dp_33, dp_34, dp_35, dp_36, dp_37, dp_38, dp_39, e13]
      refine A.2 ?_
      rw [ea]
      simp (disch := first | assumption | omega | decide | exact hX_o13 | exact hU_o | exact hX_o45 | exact hX_o47 | exact hX_o49 | exact hX_o54 | exact hU_o7 | exact hU_o9 | exact hU_o11 | exact hU_o13) only [t108_160, hC_13, hC_45, hC_47, hC_49, hC_54, gF_6_0, gF_6_1, gF_6_2, gF_6_3, gF_6_4, gF_6_5, gF_6_6, gF_6_7, gF_6_8, gF_6_9, hU_0, hU_7, hU_9, hU_11, hU_13, gF_5_0, gF_5_1, gF_5_2, gF_5_3, gF_5_4, gF_5_5, gF_5_6, gF_5_7, gF_5_8, gF_5_9, gF_5_10, gF_5_11, gF_5_12, gF_5_13, gF_3_0, gF_3_1, gF_3_2, gF_3_3, ln_add, nl_add, ln_mul, nl_mul, nI_add, nI_1, i32_nl, ite_not, lt_nn, lt_nl, lt_ln, eq_nn, eq_nl, eq_ln, if_true, if_false, kil_i, kil_r, kil_l, kil_u, rl_s, rl_n, Nat.zero_add, Nat.lt_irrefl, not_true_eq_false, not_false_eq_true, true_and, dp_1, dp_2, dp_3, dp_4, dp_5, dp_6, dp_7, dp_8, dp_9, dp_10, dp_11, dp_12, dp_13, dp_14, dp_15, dp_16, dp_17, dp_18, dp_19, dp_20, dp_21, dp_22, dp_23, dp_24, dp_25, dp_26, dp_27, dp_28, dp_29, dp_30, dp_31, dp_32, dp_33, dp_34, dp_35, dp_36, dp_37, dp_38, dp_39]
      have ko := y.2.2.2.2.2
      have cb2 : CB h (stR S (yrV g hh b sd (sR S))) ab be V O I n := cb.row (fun k _ h2 => ko k h2)
      refine k _ ?_ (frC_gen (fun j h1 h2 => by rw [hU_out (by omega)]; exact hX_out (by omega)))
      obtain ⟨-, b2, b3, b4, b5, b6, b7⟩ := cb2
      refine ⟨g, hh, sn, nn, mn, un0, n, ab, be, V, O, D, I, fun j hj => ?_, fun j hj => ?_, ⟨⟨E1, fun j hj => hU_at hj⟩, ?_, b3, b4, b5, b6, ?_⟩, ri.congr (fun k hk => ko k (by omega)), sm.congr (fun k hk => ko k (by omega)) ri⟩
      · rw [hU_out (by omega)]; exact hX_C hj
      · rw [hU_out (by omega)]; exact hX_U hj
      · rw [hU_out (by omega), hX_out (by omega)]; exact b2
      · obtain ⟨i1, i2, i3⟩ := b7
        refine ⟨i1, i2, fun i hi => ⟨(i3 i hi).1, fun a ha => ?_⟩⟩
        obtain ⟨z1, z2, z3, D3, g3, hh3, sn3, nn3, mn3, un3, z4, z5, z6⟩ := (i3 i hi).2 a ha
        exact ⟨z1, z2, z3, D3, g3, hh3, sn3, nn3, mn3, un3, fun j hj => by rw [hU_out (by omega), hX_out (by omega)]; exact z4 j hj, z5, z6⟩
  · rw [if_neg q] at k
    by_cases q2 : rg sd 0 999999 = true
    · have q3 : ¬ rg w 0 60 = true := fun z => q ⟨q2, z⟩
      simp (disch := first | assumption | omega | decide | exact hX_o13 | exact hU_o | exact hX_o45 | exact hX_o47 | exact hX_o49 | exact hX_o54 | exact hU_o7 | exact hU_o9 | exact hU_o11 | exact hU_o13) only [t108_0, t108_1, t108_2, t108_5, t108_8, t108_11, t108_12, t108_13, t108_15, t108_18, t108_21, t108_22, t108_24, t108_27, hC_13, hC_45, hC_47, hC_49, hC_54, gF_6_0, gF_6_1, gF_6_2, gF_6_3, gF_6_4, gF_6_5, gF_6_6, gF_6_7, gF_6_8, gF_6_9, hU_0, hU_7, hU_9, hU_11, hU_13, gF_5_0, gF_5_1, gF_5_2, gF_5_3, gF_5_4, gF_5_5, gF_5_6, gF_5_7, gF_5_8, gF_5_9, gF_5_10, gF_5_11, gF_5_12, gF_5_13, gF_3_0, gF_3_1, gF_3_2, gF_3_3, ln_add, nl_add, ln_mul, nl_mul, nI_add, nI_1, i32_nl, ite_not, lt_nn, lt_nl, lt_ln, eq_nn, eq_nl, eq_ln, if_true, if_false, kil_i, kil_r, kil_l, kil_u, rl_s, rl_n, Nat.zero_add, Nat.lt_irrefl, not_true_eq_false, not_false_eq_true, true_and, dp_1, dp_2, dp_3, dp_4, dp_5, dp_6, dp_7, dp_8, dp_9, dp_10, dp_11, dp_12, dp_13, dp_14, dp_15, dp_16, dp_17, dp_18, dp_19, dp_20, dp_21, dp_22, dp_23, dp_24, dp_25, dp_26, dp_27, dp_28, dp_29, dp_30, dp_31, dp_32, dp_33, dp_34, dp_35, dp_36, dp_37, dp_38, dp_39, E_withinL, zb_0, q2, q3, C_refB, Bool.false_eq_true]
      exact kcR cb ri sm 0 k
    · simp (disch := first | assumption | omega | decide | exact hX_o13 | exact hU_o | exact hX_o45 | exact hX_o47 | exact hX_o49 | exact hX_o54 | exact hU_o7 | exact hU_o9 | exact hU_o11 | exact hU_o13) only [t108_0, t108_1, t108_2, t108_5, t108_8, t108_11, t108_12, t108_13, t108_15, t108_18, t108_21, t108_22, t108_24, t108_27, hC_13, hC_45, hC_47, hC_49, hC_54, gF_6_0, gF_6_1, gF_6_2, gF_6_3, gF_6_4, gF_6_5, gF_6_6, gF_6_7, gF_6_8, gF_6_9, hU_0, hU_7, hU_9, hU_11, hU_13, gF_5_0, gF_5_1, gF_5_2, gF_5_3, gF_5_4, gF_5_5, gF_5_6, gF_5_7, gF_5_8, gF_5_9, gF_5_10, gF_5_11, gF_5_12, gF_5_13, gF_3_0, gF_3_1, gF_3_2, gF_3_3, ln_add, nl_add, ln_mul, nl_mul, nI_add, nI_1, i32_nl, ite_not, lt_nn, lt_nl, lt_ln, eq_nn, eq_nl, eq_ln, if_true, if_false, kil_i, kil_r, kil_l, kil_u, rl_s, rl_n, Nat.zero_add, Nat.lt_irrefl, not_true_eq_false, not_false_eq_true, true_and, dp_1, dp_2, dp_3, dp_4, dp_5, dp_6, dp_7, dp_8, dp_9, dp_10, dp_11, dp_12, dp_13, dp_14, dp_15, dp_16, dp_17, dp_18, dp_19, dp_20, dp_21, dp_22, dp_23, dp_24, dp_25, dp_26, dp_27, dp_28, dp_29, dp_30, dp_31, dp_32, dp_33, dp_34, dp_35, dp_36, dp_37, dp_38, dp_39, E_withinL, zb_0, q2, C_refB, Bool.false_eq_true]
      exact kcR cb ri sm 0 k
end XD
