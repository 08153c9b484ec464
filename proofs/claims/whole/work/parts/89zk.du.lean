/-! read: the class's call; the law's case -/
section RX9
variable {d : Nat} {h : Hp} {S : St} {g hh sn nn mn un0 n : Nat} {Q : Pst}
theorem upd_self {f : Nat → Int32} {k : Nat} {x : Int32} (e : f k = x) : upd f k x = f := by
  funext j
  by_cases q : j = k
  · rw [q, upd_eq, e]
  · rw [upd_ne q]
theorem IM.U29 {I : Nat → Option Nat} {E : Nat → Nat → Int32} (im : IM h S I) : IM (hU h 29 E) S I := by
  obtain ⟨i1, i2, i3⟩ := im
  refine ⟨i1, i2, fun i hi => ⟨(i3 i hi).1, fun a ha => ?_⟩⟩
  obtain ⟨z1, z2, z3, D, g, hh, sn, nn, mn, un0, z4, z5, z6⟩ := (i3 i hi).2 a ha
  exact ⟨z1, z2, z3, D, g, hh, sn, nn, mn, un0, fun j hj => by rw [hU_out (by omega)]; exact z4 j hj, z5, z6⟩
theorem X_read (c : ClsAt h S g hh sn nn mn un0 n) (s : StrOk h) (k : ∀ h2, CAx h2 (sp_read n S).2 → frC h h2 → Q (some (.int (sp_read n S).1)) h2) : T (d + 14) 80 0 [.ref 13, un] [] h Q := by
  obtain ⟨ab, be, V, O, D, I, c1, c2, cb, ri, sm⟩ := c
  obtain ⟨⟨E, bE⟩, b2, ⟨b3, b3', hn⟩, b4, b5, b6, b7⟩ := id cb
  have hV : V 1 = nI n := b3.trans b3'
  have c3 : ∀ j, (j = 13 ∨ (45 ≤ j ∧ j < 58)) → h.2.2 j = cellC ab be (vq (nI n) (V 2) (V 3) (V 4) (V 5) (V 6) (V 7) (V 8)) O j := by
    intro j hj
    rw [c1 j hj, ← hV]
    by_cases q : j = 45
    · subst q; rfl
    · exact (cellC_V q).symm
  have e0 : hZ h ab be (vq (nI n) (V 2) (V 3) (V 4) (V 5) (V 6) (V 7) (V 8)) O D E = h := by
    show hX (hU h 29 E) ab be _ O D = h
    rw [hU_self bE]
    exact hX_self c3 c2
  have cb3 : ∀ E3 x2 x3 x4 x5 x6 x7 x8, CB (hU h 29 E3) S ab be (vq (nI n) x2 x3 x4 x5 x6 x7 x8) O I n := fun E3 x2 x3 x4 x5 x6 x7 x8 => ⟨⟨E3, fun j hj => hU_at hj⟩, by rw [hU_out (by decide)]; exact b2, ⟨b3'.symm, b3', hn⟩, b4, b5, b6, b7.U29⟩
  have fr : ∀ E3 V D, frC h (hZ h ab be V O D E3) := fun E3 V D a ha => (hX_out (by omega)).trans (hU_out (by omega))
  refine T_eq e0 ?_
  have h29 : isO ((hZ h ab be (vq (nI n) (V 2) (V 3) (V 4) (V 5) (V 6) (V 7) (V 8)) O D E).2.2 29) 5 := by rw [hZ_29]; exact isO_O
  simp (disch := first | assumption | omega | decide | exact hX_o13 | exact hU_o | exact hX_o45 | exact hX_o47 | exact hX_o49 | exact hX_o54 | exact hU_o7 | exact hU_o9 | exact hU_o11 | exact hU_o13) only [t80_0, t80_1, t80_4, t80_5, hC_13, hC_45, hC_47, hC_49, hC_54, gF_6_0, gF_6_1, gF_6_2, gF_6_3, gF_6_4, gF_6_5, gF_6_6, gF_6_7, gF_6_8, gF_6_9, hU_0, hU_7, hU_9, hU_11, hU_13, gF_5_0, gF_5_1, gF_5_2, gF_5_3, gF_5_4, gF_5_5, gF_5_6, gF_5_7, gF_5_8, gF_5_9, gF_5_10, gF_5_11, gF_5_12, gF_5_13, gF_3_0, gF_3_1, gF_3_2, gF_3_3, ln_add, nl_add, ln_mul, nl_mul, nI_add, nI_1, i32_nl, ite_not, lt_nn, lt_nl, lt_ln, eq_nn, eq_nl, eq_ln, if_true, if_false, kil_i, kil_r, kil_l, kil_u, rl_s, rl_n, Nat.zero_add, Nat.lt_irrefl, not_true_eq_false, not_false_eq_true, true_and, dp_1, dp_2, dp_3, dp_4, dp_5, dp_6, dp_7, dp_8, dp_9, dp_10, dp_11, dp_12, dp_13, dp_14, dp_15, dp_16, dp_17, dp_18, dp_19, dp_20, dp_21, dp_22, dp_23, dp_24, dp_25, dp_26, dp_27, dp_28, dp_29, dp_30, dp_31, dp_32, dp_33, dp_34, dp_35, dp_36, dp_37, dp_38, dp_39]
  refine T_eq hZ_Y.symm ?_
  refine (U_startAnew (b := 29)).2 ?_
  show T (d + 14) 80 8 [.ref 13, un] (rl none []) (hU (hX h ab be _ O D) 29 (anD E 0)) Q
  refine T_eq hZ_Y ?_
  simp (disch := first | assumption | omega | decide | exact hX_o13 | exact hU_o | exact hX_o45 | exact hX_o47 | exact hX_o49 | exact hX_o54 | exact hU_o7 | exact hU_o9 | exact hU_o11 | exact hU_o13) only [t80_8, t80_9, t80_12, t80_13, t80_16, t80_17, hC_13, hC_45, hC_47, hC_49, hC_54, gF_6_0, gF_6_1, gF_6_2, gF_6_3, gF_6_4, gF_6_5, gF_6_6, gF_6_7, gF_6_8, gF_6_9, hU_0, hU_7, hU_9, hU_11, hU_13, gF_5_0, gF_5_1, gF_5_2, gF_5_3, gF_5_4, gF_5_5, gF_5_6, gF_5_7, gF_5_8, gF_5_9, gF_5_10, gF_5_11, gF_5_12, gF_5_13, gF_3_0, gF_3_1, gF_3_2, gF_3_3, ln_add, nl_add, ln_mul, nl_mul, nI_add, nI_1, i32_nl, ite_not, lt_nn, lt_nl, lt_ln, eq_nn, eq_nl, eq_ln, if_true, if_false, kil_i, kil_r, kil_l, kil_u, rl_s, rl_n, Nat.zero_add, Nat.lt_irrefl, not_true_eq_false, not_false_eq_true, true_and, dp_1, dp_2, dp_3, dp_4, dp_5, dp_6, dp_7, dp_8, dp_9, dp_10, dp_11, dp_12, dp_13, dp_14, dp_15, dp_16, dp_17, dp_18, dp_19, dp_20, dp_21, dp_22, dp_23, dp_24, dp_25, dp_26, dp_27, dp_28, dp_29, dp_30, dp_31, dp_32, dp_33, dp_34, dp_35, dp_36, dp_37, dp_38, dp_39, pF_2_2, vq_1, vq_2, vq_3, vq_4, vq_5, vq_6, vq_7, vq_8, hC_u45]
  have tf := fun R R2 => @rdL_tf (sT S) n 152 (tkA (sT S) n 0) (tkE (sT S) n 0) 0 0 0 R R2
  refine L_rd (X := sT S) s b4 hn 152 0 0 0 0 (sR S) (anD E 0) _ _ _ _ _ _ (Nat.zero_le _) (Nat.le_refl _) (by omega) (fun _ => ⟨rfl, rfl⟩) (RI_lay ⟨0, by decide, rfl⟩) SM_lay (fun itn R3 g3 h3 E3 x2 x3 x4 x5 x6 x7 x8 e ri3 sm3 hk => ?_) (fun R3 E3 x2 x4 x5 x6 x7 x8 e => ?_)
  · have t := tf (sR S) (sR S)
    rw [e] at t
    have esp : sp_read n S = (nI itn, stR S R3.2) := by
      unfold sp_read
      rw [← t.1]
      show (nI itn, stR S (upd (rdL (sT S) n true 152 (tkA (sT S) n 0) (tkE (sT S) n 0) 0 0 0 (sR S)).2.2 111 0)) = _
      rw [e]
      show (nI itn, stR S (upd R3.2 111 0)) = _
      rw [show upd R3.2 111 0 = R3.2 from upd_self ri3.2.2.2.2.2.1.1]
    rw [esp] at k
    exact k _ (CA_of (S := stR S R3.2) ((cb3 E3 x2 x3 x4 x5 x6 x7 x8).row (fun j h1 _ => hk j h1)) ri3 (SM_take ri3 sm3)) (fr _ _ _)
  · have t := tf (sR S) (sR S)
    rw [e] at t
    have esp : sp_read n S = (-10 - nI R3.1, S) := by
      unfold sp_read
      rw [← t.1, ← t.2]
    rw [esp] at k
    exact k _ (CA_of (cb3 E3 x2 (nI R3.1) x4 x5 x6 x7 x8) ri sm) (fr _ _ _)
theorem LC_read : LC 333 := by
  intro d L xs i h Q hi hL I K
  obtain ⟨I0, S, m, g, hh, sn, nn, mn, un0, n, c⟩ := I
  have F := CL_f c
  have ho := CL_o c
  have i1 := I0.1
  simp (disch := first | assumption | omega) only [t221_333, t221_334, i1, aL_3n, nl_add]
  refine X_read (d := d + 15) c I0.2 (fun h2 c2 f2 => ?_)
  have m2 := MA_frC m f2
  have J0 := Iv_frC I0 f2
  have ho := MA_o m2
  have i2 := J0.1
  simp (disch := first | assumption | omega) only [t221_337, t221_338, i2, aL_3n, nl_add, rl_s]
  refine M_read m2 F.2.2.2.2.2.2.1.1 F.2.2.2.2.2.2.1.2 (fun h3 m3 f3 => ?_)
  simp only [t221_341, rl_s, if_true]
  exact K h3 (Iv_mk J0 c2 m3 f3)
end RX9
