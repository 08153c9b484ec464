/-! the reference made; the law from its entry -/
def moZ (C : Nat → AC) : Nat → AC := cup (cup (cup (cup (cup (cup (cup (cup (cup (cup (cup C 58 (MO 0 1 0 0 0 0 0 0)) 59 (oI 636 fun _ => 0)) 60 (oZ 2 fun _ => 0)) 61 (oI 3 fun _ => 0)) 62 (oI 150 fun _ => 0)) 63 (oI 48 wtab)) 64 (oI 6 fun _ => 0)) 65 (oI 6 fun _ => 0)) 66 (oI 6 fun _ => 0)) 67 (oI 10 fun _ => 0)) 68 (oI 10 fun _ => 0)
theorem moZ_o {C : Nat → AC} {j : Nat} (hj : j < 58) : moZ C j = C j := by
  unfold moZ
  simp (disch := omega) only [cup_o]
set_option maxHeartbeats 8000000 in
set_option maxRecDepth 10000 in
theorem W_newM {d : Nat} {h : Hp} {Q : Pst} {C : Nat → AC} : T (d + 5) 125 0 [.ref 58] [] (oz h 728 59 (cup C 58 (oO 7 (dfl 7)))) Q ↔ Q none (oz h 1605 69 (moZ C)) := by
  simp (disch := first | decide | omega) only [t125_0, t125_1, t125_4, t125_5, t125_8, t125_10, t125_13, t125_14, t125_15, t125_17, t125_20, t125_21, t125_22, t125_24, t125_27, t125_28, t125_29, t125_32, t125_33, t125_36, t125_38, t125_41, t125_42, t125_44, t125_46, t125_47, t125_48, t125_50, t125_51, t125_52, t125_53, t125_55, t125_56, t125_57, t125_58, t125_60, t125_61, t125_62, t125_63, t125_65, t125_66, t125_67, t125_68, t125_70, t125_71, t125_72, t125_73, t125_75, t125_76, t125_77, t125_79, t125_81, t125_82, t125_83, t125_85, t125_86, t125_87, t125_88, t125_90, t125_92, t125_93, t125_94, t125_96, t125_98, t125_99, t125_100, t125_102, t125_104, t125_105, t125_106, t125_108, t125_110, t125_111, t125_112, t125_114, t125_116, t125_117, t125_118, t125_120, t125_121, t125_122, t125_123, t125_125, t125_126, t125_127, t125_128, t125_130, t125_131, t125_132, t125_133, t125_135, t125_137, t125_138, t125_139, t125_141, t125_143, t125_144, t125_145, t125_147, t125_149, t125_150, t125_151, t125_153, t125_155, t125_156, t125_157, t125_159, t125_161, t125_162, t125_163, t125_165, t125_166, t125_167, t125_168, t125_170, t125_171, t125_172, t125_173, t125_175, t125_176, t125_177, t125_178, t125_180, t125_182, t125_183, t125_184, t125_186, t125_188, t125_189, t125_190, t125_192, t125_194, t125_195, t125_196, t125_198, t125_200, t125_201, t125_202, t125_204, t125_205, t125_206, t125_207, t125_209, t125_210, t125_211, t125_212, t125_214, t125_215, t125_216, t125_217, t125_219, t125_220, t125_221, t125_222, t125_224, t125_226, t125_227, t125_228, t125_230, t125_232, t125_233, t125_234, t125_236, t125_238, t125_239, t125_240, t125_242, t125_244, t125_245, t125_246, t125_248, t125_249, t125_250, t125_251, t125_253, t125_254, t125_255, t125_256, t125_258, t125_259, t125_260, t125_261, t125_263, t125_264, t125_265, t125_266, t125_268, t125_270, t125_271, t125_272, t125_274, t125_276, t125_277, t125_278, t125_280, t125_282, t125_283, t125_284, t125_286, t125_288, t125_289, t125_290, t125_292, t125_294, t125_295, t125_296, t125_298, t125_300, t125_301, t125_302, t125_304, t125_306, t125_307, t125_308, t125_310, t125_312, t125_313, t125_316, t125_317, t125_319, t125_321, t125_324, t125_325, t125_327, t125_329, t125_332, t125_333, t125_335, t125_337, t125_340, t125_341, t125_343, t125_345, t125_348, t125_349, t125_351, t125_353, t125_356, dfl_7, oz_1, oz_get, oz_new, oz_up, Nat.reduceAdd, cup_s, cup_o, cup_cup, na_6, nc_6, nz_2, nz_3, nz_10, nz_48, nz_150, nz_636, ny_2, ny_3, ny_10, ny_48, ny_150, ny_636, true_and, pF_7_0, pF_7_1, pF_7_2, pF_7_3, pF_7_4, pF_7_5, pF_7_6, pF_7_7, pF_7_8, pF_7_9, pF_7_10, pF_7_11, pF_7_12, pF_7_13, pF_7_14, pF_7_15, pF_7_16, pF_7_17, aS_l, rl_s, rl_n, kil_i, kil_r]
  refine iff_of_eq (congrArg (Q none) (oz_eq (fun k hk h1 => ?_)))
  by_cases q : k < 58
  · unfold moZ
    simp (disch := omega) only [cup_o]
  · match k, hk, q with
    | 0, _, q => exact absurd (by decide) q
    | 1, _, q => exact absurd (by decide) q
    | 2, _, q => exact absurd (by decide) q
    | 3, _, q => exact absurd (by decide) q
    | 4, _, q => exact absurd (by decide) q
    | 5, _, q => exact absurd (by decide) q
    | 6, _, q => exact absurd (by decide) q
    | 7, _, q => exact absurd (by decide) q
    | 8, _, q => exact absurd (by decide) q
    | 9, _, q => exact absurd (by decide) q
    | 10, _, q => exact absurd (by decide) q
    | 11, _, q => exact absurd (by decide) q
    | 12, _, q => exact absurd (by decide) q
    | 13, _, q => exact absurd (by decide) q
    | 14, _, q => exact absurd (by decide) q
    | 15, _, q => exact absurd (by decide) q
    | 16, _, q => exact absurd (by decide) q
    | 17, _, q => exact absurd (by decide) q
    | 18, _, q => exact absurd (by decide) q
    | 19, _, q => exact absurd (by decide) q
    | 20, _, q => exact absurd (by decide) q
    | 21, _, q => exact absurd (by decide) q
    | 22, _, q => exact absurd (by decide) q
    | 23, _, q => exact absurd (by decide) q
    | 24, _, q => exact absurd (by decide) q
    | 25, _, q => exact absurd (by decide) q
    | 26, _, q => exact absurd (by decide) q
    | 27, _, q => exact absurd (by decide) q
    | 28, _, q => exact absurd (by decide) q
    | 29, _, q => exact absurd (by decide) q
    | 30, _, q => exact absurd (by decide) q
    | 31, _, q => exact absurd (by decide) q
    | 32, _, q => exact absurd (by decide) q
    | 33, _, q => exact absurd (by decide) q
    | 34, _, q => exact absurd (by decide) q
    | 35, _, q => exact absurd (by decide) q
    | 36, _, q => exact absurd (by decide) q
    | 37, _, q => exact absurd (by decide) q
    | 38, _, q => exact absurd (by decide) q
    | 39, _, q => exact absurd (by decide) q
    | 40, _, q => exact absurd (by decide) q
    | 41, _, q => exact absurd (by decide) q
    | 42, _, q => exact absurd (by decide) q
    | 43, _, q => exact absurd (by decide) q
    | 44, _, q => exact absurd (by decide) q
    | 45, _, q => exact absurd (by decide) q
    | 46, _, q => exact absurd (by decide) q
    | 47, _, q => exact absurd (by decide) q
    | 48, _, q => exact absurd (by decide) q
    | 49, _, q => exact absurd (by decide) q
    | 50, _, q => exact absurd (by decide) q
    | 51, _, q => exact absurd (by decide) q
    | 52, _, q => exact absurd (by decide) q
    | 53, _, q => exact absurd (by decide) q
    | 54, _, q => exact absurd (by decide) q
    | 55, _, q => exact absurd (by decide) q
    | 56, _, q => exact absurd (by decide) q
    | 57, _, q => exact absurd (by decide) q
    | 58, _, _ => rfl
    | 59, _, _ => rfl
    | 60, _, _ => rfl
    | 61, _, _ => rfl
    | 62, _, _ => rfl
    | 63, _, _ =>
      refine congrArg (oI 48) (funext fun j => ?_)
      by_cases hj : j < 48
      · revert hj; revert j; decide +kernel
      · rw [show wtab j = 0 by exact (congrArg (fun o : Option Int32 => o.getD 0) (List.getElem?_eq_none (Nat.le_of_not_lt hj)))]
        simp (disch := omega) only [upd_ne]
    | 64, _, _ => rfl
    | 65, _, _ => rfl
    | 66, _, _ => rfl
    | 67, _, _ => rfl
    | 68, _, _ => rfl
    | k + 69, hk, _ => omega
theorem oz_lo {h : Hp} {t m j : Nat} {C : Nat → AC} (hj : j < 13) : (oz h t m C).2.2 j = h.2.2 j := if_neg (by omega)
theorem PST_z : PST (fun _ => 0) 0 0 := ⟨fun i hi => absurd hi (Nat.not_lt_zero _), fun j _ => ⟨0, by decide, rfl, fun _ => rfl⟩, ⟨0, by decide, rfl⟩, ⟨0, by decide, rfl⟩⟩
theorem RI_z : RI (fun _ => 0) 0 0 0 0 0 0 := ⟨⟨rfl, by decide⟩, ⟨rfl, by decide⟩, ⟨rfl, by decide⟩, ⟨rfl, by decide⟩, ⟨rfl, by decide⟩, ⟨rfl, by decide⟩, PST_z, fun i hi => absurd hi (Nat.not_lt_zero _), fun i hi => absurd hi (Nat.not_lt_zero _), fun i hi => absurd hi (Nat.not_lt_zero _), fun i hi => absurd hi (Nat.not_lt_zero _), fun i hi => absurd hi (Nat.not_lt_zero _), fun i hi => absurd hi (Nat.not_lt_zero _)⟩
theorem SM_z : SM zD (fun _ => 0) 0 0 0 0 0 0 := ⟨⟨rfl, rfl, rfl, rfl⟩, ⟨rfl, rfl, rfl, rfl⟩, fun i hi => absurd hi (Nat.not_lt_zero _), fun i hi => absurd hi (Nat.not_lt_zero _), fun _ _ => rfl, fun _ _ => rfl, fun _ _ => rfl, fun i hi => absurd hi (Nat.not_lt_zero _)⟩
def S0 : St := (fun _ => 0, fun _ => 0, fun _ => 0, 0, 1, fun _ => 0, 0)
theorem CA_z {h : Hp} {C : Nat → AC} : CAx (oz h 1605 69 (moZ (clZ C))) S0 := by
  have G : ∀ a, 13 ≤ a → a < 58 → (oz h 1605 69 (moZ (clZ C))).2.2 a = clZ C a := fun a h1 h2 => (oz_get h1 (by omega)).trans (moZ_o h2)
  refine ⟨0, 0, 0, 0, 0, 0, 0, 0, 1, zV, zD, zD, fun _ => none, fun j hj => ?_, fun j hj => ?_, ⟨⟨zD, fun j hj => ?_⟩, ?_, ⟨rfl, rfl, by decide⟩, rfl, rfl, ⟨rfl, rfl⟩, ⟨⟨rfl, by show 1605 ≤ 3000 * 1; decide⟩, fun a b h => (nomatch h), fun i hi => ⟨fun _ => rfl, fun a h => (nomatch h)⟩⟩⟩, RI_z, SM_z⟩
  · rw [G j (by omega) (by omega)]; exact if_pos hj
  · rw [G _ (by omega) (by omega)]; unfold clZ; rw [if_neg (by omega), if_pos (by omega), Nat.add_sub_cancel_left]
  · rw [G _ (by omega) (by omega)]; unfold clZ; rw [if_neg (by omega), if_neg (by omega), if_pos (by omega), Nat.add_sub_cancel_left]
  · rw [G _ (by omega) (by omega)]; unfold clZ; rw [if_neg (by omega), if_neg (by omega), if_neg (by omega), if_pos rfl]
theorem MA_z {h : Hp} {C : Nat → AC} : ModelAt (oz h 1605 69 (moZ C)) S0 := ⟨⟨0, 0, 0, 0, 0, rfl⟩, rfl, rfl, rfl, rfl, rfl, fun _ => 0, fun _ => 0, fun _ => 0, fun _ => 0, fun _ => 0, rfl, rfl, rfl, rfl, rfl⟩
def QLw : Pst := fun r h2 => r = some (.int 1) ∧ h2.1 ≤ 600000 ∧ h2.2.1 ≤ 7302250
theorem cO_1 (o : Option Nat) : cO o ≤ 1 := match o with
  | none => Nat.zero_le _
  | some _ => Nat.le_refl _
theorem Iv_room {L : Nat} {xs : Nat → Int32} {h : Hp} (I : Iv L xs h) : QLw (some (.int 1)) h := by
  obtain ⟨-, S, -, g, hh, sn, nn, mn, un0, n, ab, be, V, O, D, I, c1, c2, ⟨-, -, -, -, -, -, ⟨⟨i1, i2⟩, -⟩⟩, -⟩ := I
  have h0 := cO_1 (I 0)
  have h1 := cO_1 (I 1)
  exact ⟨rfl, by omega, by omega⟩
set_option maxRecDepth 4000 in
theorem law_fin (p1 : LC 333) (p2 : LC 758) {d L : Nat} {xs : Nat → Int32} {h : Hp} (hL : L ≤ 384) (e1 : h.1 = 13) (e2 : h.2.1 = 0) (e3 : h.2.2 0 = .inl (3, L, xs)) (e4 : ∀ a, 1 ≤ a → a < 13 → h.2.2 a = strC a) : T (d + 30) 221 0 [.ref 0, un, un, un] [] h QLw := by
  have es : ∀ c, hnew h 10 c = oz h 10 14 (cup (fun _ => jnk) 13 c) := fun c => oz_start e1 e2
  simp (disch := first | decide | omega) only [t221_0, t221_3, t221_4, e1, es, W_newC, rl_n, t221_7, kil_u, t221_8, t221_11, t221_12, oz_1, oz_new, Nat.reduceAdd, W_newM, t221_15, t221_16, t221_17]
  refine law_head (xs := xs) p1 p2 hL (fun h2 I => Iv_room I) 1000 0 _ (by omega) (by omega) ⟨⟨?_, fun a h1 h2 => ?_⟩, S0, MA_z, CA_z⟩
  · exact (oz_lo (by decide)).trans e3
  · exact (oz_lo h2).trans (e4 a h1 h2)
