/-! the law's loop: what stands at its head -/
theorem aL_3n {m L : Nat} {f : Nat → Int32} {K : Int32 → Prop} (hm : m < L) (hn : L < 2 ^ 31) : aL (.inl (3, L, f)) (nI m) K ↔ K (f m) := by
  have h1 := @aL_n m L f K hm hn
  rw [← h1]
  exact Iff.rfl
def strC (i : Nat) : AC := if i = 0 then jnk else if i < 7 then oO 100 [.ref (7 + (i - 1)), .int 0] else if i < 13 then .inl (2, lenS.getD (i - 7) 0, fun j => (bytS.getD (i - 7) []).getD j 0) else jnk
def Iv (L : Nat) (xs : Nat → Int32) (h : Hp) : Prop := (h.2.2 0 = .inl (3, L, xs) ∧ ∀ a, 1 ≤ a → a < 13 → h.2.2 a = strC a) ∧ ∃ S, ModelAt h S ∧ CAx h S
section LW
variable {h h2 h3 : Hp} {S S2 : St} {g hh sn nn mn un0 n L : Nat} {xs : Nat → Int32}
theorem MA_frC (m : ModelAt h S) (f : frC h h2) : ModelAt h2 S := by
  obtain ⟨⟨pa, pb, r5, r6, dg, e0⟩, e1, e2, e3, e4, e5, f1, f2, f3, f4, f5, e6, e7, e8, e9, e10⟩ := m
  have F : ∀ a, 58 ≤ a → a ≤ 68 → h2.2.2 a = h.2.2 a := fun a h1 h2 => f a (Or.inr ⟨h1, h2⟩)
  exact ⟨⟨pa, pb, r5, r6, dg, (F 58 (by decide) (by decide)).trans e0⟩, (F 59 (by decide) (by decide)).trans e1, (F 60 (by decide) (by decide)).trans e2, (F 61 (by decide) (by decide)).trans e3, (F 62 (by decide) (by decide)).trans e4, (F 63 (by decide) (by decide)).trans e5, f1, f2, f3, f4, f5, (F 64 (by decide) (by decide)).trans e6, (F 65 (by decide) (by decide)).trans e7, (F 66 (by decide) (by decide)).trans e8, (F 67 (by decide) (by decide)).trans e9, (F 68 (by decide) (by decide)).trans e10⟩
theorem CL_frM (c : ClsAt h S g hh sn nn mn un0 n) (f : frM h h2) : ClsAt h2 S g hh sn nn mn un0 n := by
  obtain ⟨f1, f2, F⟩ := f
  obtain ⟨ab, be, V, O, D, I, c1, c2, ⟨⟨E, b1⟩, b2, b3, b4, b5, b6, ⟨i1, i2, i3⟩⟩, ri, sm⟩ := c
  refine ⟨ab, be, V, O, D, I, fun j hj => (F j (Or.inl (by omega))).trans (c1 j hj), fun j hj => (F _ (Or.inl (by omega))).trans (c2 j hj), ⟨⟨E, fun j hj => (F _ (Or.inl (by omega))).trans (b1 j hj)⟩, (F _ (Or.inl (by decide))).trans b2, b3, b4, b5, b6, ⟨⟨by rw [f1]; exact i1.1, by rw [f2]; exact i1.2⟩, i2, fun i hi => ⟨(i3 i hi).1, fun a ha => ?_⟩⟩⟩, ri, sm⟩
  obtain ⟨z1, z2, z3, D2, g2, hh2, sn2, nn2, mn2, un2, z4, z5, z6⟩ := (i3 i hi).2 a ha
  exact ⟨z1, z2, by rw [f1]; exact z3, D2, g2, hh2, sn2, nn2, mn2, un2, fun j hj => (F _ (Or.inr (by omega))).trans (z4 j hj), z5, z6⟩
theorem CA_frM (c : CAx h S) (f : frM h h2) : CAx h2 S := by
  obtain ⟨g, hh, sn, nn, mn, un0, n, c⟩ := c
  exact ⟨g, hh, sn, nn, mn, un0, n, CL_frM c f⟩
theorem CA_tried {R2 : Nat → Int32} (c : CAx h S) (hw : ∀ k, k < 624 → R2 k = sR S k) : CAx h (stR S R2) := by
  obtain ⟨g, hh, sn, nn, mn, un0, n, ab, be, V, O, D, I, c1, c2, cb, ri, sm⟩ := c
  exact ⟨g, hh, sn, nn, mn, un0, n, ab, be, V, O, D, I, c1, c2, cb.row (fun k _ h2 => hw k h2), ri.congr (fun k hk => hw k (by omega)), sm.congr (fun k hk => hw k (by omega)) ri⟩
theorem CL_o (c : ClsAt h S g hh sn nn mn un0 n) : isO (h.2.2 13) 6 := by
  obtain ⟨ab, be, V, O, D, I, c1, c2, cb, ri, sm⟩ := c
  rw [c1 13 (Or.inl rfl)]; exact rfl
theorem MA_o (m : ModelAt h S) : isO (h.2.2 58) 7 := by
  obtain ⟨⟨pa, pb, r5, r6, dg, e0⟩, -⟩ := m
  rw [e0]; exact rfl
theorem CL_f (c : ClsAt h S g hh sn nn mn un0 n) : (sR S 12 = nI g ∧ g ≤ 6) ∧ (sR S 25 = nI hh ∧ hh ≤ 4) ∧ (sR S 34 = nI sn ∧ sn ≤ 5) ∧ (sR S 55 = nI nn ∧ nn ≤ 6) ∧ (sR S 80 = nI mn ∧ mn ≤ 6) ∧ (sR S 111 = nI un0 ∧ un0 ≤ 8) ∧ (sL S = nI n ∧ n ≤ 150) ∧ seenOk (sR S) g hh sn ∧ (∀ a, a < g → sR S a = -1 ∨ ∃ j, j < 4 ∧ sR S a = nI j) := by
  obtain ⟨ab, be, V, O, D, I, c1, c2, ⟨-, -, b3, -⟩, ⟨r1, r2, r3, r4, r5, r6, r7, r8, r9, r10, -⟩, sm⟩ := c
  refine ⟨r1, r2, r3, r4, r5, r6, b3.2, r10, fun a ha => ?_⟩
  rcases r7.1 a ha with h | ⟨j, hj, h⟩
  · exact Or.inl h
  · exact Or.inr ⟨j, by omega, h⟩
theorem Iv_frC (i0 : h.2.2 0 = .inl (3, L, xs) ∧ ∀ a, 1 ≤ a → a < 13 → h.2.2 a = strC a) (f : frC h h2) : h2.2.2 0 = .inl (3, L, xs) ∧ ∀ a, 1 ≤ a → a < 13 → h2.2.2 a = strC a :=
  ⟨(f 0 (Or.inl (by decide))).trans i0.1, fun a h1 h3 => (f a (Or.inl h3)).trans (i0.2 a h1 h3)⟩
theorem Iv_frM (i0 : h.2.2 0 = .inl (3, L, xs) ∧ ∀ a, 1 ≤ a → a < 13 → h.2.2 a = strC a) (f : frM h h2) : h2.2.2 0 = .inl (3, L, xs) ∧ ∀ a, 1 ≤ a → a < 13 → h2.2.2 a = strC a :=
  ⟨(f.2.2 0 (Or.inl (by decide))).trans i0.1, fun a h1 h3 => (f.2.2 a (Or.inl (by omega))).trans (i0.2 a h1 h3)⟩
theorem Iv_mk (i0 : h.2.2 0 = .inl (3, L, xs) ∧ ∀ a, 1 ≤ a → a < 13 → h.2.2 a = strC a) (c : CAx h S) (m : ModelAt h2 S) (f : frM h h2) : Iv L xs h2 := ⟨Iv_frM i0 f, S, m, CA_frM c f⟩
end LW
/-- a case of the law: both answer the same, and all stands as before -/
def LC (pc : Nat) : Prop := ∀ (d L : Nat) (xs : Nat → Int32) (i : Nat) (h : Hp) (Q : Pst), i + 6 ≤ L → L ≤ 384 → Iv L xs h → (∀ h2, Iv L xs h2 → T (d + 30) 221 1370 [.ref 0, .ref 13, .ref 58, .int (nI i)] [] h2 Q) → T (d + 30) 221 pc [.ref 0, .ref 13, .ref 58, .int (nI i)] [] h Q
theorem lg_same (x : Int64) : lg_cmp x x = 0 := by
  unfold lg_cmp
  simp [Int64.lt_irrefl]
