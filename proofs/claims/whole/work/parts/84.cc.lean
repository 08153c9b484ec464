/-! the class's public calls: what was seen, noted, marked -/
theorem cell4 {f R : Nat → Int32} {B u : Nat} {x0 x1 x2 x3 : Int32} (e : ∀ k, k < 4 * u → f k = R (B + k)) : ∀ k, k < 4 * (u + 1) → upd (upd (upd (upd f (u * 4 + 0) x0) (u * 4 + 1) x1) (u * 4 + 2) x2) (u * 4 + 3) x3 k = up4 R (B + 4 * u) x0 x1 x2 x3 (B + k) := by
  intro k hk
  unfold up4
  by_cases q : k < 4 * u
  · rw [upd_ne (by omega), upd_ne (by omega), upd_ne (by omega), upd_ne (by omega), upd_ne (by omega), upd_ne (by omega), upd_ne (by omega), upd_ne (by omega)]
    exact e k q
  · have : k = u * 4 + 0 ∨ k = u * 4 + 1 ∨ k = u * 4 + 2 ∨ k = u * 4 + 3 := by omega
    rcases this with z | z | z | z
    · rw [z, upd_ne (by omega), upd_ne (by omega), upd_ne (by omega), upd_eq, upd_ne (by omega), upd_ne (by omega), upd_ne (by omega), show B + (u * 4 + 0) = B + 4 * u by omega, upd_eq]
    · rw [z, upd_ne (by omega), upd_ne (by omega), upd_eq, upd_ne (by omega), upd_ne (by omega), show B + (u * 4 + 1) = B + 4 * u + 1 by omega, upd_eq]
    · rw [z, upd_ne (by omega), upd_eq, upd_ne (by omega), show B + (u * 4 + 2) = B + 4 * u + 2 by omega, upd_eq]
    · rw [z, upd_eq, show B + (u * 4 + 3) = B + 4 * u + 3 by omega, upd_eq]
theorem up4_out {R : Nat → Int32} {b k : Nat} {x0 x1 x2 x3 : Int32} (hk : k < b ∨ b + 4 ≤ k) : up4 R b x0 x1 x2 x3 k = R k := by
  unfold up4
  rw [upd_ne (by omega), upd_ne (by omega), upd_ne (by omega), upd_ne (by omega)]
theorem up4_0 {R : Nat → Int32} {b : Nat} {x0 x1 x2 x3 : Int32} : up4 R b x0 x1 x2 x3 b = x0 := by
  unfold up4
  rw [upd_ne (by omega), upd_ne (by omega), upd_ne (by omega), upd_eq]
theorem up4_1 {R : Nat → Int32} {b : Nat} {x0 x1 x2 x3 : Int32} : up4 R b x0 x1 x2 x3 (b + 1) = x1 := by
  unfold up4
  rw [upd_ne (by omega), upd_ne (by omega), upd_eq]
theorem up4_2 {R : Nat → Int32} {b : Nat} {x0 x1 x2 x3 : Int32} : up4 R b x0 x1 x2 x3 (b + 2) = x2 := by
  unfold up4
  rw [upd_ne (by omega), upd_eq]
theorem up4_3 {R : Nat → Int32} {b : Nat} {x0 x1 x2 x3 : Int32} : up4 R b x0 x1 x2 x3 (b + 3) = x3 := by
  unfold up4
  rw [upd_eq]
section ST
variable {D : Nat → Nat → Int32} {R R2 : Nat → Int32} {g hh sn nn mn u : Nat}
/-- the rows of seen ones, notes, marks anew, all else as it is -/
theorem RI.rows {sn2 nn2 mn2 : Nat} (r : RI R g hh sn nn mn u) (e : ∀ k, k < 34 ∨ 111 ≤ k → R2 k = R k) (e1 : R2 34 = nI sn2 ∧ sn2 ≤ 5) (e2 : R2 55 = nI nn2 ∧ nn2 ≤ 6) (e3 : R2 80 = nI mn2 ∧ mn2 ≤ 6) (f1 : seenOk R2 g hh sn2) (f2 : noteOk R2 nn2) (f3 : markOk R2 mn2) : RI R2 g hh sn2 nn2 mn2 u := by
  obtain ⟨⟨a1, a2⟩, ⟨b1, b2⟩, -, -, -, ⟨h1, h2⟩, i, j, k, -, -, -, o⟩ := r
  refine ⟨⟨by rw [e 12 (by omega)]; exact a1, a2⟩, ⟨by rw [e 25 (by omega)]; exact b1, b2⟩, e1, e2, e3, ⟨by rw [e 111 (by omega)]; exact h1, h2⟩, i.congr (fun q hq => e q (by omega)) a2, ?_, ?_, f1, f2, f3, fun v hv => (o v hv).congr (fun y hy => e _ (by omega)) a2⟩
  · intro y hy; rw [e (19 + y) (by omega)]; exact j y hy
  · intro y hy; rw [e (30 + y) (by omega)]; exact k y hy
theorem SM.rows {D2 : Nat → Nat → Int32} {sn2 nn2 mn2 : Nat} (r : RI R g hh sn nn mn u) (p : SM D R g hh sn nn mn u) (e : ∀ k, k < 34 ∨ 111 ≤ k → R2 k = R k) (ed : ∀ a, (a < 7 ∨ 13 ≤ a) → D2 a = D a) (f1 : D2 7 0 = R2 34 ∧ D2 9 0 = R2 55 ∧ D2 11 0 = R2 80) (g1 : ∀ k, k < 4 * sn2 → D2 8 k = R2 (35 + k)) (g2 : ∀ k, k < 4 * nn2 → D2 10 k = R2 (56 + k)) (g3 : ∀ k, k < 5 * mn2 → D2 12 k = R2 (81 + k)) : SM D2 R2 g hh sn2 nn2 mn2 u := by
  obtain ⟨⟨-, a2⟩, ⟨-, b2⟩, -⟩ := r
  obtain ⟨⟨p1, p2, p3, p4⟩, ⟨q1, q2, q3, q4⟩, i, j, k, l, m, n⟩ := p
  refine ⟨⟨?_, ?_, ?_, ?_⟩, ⟨f1.1, f1.2.1, f1.2.2, ?_⟩, ?_, ?_, g1, g2, g3, ?_⟩
  · rw [ed 0 (by omega), e 12 (by omega)]; exact p1
  · rw [ed 0 (by omega), e 25 (by omega)]; exact p2
  · rw [ed 0 (by omega), e 10 (by omega)]; exact p3
  · rw [ed 0 (by omega), e 11 (by omega)]; exact p4
  · rw [ed 13 (by omega), e 111 (by omega)]; exact q4
  · intro x hx; rw [ed 1 (by omega), ed 2 (by omega), ed 3 (by omega), e (13 + x) (by omega), e (19 + x) (by omega), e x (by omega)]; exact i x hx
  · intro x hx; rw [ed 4 (by omega), ed 5 (by omega), ed 6 (by omega), e (26 + x) (by omega), e (30 + x) (by omega), e (6 + x) (by omega)]; exact j x hx
  · intro v hv
    obtain ⟨n1, n2, n3, n4⟩ := n v hv
    rw [ed 14 (by omega)]
    exact ⟨fun x hx => by rw [e (112 + 12 * v + x) (by omega)]; exact n1 x hx, fun x hx => by rw [e (112 + 12 * v + (6 + x)) (by omega)]; exact n2 x hx, by rw [e (112 + 12 * v + 10) (by omega)]; exact n3, by rw [e (112 + 12 * v + 11) (by omega)]; exact n4⟩
theorem RI_seen {a b w x : Nat} (r : RI R g hh sn nn mn u) (h5 : sn < 5) (ha : a < g) (hb : b < hh) (hw : w ≤ 4) (hx : x ≤ 5) : RI (rwSeen R sn (nI a) (nI b) (nI w) (nI x)) g hh (sn + 1) nn mn u := by
  have h5' := h5
  have e : ∀ k, k ≠ 34 → (k < 35 + 4 * sn ∨ 39 + 4 * sn ≤ k) → rwSeen R sn (nI a) (nI b) (nI w) (nI x) k = R k := fun k h1 h2 => by
    unfold rwSeen; rw [upd_ne h1, up4_out (by omega)]
  refine r.rows (fun k hk => e k (by omega) (by omega)) ⟨by unfold rwSeen; rw [upd_eq], by omega⟩ ⟨by rw [e 55 (by omega) (by omega)]; exact r.2.2.2.1.1, r.2.2.2.1.2⟩ ⟨by rw [e 80 (by omega) (by omega)]; exact r.2.2.2.2.1.1, r.2.2.2.2.1.2⟩ ?_ (r.2.2.2.2.2.2.2.2.2.2.1.congr (fun k h1 h2 => e k (by omega) (by omega)) r.2.2.2.1.2) (r.2.2.2.2.2.2.2.2.2.2.2.1.congr (fun k h1 h2 => e k (by omega) (by omega)) r.2.2.2.2.1.2)
  intro z hz
  by_cases q : z = sn
  · subst q
    unfold rwSeen
    rw [upd_ne (by omega), upd_ne (by omega), upd_ne (by omega), upd_ne (by omega), up4_0, show 36 + 4 * z = 35 + 4 * z + 1 by omega, up4_1, show 37 + 4 * z = 35 + 4 * z + 2 by omega, up4_2, show 38 + 4 * z = 35 + 4 * z + 3 by omega, up4_3]
    exact ⟨⟨a, ha, rfl⟩, ⟨b, hb, rfl⟩, ⟨w, hw, rfl⟩, ⟨x, hx, rfl⟩⟩
  · rw [e (35 + 4 * z) (by omega) (by omega), e (36 + 4 * z) (by omega) (by omega), e (37 + 4 * z) (by omega) (by omega), e (38 + 4 * z) (by omega) (by omega)]
    exact r.2.2.2.2.2.2.2.2.2.1 z (by omega)
theorem SM_seen {i j w x : Int32} (r : RI R g hh sn nn mn u) (p : SM D R g hh sn nn mn u) (h5 : sn < 5) : SM (fl_7 (wN D 7 (nI (sn + 1))) sn i j w x) (rwSeen R sn i j w x) g hh (sn + 1) nn mn u := by
  have e : ∀ k, k ≠ 34 → (k < 35 + 4 * sn ∨ 39 + 4 * sn ≤ k) → rwSeen R sn i j w x k = R k := fun k h1 h2 => by
    unfold rwSeen; rw [upd_ne h1, up4_out (by omega)]
  have d2 := r.2.2.2.1.2
  have f2 := r.2.2.2.2.1.2
  refine SM.rows r p (fun k hk => e k (by omega) (by omega)) (fun a ha => by unfold fl_7; rw [wA_o (by omega), wN_o (by omega)]) ⟨?_, ?_, ?_⟩ ?_ ?_ ?_
  · unfold fl_7 rwSeen; rw [wA_o (by decide), wN_s, upd_eq]
  · unfold fl_7; rw [wA_o (by decide), wN_o (by decide), e 55 (by omega) (by omega)]; exact p.2.1.2.1
  · unfold fl_7; rw [wA_o (by decide), wN_o (by decide), e 80 (by omega) (by omega)]; exact p.2.1.2.2.1
  · intro k hk
    unfold fl_7 rwSeen
    rw [wA_s, wN_o (by decide), upd_ne (show 35 + k ≠ 34 by omega)]
    exact cell4 p.2.2.2.2.1 k hk
  · intro k hk; unfold fl_7; rw [wA_o (by decide), wN_o (by decide), e _ (by omega) (by omega)]; exact p.2.2.2.2.2.1 k hk
  · intro k hk; unfold fl_7; rw [wA_o (by decide), wN_o (by decide), e _ (by omega) (by omega)]; exact p.2.2.2.2.2.2.1 k hk
theorem RI_note {i x : Int32} {s q : Nat} (r : RI R g hh sn nn mn u) (h5 : nn < 6) (hs : s ≤ 30) (hq : q ≤ 4) : RI (rwNote R nn i (nI s) (nI q) x) g hh sn (nn + 1) mn u := by
  have e : ∀ k, k ≠ 55 → (k < 56 + 4 * nn ∨ 60 + 4 * nn ≤ k) → rwNote R nn i (nI s) (nI q) x k = R k := fun k h1 h2 => by
    unfold rwNote; rw [upd_ne h1, up4_out (by omega)]
  refine r.rows (fun k hk => e k (by omega) (by omega)) ⟨by rw [e 34 (by omega) (by omega)]; exact r.2.2.1.1, r.2.2.1.2⟩ ⟨by unfold rwNote; rw [upd_eq], by omega⟩ ⟨by rw [e 80 (by omega) (by omega)]; exact r.2.2.2.2.1.1, r.2.2.2.2.1.2⟩ (r.2.2.2.2.2.2.2.2.2.1.congr (fun k h1 h2 => e k (by omega) (by omega)) r.2.2.1.2) ?_ (r.2.2.2.2.2.2.2.2.2.2.2.1.congr (fun k h1 h2 => e k (by omega) (by omega)) r.2.2.2.2.1.2)
  intro z hz
  by_cases y : z = nn
  · subst y
    unfold rwNote
    rw [upd_ne (by omega), upd_ne (by omega), show 57 + 4 * z = 56 + 4 * z + 1 by omega, up4_1, show 58 + 4 * z = 56 + 4 * z + 2 by omega, up4_2]
    exact ⟨⟨s, hs, rfl⟩, ⟨q, hq, rfl⟩⟩
  · rw [e (57 + 4 * z) (by omega) (by omega), e (58 + 4 * z) (by omega) (by omega)]
    exact r.2.2.2.2.2.2.2.2.2.2.1 z (by omega)
theorem SM_note {i j w x : Int32} (r : RI R g hh sn nn mn u) (p : SM D R g hh sn nn mn u) (h5 : nn < 6) : SM (fl_9 (wN D 9 (nI (nn + 1))) nn i j w x) (rwNote R nn i j w x) g hh sn (nn + 1) mn u := by
  have e : ∀ k, k ≠ 55 → (k < 56 + 4 * nn ∨ 60 + 4 * nn ≤ k) → rwNote R nn i j w x k = R k := fun k h1 h2 => by
    unfold rwNote; rw [upd_ne h1, up4_out (by omega)]
  have d2 := r.2.2.1.2
  have f2 := r.2.2.2.2.1.2
  refine SM.rows r p (fun k hk => e k (by omega) (by omega)) (fun a ha => by unfold fl_9; rw [wA_o (by omega), wN_o (by omega)]) ⟨?_, ?_, ?_⟩ ?_ ?_ ?_
  · unfold fl_9; rw [wA_o (by decide), wN_o (by decide), e 34 (by omega) (by omega)]; exact p.2.1.1
  · unfold fl_9 rwNote; rw [wA_o (by decide), wN_s, upd_eq]
  · unfold fl_9; rw [wA_o (by decide), wN_o (by decide), e 80 (by omega) (by omega)]; exact p.2.1.2.2.1
  · intro k hk; unfold fl_9; rw [wA_o (by decide), wN_o (by decide), e _ (by omega) (by omega)]; exact p.2.2.2.2.1 k hk
  · intro k hk
    unfold fl_9 rwNote
    rw [wA_s, wN_o (by decide), upd_ne (show 56 + k ≠ 55 by omega)]
    exact cell4 p.2.2.2.2.2.1 k hk
  · intro k hk; unfold fl_9; rw [wA_o (by decide), wN_o (by decide), e _ (by omega) (by omega)]; exact p.2.2.2.2.2.2.1 k hk
theorem RI_mark {j x : Int32} {m w y : Nat} (r : RI R g hh sn nn mn u) (h5 : mn < 6) (hm : m ≤ 30) (hw : w ≤ 4) (hy : y ≤ 1) : RI (rwMark R mn j (nI m) (nI w) x (nI y)) g hh sn nn (mn + 1) u := by
  have e : ∀ k, k ≠ 80 → (k < 81 + 5 * mn ∨ 86 + 5 * mn ≤ k) → rwMark R mn j (nI m) (nI w) x (nI y) k = R k := fun k h1 h2 => by
    unfold rwMark; rw [upd_ne h1, upd_ne (by omega), up4_out (by omega)]
  refine r.rows (fun k hk => e k (by omega) (by omega)) ⟨by rw [e 34 (by omega) (by omega)]; exact r.2.2.1.1, r.2.2.1.2⟩ ⟨by rw [e 55 (by omega) (by omega)]; exact r.2.2.2.1.1, r.2.2.2.1.2⟩ ⟨by unfold rwMark; rw [upd_eq], by omega⟩ (r.2.2.2.2.2.2.2.2.2.1.congr (fun k h1 h2 => e k (by omega) (by omega)) r.2.2.1.2) (r.2.2.2.2.2.2.2.2.2.2.1.congr (fun k h1 h2 => e k (by omega) (by omega)) r.2.2.2.1.2) ?_
  intro z hz
  by_cases q : z = mn
  · subst q
    unfold rwMark
    have e85 : upd (upd (up4 R (81 + 5 * z) j (nI m) (nI w) x) (81 + 5 * z + 4) (nI y)) 80 (nI (z + 1)) (85 + 5 * z) = nI y := by
      rw [upd_ne (by omega), show 85 + 5 * z = 81 + 5 * z + 4 by omega, upd_eq]
    rw [e85, upd_ne (by omega), upd_ne (by omega), upd_ne (by omega), upd_ne (by omega), show 82 + 5 * z = 81 + 5 * z + 1 by omega, up4_1, show 83 + 5 * z = 81 + 5 * z + 2 by omega, up4_2]
    refine ⟨⟨m, hm, rfl⟩, ⟨w, hw, rfl⟩, ?_⟩
    match y, hy with
    | 0, _ => exact Or.inl rfl
    | 1, _ => exact Or.inr rfl
  · rw [e (82 + 5 * z) (by omega) (by omega), e (83 + 5 * z) (by omega) (by omega), e (85 + 5 * z) (by omega) (by omega)]
    exact r.2.2.2.2.2.2.2.2.2.2.2.1 z (by omega)
/-- the class's mark -/
def mkD (D : Nat → Nat → Int32) (u : Nat) (x0 x1 x2 x3 x4 : Int32) : Nat → Nat → Int32 := wA (fl_11 (wN D 11 (nI (u + 1))) u x0 x1 x2 x3) 12 (upd (fl_11 (wN D 11 (nI (u + 1))) u x0 x1 x2 x3 12) (u * 5 + 4) x4)
theorem SM_mark {i j w x y : Int32} (r : RI R g hh sn nn mn u) (p : SM D R g hh sn nn mn u) (h5 : mn < 6) : SM (mkD D mn i j w x y) (rwMark R mn i j w x y) g hh sn nn (mn + 1) u := by
  have e : ∀ k, k ≠ 80 → (k < 81 + 5 * mn ∨ 86 + 5 * mn ≤ k) → rwMark R mn i j w x y k = R k := fun k h1 h2 => by
    unfold rwMark; rw [upd_ne h1, upd_ne (by omega), up4_out (by omega)]
  have d2 := r.2.2.1.2
  have f2 := r.2.2.2.1.2
  have ed : ∀ a, a ≠ 11 → a ≠ 12 → mkD D mn i j w x y a = D a := fun a h1 h2 => by unfold mkD fl_11; rw [wA_o h2, wA_o h2, wN_o h1]
  refine SM.rows r p (fun k hk => e k (by omega) (by omega)) (fun a ha => ed a (by omega) (by omega)) ⟨?_, ?_, ?_⟩ ?_ ?_ ?_
  · rw [ed _ (by decide) (by decide), e 34 (by omega) (by omega)]; exact p.2.1.1
  · rw [ed _ (by decide) (by decide), e 55 (by omega) (by omega)]; exact p.2.1.2.1
  · unfold mkD fl_11 rwMark; rw [wA_o (by decide), wA_o (by decide), wN_s, upd_eq]
  · intro k hk; rw [ed _ (by decide) (by decide), e _ (by omega) (by omega)]; exact p.2.2.2.2.1 k hk
  · intro k hk; rw [ed _ (by decide) (by decide), e _ (by omega) (by omega)]; exact p.2.2.2.2.2.1 k hk
  · intro k hk
    unfold mkD fl_11 rwMark
    rw [wA_s, wA_s, wN_o (by decide), upd_ne (show 81 + k ≠ 80 by omega)]
    unfold up4
    by_cases q : k < 5 * mn
    · rw [upd_ne (by omega), upd_ne (by omega), upd_ne (by omega), upd_ne (by omega), upd_ne (by omega), upd_ne (by omega), upd_ne (by omega), upd_ne (by omega), upd_ne (by omega), upd_ne (by omega)]
      exact p.2.2.2.2.2.2.1 k q
    · have : k = mn * 5 + 0 ∨ k = mn * 5 + 1 ∨ k = mn * 5 + 2 ∨ k = mn * 5 + 3 ∨ k = mn * 5 + 4 := by omega
      rcases this with z | z | z | z | z
      · rw [z, upd_ne (by omega), upd_ne (by omega), upd_ne (by omega), upd_ne (by omega), upd_eq, upd_ne (by omega), upd_ne (by omega), upd_ne (by omega), upd_ne (by omega), show 81 + (mn * 5 + 0) = 81 + 5 * mn by omega, upd_eq]
      · rw [z, upd_ne (by omega), upd_ne (by omega), upd_ne (by omega), upd_eq, upd_ne (by omega), upd_ne (by omega), upd_ne (by omega), show 81 + (mn * 5 + 1) = 81 + 5 * mn + 1 by omega, upd_eq]
      · rw [z, upd_ne (by omega), upd_ne (by omega), upd_eq, upd_ne (by omega), upd_ne (by omega), show 81 + (mn * 5 + 2) = 81 + 5 * mn + 2 by omega, upd_eq]
      · rw [z, upd_ne (by omega), upd_eq, upd_ne (by omega), show 81 + (mn * 5 + 3) = 81 + 5 * mn + 3 by omega, upd_eq]
      · rw [z, upd_eq, show 81 + (mn * 5 + 4) = 81 + 5 * mn + 4 by omega, upd_eq]
end ST
section X5
variable {d : Nat} {h : Hp} {S : St} {g hh sn nn mn un0 n : Nat} {Q : Pst}
theorem X_seen {i j w x : Int32} (c : ClsAt h S g hh sn nn mn un0 n) (k : ∀ h2, CAx h2 (sp_seen g hh sn S i j w x).2 → frC h h2 → Q (some (.int (sp_seen g hh sn S i j w x).1)) h2) : T (d + 9) 96 0 [.ref 13, .int i, .int j, .int w, .int x] [] h Q := by
  obtain ⟨ab, be, V, O, D, I, c1, c2, cb, ri, sm⟩ := c
  refine T_eq (hX_self c1 c2) ?_
  have re := sm.rl ri
  have h5 := ri.2.2.1.2
  have hu : D 7 0 = nI sn := sm.2.1.1.trans ri.2.2.1.1
  unfold sp_seen at k
  by_cases q : rg i 0 (g - 1 : Int) = true ∧ rg j 0 (hh - 1 : Int) = true ∧ rg w 0 4 = true ∧ rg x 0 5 = true
  · rw [if_pos q] at k
    obtain ⟨q1, q2, q3, q4⟩ := q
    by_cases q5 : sn = 5
    · rw [if_pos q5] at k
      simp (disch := first | assumption | omega | decide | exact hX_o13 | exact hU_o | exact hX_o45 | exact hX_o47 | exact hX_o49 | exact hX_o54 | exact hU_o7 | exact hU_o9 | exact hU_o11 | exact hU_o13) only [t96_0, t96_1, t96_4, t96_5, t96_8, t96_11, t96_12, t96_15, t96_16, t96_19, t96_22, t96_23, t96_24, t96_25, t96_28, t96_31, t96_33, t96_34, t96_35, t96_38, t96_41, t96_42, t96_44, t96_47, t96_48, t96_49, t96_52, t96_55, t96_58, t96_61, t96_62, t96_64, t96_67, t96_68, t96_69, t96_72, t96_75, t96_78, t96_79, t96_82, t96_85, t96_86, t96_87, t96_88, t96_90, t96_93, t96_94, t96_97, t96_100, t96_103, hC_13, hC_45, hC_47, hC_49, hC_54, gF_6_0, gF_6_1, gF_6_2, gF_6_3, gF_6_4, gF_6_5, gF_6_6, gF_6_7, gF_6_8, gF_6_9, hU_0, hU_7, hU_9, hU_11, hU_13, gF_5_0, gF_5_1, gF_5_2, gF_5_3, gF_5_4, gF_5_5, gF_5_6, gF_5_7, gF_5_8, gF_5_9, gF_5_10, gF_5_11, gF_5_12, gF_5_13, gF_3_0, gF_3_1, gF_3_2, gF_3_3, ln_add, nl_add, ln_mul, nl_mul, nI_add, nI_1, i32_nl, ite_not, lt_nn, lt_nl, lt_ln, eq_nn, eq_nl, eq_ln, if_true, if_false, kil_i, kil_r, kil_l, kil_u, rl_s, rl_n, Nat.zero_add, Nat.lt_irrefl, not_true_eq_false, not_false_eq_true, true_and, dp_1, dp_2, dp_3, dp_4, dp_5, dp_6, dp_7, dp_8, dp_9, dp_10, dp_11, dp_12, dp_13, dp_14, dp_15, dp_16, dp_17, dp_18, dp_19, dp_20, dp_21, dp_22, dp_23, dp_24, dp_25, dp_26, dp_27, dp_28, dp_29, dp_30, dp_31, dp_32, dp_33, dp_34, dp_35, dp_36, dp_37, dp_38, dp_39, U_hasGuest re, U_hasHouse re, E_withinL, zb_0, q1, q2, q3, q4, F_7 (b := 14) hu h5, q5, z10, C_refF]
      exact kcR cb ri sm 2 k
    · rw [if_neg q5] at k
      obtain ⟨a, ha, rfl⟩ := rg_n q1
      obtain ⟨b, hb, rfl⟩ := rg_n q2
      obtain ⟨y, hy, rfl⟩ := rg_l (b := 4) q3
      obtain ⟨z, hz, rfl⟩ := rg_l (b := 5) q4
      have e7 : fl_7 (wN D 7 (nI (sn + 1))) sn (nI a) (nI b) (nI y) (nI z) 7 0 = nI (sn + 1) := by unfold fl_7; rw [wA_o (by decide), wN_s]
      simp (disch := first | assumption | omega | decide | exact hX_o13 | exact hU_o | exact hX_o45 | exact hX_o47 | exact hX_o49 | exact hX_o54 | exact hU_o7 | exact hU_o9 | exact hU_o11 | exact hU_o13) only [t96_0, t96_1, t96_4, t96_5, t96_8, t96_11, t96_12, t96_15, t96_16, t96_19, t96_22, t96_23, t96_24, t96_25, t96_28, t96_31, t96_33, t96_34, t96_35, t96_38, t96_41, t96_42, t96_44, t96_47, t96_48, t96_49, t96_52, t96_55, t96_58, t96_61, t96_62, t96_64, t96_67, t96_68, t96_69, t96_72, t96_75, t96_78, t96_79, t96_82, t96_85, t96_86, t96_87, t96_88, t96_90, t96_93, t96_94, t96_97, t96_100, t96_103, hC_13, hC_45, hC_47, hC_49, hC_54, gF_6_0, gF_6_1, gF_6_2, gF_6_3, gF_6_4, gF_6_5, gF_6_6, gF_6_7, gF_6_8, gF_6_9, hU_0, hU_7, hU_9, hU_11, hU_13, gF_5_0, gF_5_1, gF_5_2, gF_5_3, gF_5_4, gF_5_5, gF_5_6, gF_5_7, gF_5_8, gF_5_9, gF_5_10, gF_5_11, gF_5_12, gF_5_13, gF_3_0, gF_3_1, gF_3_2, gF_3_3, ln_add, nl_add, ln_mul, nl_mul, nI_add, nI_1, i32_nl, ite_not, lt_nn, lt_nl, lt_ln, eq_nn, eq_nl, eq_ln, if_true, if_false, kil_i, kil_r, kil_l, kil_u, rl_s, rl_n, Nat.zero_add, Nat.lt_irrefl, not_true_eq_false, not_false_eq_true, true_and, dp_1, dp_2, dp_3, dp_4, dp_5, dp_6, dp_7, dp_8, dp_9, dp_10, dp_11, dp_12, dp_13, dp_14, dp_15, dp_16, dp_17, dp_18, dp_19, dp_20, dp_21, dp_22, dp_23, dp_24, dp_25, dp_26, dp_27, dp_28, dp_29, dp_30, dp_31, dp_32, dp_33, dp_34, dp_35, dp_36, dp_37, dp_38, dp_39, U_hasGuest re, U_hasHouse re, E_withinL, zb_0, q1, q2, q3, q4, F_7 (b := 14) hu h5, q5, O_7 (b := 14) hu (show sn < 5 by omega), Fi_7 (b := 14) (D := wN D 7 (nI (sn + 1))) wN_s (show sn < 5 by omega), e7]
      exact kcW cb (fun k h1 h2 => by unfold rwSeen; rw [upd_ne (by omega), up4_out (by omega)]) (RI_seen ri (by omega) ha hb hy hz) (SM_seen ri sm (by omega)) k
  · rw [if_neg q] at k
    by_cases q1 : rg i 0 (g - 1 : Int) = true
    · by_cases q2 : rg j 0 (hh - 1 : Int) = true
      · by_cases q3 : rg w 0 4 = true
        · have q4 : ¬ rg x 0 5 = true := fun z => q ⟨q1, q2, q3, z⟩
          simp (disch := first | assumption | omega | decide | exact hX_o13 | exact hU_o | exact hX_o45 | exact hX_o47 | exact hX_o49 | exact hX_o54 | exact hU_o7 | exact hU_o9 | exact hU_o11 | exact hU_o13) only [t96_0, t96_1, t96_4, t96_5, t96_8, t96_11, t96_12, t96_15, t96_16, t96_19, t96_22, t96_23, t96_24, t96_25, t96_28, t96_31, t96_33, t96_34, t96_35, t96_38, t96_41, t96_42, t96_44, t96_47, hC_13, hC_45, hC_47, hC_49, hC_54, gF_6_0, gF_6_1, gF_6_2, gF_6_3, gF_6_4, gF_6_5, gF_6_6, gF_6_7, gF_6_8, gF_6_9, hU_0, hU_7, hU_9, hU_11, hU_13, gF_5_0, gF_5_1, gF_5_2, gF_5_3, gF_5_4, gF_5_5, gF_5_6, gF_5_7, gF_5_8, gF_5_9, gF_5_10, gF_5_11, gF_5_12, gF_5_13, gF_3_0, gF_3_1, gF_3_2, gF_3_3, ln_add, nl_add, ln_mul, nl_mul, nI_add, nI_1, i32_nl, ite_not, lt_nn, lt_nl, lt_ln, eq_nn, eq_nl, eq_ln, if_true, if_false, kil_i, kil_r, kil_l, kil_u, rl_s, rl_n, Nat.zero_add, Nat.lt_irrefl, not_true_eq_false, not_false_eq_true, true_and, dp_1, dp_2, dp_3, dp_4, dp_5, dp_6, dp_7, dp_8, dp_9, dp_10, dp_11, dp_12, dp_13, dp_14, dp_15, dp_16, dp_17, dp_18, dp_19, dp_20, dp_21, dp_22, dp_23, dp_24, dp_25, dp_26, dp_27, dp_28, dp_29, dp_30, dp_31, dp_32, dp_33, dp_34, dp_35, dp_36, dp_37, dp_38, dp_39, U_hasGuest re, U_hasHouse re, E_withinL, zb_0, q1, q2, q3, q4, C_refB, Bool.false_eq_true]
          exact kcR cb ri sm 0 k
        · simp (disch := first | assumption | omega | decide | exact hX_o13 | exact hU_o | exact hX_o45 | exact hX_o47 | exact hX_o49 | exact hX_o54 | exact hU_o7 | exact hU_o9 | exact hU_o11 | exact hU_o13) only [t96_0, t96_1, t96_4, t96_5, t96_8, t96_11, t96_12, t96_15, t96_16, t96_19, t96_22, t96_23, t96_24, t96_25, t96_28, t96_31, t96_33, t96_34, t96_35, t96_38, t96_41, t96_42, t96_44, t96_47, hC_13, hC_45, hC_47, hC_49, hC_54, gF_6_0, gF_6_1, gF_6_2, gF_6_3, gF_6_4, gF_6_5, gF_6_6, gF_6_7, gF_6_8, gF_6_9, hU_0, hU_7, hU_9, hU_11, hU_13, gF_5_0, gF_5_1, gF_5_2, gF_5_3, gF_5_4, gF_5_5, gF_5_6, gF_5_7, gF_5_8, gF_5_9, gF_5_10, gF_5_11, gF_5_12, gF_5_13, gF_3_0, gF_3_1, gF_3_2, gF_3_3, ln_add, nl_add, ln_mul, nl_mul, nI_add, nI_1, i32_nl, ite_not, lt_nn, lt_nl, lt_ln, eq_nn, eq_nl, eq_ln, if_true, if_false, kil_i, kil_r, kil_l, kil_u, rl_s, rl_n, Nat.zero_add, Nat.lt_irrefl, not_true_eq_false, not_false_eq_true, true_and, dp_1, dp_2, dp_3, dp_4, dp_5, dp_6, dp_7, dp_8, dp_9, dp_10, dp_11, dp_12, dp_13, dp_14, dp_15, dp_16, dp_17, dp_18, dp_19, dp_20, dp_21, dp_22, dp_23, dp_24, dp_25, dp_26, dp_27, dp_28, dp_29, dp_30, dp_31, dp_32, dp_33, dp_34, dp_35, dp_36, dp_37, dp_38, dp_39, U_hasGuest re, U_hasHouse re, E_withinL, zb_0, q1, q2, q3, C_refB, Bool.false_eq_true]
          exact kcR cb ri sm 0 k
      · simp (disch := first | assumption | omega | decide | exact hX_o13 | exact hU_o | exact hX_o45 | exact hX_o47 | exact hX_o49 | exact hX_o54 | exact hU_o7 | exact hU_o9 | exact hU_o11 | exact hU_o13) only [t96_0, t96_1, t96_4, t96_5, t96_8, t96_11, t96_12, t96_15, t96_16, t96_19, t96_22, t96_23, t96_24, t96_25, t96_28, t96_31, t96_33, t96_34, t96_35, t96_38, t96_41, t96_42, t96_44, t96_47, hC_13, hC_45, hC_47, hC_49, hC_54, gF_6_0, gF_6_1, gF_6_2, gF_6_3, gF_6_4, gF_6_5, gF_6_6, gF_6_7, gF_6_8, gF_6_9, hU_0, hU_7, hU_9, hU_11, hU_13, gF_5_0, gF_5_1, gF_5_2, gF_5_3, gF_5_4, gF_5_5, gF_5_6, gF_5_7, gF_5_8, gF_5_9, gF_5_10, gF_5_11, gF_5_12, gF_5_13, gF_3_0, gF_3_1, gF_3_2, gF_3_3, ln_add, nl_add, ln_mul, nl_mul, nI_add, nI_1, i32_nl, ite_not, lt_nn, lt_nl, lt_ln, eq_nn, eq_nl, eq_ln, if_true, if_false, kil_i, kil_r, kil_l, kil_u, rl_s, rl_n, Nat.zero_add, Nat.lt_irrefl, not_true_eq_false, not_false_eq_true, true_and, dp_1, dp_2, dp_3, dp_4, dp_5, dp_6, dp_7, dp_8, dp_9, dp_10, dp_11, dp_12, dp_13, dp_14, dp_15, dp_16, dp_17, dp_18, dp_19, dp_20, dp_21, dp_22, dp_23, dp_24, dp_25, dp_26, dp_27, dp_28, dp_29, dp_30, dp_31, dp_32, dp_33, dp_34, dp_35, dp_36, dp_37, dp_38, dp_39, U_hasGuest re, U_hasHouse re, zb_0, q1, q2, C_refB, Bool.false_eq_true]
        exact kcR cb ri sm 0 k
    · simp (disch := first | assumption | omega | decide | exact hX_o13 | exact hU_o | exact hX_o45 | exact hX_o47 | exact hX_o49 | exact hX_o54 | exact hU_o7 | exact hU_o9 | exact hU_o11 | exact hU_o13) only [t96_0, t96_1, t96_4, t96_5, t96_8, t96_11, t96_12, t96_15, t96_16, t96_19, t96_22, t96_23, t96_24, t96_25, t96_28, t96_31, t96_33, t96_34, t96_35, t96_38, t96_41, t96_42, t96_44, t96_47, hC_13, hC_45, hC_47, hC_49, hC_54, gF_6_0, gF_6_1, gF_6_2, gF_6_3, gF_6_4, gF_6_5, gF_6_6, gF_6_7, gF_6_8, gF_6_9, hU_0, hU_7, hU_9, hU_11, hU_13, gF_5_0, gF_5_1, gF_5_2, gF_5_3, gF_5_4, gF_5_5, gF_5_6, gF_5_7, gF_5_8, gF_5_9, gF_5_10, gF_5_11, gF_5_12, gF_5_13, gF_3_0, gF_3_1, gF_3_2, gF_3_3, ln_add, nl_add, ln_mul, nl_mul, nI_add, nI_1, i32_nl, ite_not, lt_nn, lt_nl, lt_ln, eq_nn, eq_nl, eq_ln, if_true, if_false, kil_i, kil_r, kil_l, kil_u, rl_s, rl_n, Nat.zero_add, Nat.lt_irrefl, not_true_eq_false, not_false_eq_true, true_and, dp_1, dp_2, dp_3, dp_4, dp_5, dp_6, dp_7, dp_8, dp_9, dp_10, dp_11, dp_12, dp_13, dp_14, dp_15, dp_16, dp_17, dp_18, dp_19, dp_20, dp_21, dp_22, dp_23, dp_24, dp_25, dp_26, dp_27, dp_28, dp_29, dp_30, dp_31, dp_32, dp_33, dp_34, dp_35, dp_36, dp_37, dp_38, dp_39, U_hasGuest re, U_hasHouse re, zb_0, q1, C_refB, Bool.false_eq_true]
      exact kcR cb ri sm 0 k
theorem X_note {i s p x : Int32} (c : ClsAt h S g hh sn nn mn un0 n) (k : ∀ h2, CAx h2 (sp_note g nn S i s p x).2 → frC h h2 → Q (some (.int (sp_note g nn S i s p x).1)) h2) : T (d + 9) 99 0 [.ref 13, .int i, .int s, .int p, .int x, un] [] h Q := by
  obtain ⟨ab, be, V, O, D, I, c1, c2, cb, ri, sm⟩ := c
  refine T_eq (hX_self c1 c2) ?_
  have re := sm.rl ri
  have h5 := ri.2.2.2.1.2
  have hu : D 9 0 = nI nn := sm.2.1.2.1.trans ri.2.2.2.1.1
  unfold sp_note at k
  have e37 : T (d + 9) 99 0 [.ref 13, .int i, .int s, .int p, .int x, un] [] (hX h ab be V O D) Q ↔ T (d + 9) 99 37 [.ref 13, .int i, .int s, .int p, .int x, .int (if rg s 1 30 = true ∧ rg p 0 4 = true ∧ rg x 0 60 = true then 1 else 0)] [] (hX h ab be V O D) Q := by
    by_cases q2 : rg s 1 30 = true <;> by_cases q3 : rg p 0 4 = true <;> by_cases q4 : rg x 0 60 = true <;> simp (disch := first | assumption | omega | decide | exact hX_o13 | exact hU_o | exact hX_o45 | exact hX_o47 | exact hX_o49 | exact hX_o54 | exact hU_o7 | exact hU_o9 | exact hU_o11 | exact hU_o13) only [t99_0, t99_1, t99_2, t99_4, t99_7, t99_10, t99_11, t99_12, t99_13, t99_16, t99_19, t99_21, t99_22, t99_24, t99_27, t99_30, t99_31, t99_34, t99_35, hC_13, hC_45, hC_47, hC_49, hC_54, gF_6_0, gF_6_1, gF_6_2, gF_6_3, gF_6_4, gF_6_5, gF_6_6, gF_6_7, gF_6_8, gF_6_9, hU_0, hU_7, hU_9, hU_11, hU_13, gF_5_0, gF_5_1, gF_5_2, gF_5_3, gF_5_4, gF_5_5, gF_5_6, gF_5_7, gF_5_8, gF_5_9, gF_5_10, gF_5_11, gF_5_12, gF_5_13, gF_3_0, gF_3_1, gF_3_2, gF_3_3, ln_add, nl_add, ln_mul, nl_mul, nI_add, nI_1, i32_nl, ite_not, lt_nn, lt_nl, lt_ln, eq_nn, eq_nl, eq_ln, if_true, if_false, kil_i, kil_r, kil_l, kil_u, rl_s, rl_n, Nat.zero_add, Nat.lt_irrefl, not_true_eq_false, not_false_eq_true, true_and, dp_1, dp_2, dp_3, dp_4, dp_5, dp_6, dp_7, dp_8, dp_9, dp_10, dp_11, dp_12, dp_13, dp_14, dp_15, dp_16, dp_17, dp_18, dp_19, dp_20, dp_21, dp_22, dp_23, dp_24, dp_25, dp_26, dp_27, dp_28, dp_29, dp_30, dp_31, dp_32, dp_33, dp_34, dp_35, dp_36, dp_37, dp_38, dp_39, E_withinL, zb_0, q2, q3, q4, and_self, and_false, false_and, Bool.false_eq_true]
  rw [e37]
  by_cases q1 : rg i 0 (g - 1 : Int) = true
  · by_cases q : rg s 1 30 = true ∧ rg p 0 4 = true ∧ rg x 0 60 = true
    · rw [if_pos q]
      rw [if_pos ⟨q1, q⟩] at k
      obtain ⟨q2, q3, q4⟩ := q
      by_cases q5 : nn = 6
      · rw [if_pos q5] at k
        simp (disch := first | assumption | omega | decide | exact hX_o13 | exact hU_o | exact hX_o45 | exact hX_o47 | exact hX_o49 | exact hX_o54 | exact hU_o7 | exact hU_o9 | exact hU_o11 | exact hU_o13) only [t99_37, t99_38, t99_41, t99_42, t99_45, t99_48, t99_50, t99_53, t99_54, t99_56, t99_59, t99_60, t99_61, t99_64, t99_67, t99_70, t99_73, t99_74, t99_76, t99_79, hC_13, hC_45, hC_47, hC_49, hC_54, gF_6_0, gF_6_1, gF_6_2, gF_6_3, gF_6_4, gF_6_5, gF_6_6, gF_6_7, gF_6_8, gF_6_9, hU_0, hU_7, hU_9, hU_11, hU_13, gF_5_0, gF_5_1, gF_5_2, gF_5_3, gF_5_4, gF_5_5, gF_5_6, gF_5_7, gF_5_8, gF_5_9, gF_5_10, gF_5_11, gF_5_12, gF_5_13, gF_3_0, gF_3_1, gF_3_2, gF_3_3, ln_add, nl_add, ln_mul, nl_mul, nI_add, nI_1, i32_nl, ite_not, lt_nn, lt_nl, lt_ln, eq_nn, eq_nl, eq_ln, if_true, if_false, kil_i, kil_r, kil_l, kil_u, rl_s, rl_n, Nat.zero_add, Nat.lt_irrefl, not_true_eq_false, not_false_eq_true, true_and, dp_1, dp_2, dp_3, dp_4, dp_5, dp_6, dp_7, dp_8, dp_9, dp_10, dp_11, dp_12, dp_13, dp_14, dp_15, dp_16, dp_17, dp_18, dp_19, dp_20, dp_21, dp_22, dp_23, dp_24, dp_25, dp_26, dp_27, dp_28, dp_29, dp_30, dp_31, dp_32, dp_33, dp_34, dp_35, dp_36, dp_37, dp_38, dp_39, U_hasGuest re, zb_0, q1, z10, F_9 (b := 14) hu h5, q5, C_refF]
        exact kcR cb ri sm 2 k
      · rw [if_neg q5] at k
        obtain ⟨y, _, hy, rfl⟩ := rg_m (a := 1) (b := 30) q2 (by omega)
        obtain ⟨z, hz, rfl⟩ := rg_l (b := 4) q3
        have e7 : fl_9 (wN D 9 (nI (nn + 1))) nn i (nI y) (nI z) x 9 0 = nI (nn + 1) := by unfold fl_9; rw [wA_o (by decide), wN_s]
        simp (disch := first | assumption | omega | decide | exact hX_o13 | exact hU_o | exact hX_o45 | exact hX_o47 | exact hX_o49 | exact hX_o54 | exact hU_o7 | exact hU_o9 | exact hU_o11 | exact hU_o13) only [t99_37, t99_38, t99_41, t99_42, t99_45, t99_48, t99_50, t99_53, t99_54, t99_56, t99_59, t99_60, t99_61, t99_64, t99_67, t99_70, t99_73, t99_74, t99_76, t99_79, t99_80, t99_81, t99_84, t99_87, t99_90, t99_91, t99_94, t99_97, t99_98, t99_99, t99_100, t99_102, t99_105, t99_106, t99_109, t99_112, t99_115, hC_13, hC_45, hC_47, hC_49, hC_54, gF_6_0, gF_6_1, gF_6_2, gF_6_3, gF_6_4, gF_6_5, gF_6_6, gF_6_7, gF_6_8, gF_6_9, hU_0, hU_7, hU_9, hU_11, hU_13, gF_5_0, gF_5_1, gF_5_2, gF_5_3, gF_5_4, gF_5_5, gF_5_6, gF_5_7, gF_5_8, gF_5_9, gF_5_10, gF_5_11, gF_5_12, gF_5_13, gF_3_0, gF_3_1, gF_3_2, gF_3_3, ln_add, nl_add, ln_mul, nl_mul, nI_add, nI_1, i32_nl, ite_not, lt_nn, lt_nl, lt_ln, eq_nn, eq_nl, eq_ln, if_true, if_false, kil_i, kil_r, kil_l, kil_u, rl_s, rl_n, Nat.zero_add, Nat.lt_irrefl, not_true_eq_false, not_false_eq_true, true_and, dp_1, dp_2, dp_3, dp_4, dp_5, dp_6, dp_7, dp_8, dp_9, dp_10, dp_11, dp_12, dp_13, dp_14, dp_15, dp_16, dp_17, dp_18, dp_19, dp_20, dp_21, dp_22, dp_23, dp_24, dp_25, dp_26, dp_27, dp_28, dp_29, dp_30, dp_31, dp_32, dp_33, dp_34, dp_35, dp_36, dp_37, dp_38, dp_39, U_hasGuest re, zb_0, q1, z10, F_9 (b := 14) hu h5, q5, O_9 (b := 14) hu (show nn < 6 by omega), Fi_9 (b := 14) (D := wN D 9 (nI (nn + 1))) wN_s (show nn < 6 by omega), e7]
        exact kcW cb (fun k h1 h2 => by unfold rwNote; rw [upd_ne (by omega), up4_out (by omega)]) (RI_note ri (by omega) hy hz) (SM_note ri sm (by omega)) k
    · rw [if_neg q]
      rw [if_neg (fun z => q z.2)] at k
      simp (disch := first | assumption | omega | decide | exact hX_o13 | exact hU_o | exact hX_o45 | exact hX_o47 | exact hX_o49 | exact hX_o54 | exact hU_o7 | exact hU_o9 | exact hU_o11 | exact hU_o13) only [t99_37, t99_38, t99_41, t99_42, t99_45, t99_48, t99_50, t99_53, t99_54, t99_56, t99_59, hC_13, hC_45, hC_47, hC_49, hC_54, gF_6_0, gF_6_1, gF_6_2, gF_6_3, gF_6_4, gF_6_5, gF_6_6, gF_6_7, gF_6_8, gF_6_9, hU_0, hU_7, hU_9, hU_11, hU_13, gF_5_0, gF_5_1, gF_5_2, gF_5_3, gF_5_4, gF_5_5, gF_5_6, gF_5_7, gF_5_8, gF_5_9, gF_5_10, gF_5_11, gF_5_12, gF_5_13, gF_3_0, gF_3_1, gF_3_2, gF_3_3, ln_add, nl_add, ln_mul, nl_mul, nI_add, nI_1, i32_nl, ite_not, lt_nn, lt_nl, lt_ln, eq_nn, eq_nl, eq_ln, if_true, if_false, kil_i, kil_r, kil_l, kil_u, rl_s, rl_n, Nat.zero_add, Nat.lt_irrefl, not_true_eq_false, not_false_eq_true, true_and, dp_1, dp_2, dp_3, dp_4, dp_5, dp_6, dp_7, dp_8, dp_9, dp_10, dp_11, dp_12, dp_13, dp_14, dp_15, dp_16, dp_17, dp_18, dp_19, dp_20, dp_21, dp_22, dp_23, dp_24, dp_25, dp_26, dp_27, dp_28, dp_29, dp_30, dp_31, dp_32, dp_33, dp_34, dp_35, dp_36, dp_37, dp_38, dp_39, U_hasGuest re, zb_0, q1, C_refB]
      exact kcR cb ri sm 0 k
  · rw [if_neg (fun z => q1 z.1)] at k
    simp (disch := first | assumption | omega | decide | exact hX_o13 | exact hU_o | exact hX_o45 | exact hX_o47 | exact hX_o49 | exact hX_o54 | exact hU_o7 | exact hU_o9 | exact hU_o11 | exact hU_o13) only [t99_37, t99_38, t99_41, t99_42, t99_45, t99_48, t99_50, t99_53, t99_54, t99_56, t99_59, hC_13, hC_45, hC_47, hC_49, hC_54, gF_6_0, gF_6_1, gF_6_2, gF_6_3, gF_6_4, gF_6_5, gF_6_6, gF_6_7, gF_6_8, gF_6_9, hU_0, hU_7, hU_9, hU_11, hU_13, gF_5_0, gF_5_1, gF_5_2, gF_5_3, gF_5_4, gF_5_5, gF_5_6, gF_5_7, gF_5_8, gF_5_9, gF_5_10, gF_5_11, gF_5_12, gF_5_13, gF_3_0, gF_3_1, gF_3_2, gF_3_3, ln_add, nl_add, ln_mul, nl_mul, nI_add, nI_1, i32_nl, ite_not, lt_nn, lt_nl, lt_ln, eq_nn, eq_nl, eq_ln, if_true, if_false, kil_i, kil_r, kil_l, kil_u, rl_s, rl_n, Nat.zero_add, Nat.lt_irrefl, not_true_eq_false, not_false_eq_true, true_and, dp_1, dp_2, dp_3, dp_4, dp_5, dp_6, dp_7, dp_8, dp_9, dp_10, dp_11, dp_12, dp_13, dp_14, dp_15, dp_16, dp_17, dp_18, dp_19, dp_20, dp_21, dp_22, dp_23, dp_24, dp_25, dp_26, dp_27, dp_28, dp_29, dp_30, dp_31, dp_32, dp_33, dp_34, dp_35, dp_36, dp_37, dp_38, dp_39, U_hasGuest re, zb_0, q1, C_refB, Bool.false_eq_true]
    exact kcR cb ri sm 0 k
theorem X_mark {j m w x y : Int32} (c : ClsAt h S g hh sn nn mn un0 n) (k : ∀ h2, CAx h2 (sp_mark hh mn S j m w x y).2 → frC h h2 → Q (some (.int (sp_mark hh mn S j m w x y).1)) h2) : T (d + 9) 100 0 [.ref 13, .int j, .int m, .int w, .int x, .int y, un] [] h Q := by
  obtain ⟨ab, be, V, O, D, I, c1, c2, cb, ri, sm⟩ := c
  refine T_eq (hX_self c1 c2) ?_
  have re := sm.rl ri
  have h5 := ri.2.2.2.2.1.2
  have hu : D 11 0 = nI mn := sm.2.1.2.2.1.trans ri.2.2.2.2.1.1
  unfold sp_mark at k
  have e37 : T (d + 9) 100 0 [.ref 13, .int j, .int m, .int w, .int x, .int y, un] [] (hX h ab be V O D) Q ↔ T (d + 9) 100 37 [.ref 13, .int j, .int m, .int w, .int x, .int y, .int (if rg m 1 30 = true ∧ rg w 0 4 = true ∧ rg x 0 60 = true then 1 else 0)] [] (hX h ab be V O D) Q := by
    by_cases q2 : rg m 1 30 = true <;> by_cases q3 : rg w 0 4 = true <;> by_cases q4 : rg x 0 60 = true <;> simp (disch := first | assumption | omega | decide | exact hX_o13 | exact hU_o | exact hX_o45 | exact hX_o47 | exact hX_o49 | exact hX_o54 | exact hU_o7 | exact hU_o9 | exact hU_o11 | exact hU_o13) only [t100_0, t100_1, t100_2, t100_4, t100_7, t100_10, t100_11, t100_12, t100_13, t100_16, t100_19, t100_21, t100_22, t100_24, t100_27, t100_30, t100_31, t100_34, t100_35, hC_13, hC_45, hC_47, hC_49, hC_54, gF_6_0, gF_6_1, gF_6_2, gF_6_3, gF_6_4, gF_6_5, gF_6_6, gF_6_7, gF_6_8, gF_6_9, hU_0, hU_7, hU_9, hU_11, hU_13, gF_5_0, gF_5_1, gF_5_2, gF_5_3, gF_5_4, gF_5_5, gF_5_6, gF_5_7, gF_5_8, gF_5_9, gF_5_10, gF_5_11, gF_5_12, gF_5_13, gF_3_0, gF_3_1, gF_3_2, gF_3_3, ln_add, nl_add, ln_mul, nl_mul, nI_add, nI_1, i32_nl, ite_not, lt_nn, lt_nl, lt_ln, eq_nn, eq_nl, eq_ln, if_true, if_false, kil_i, kil_r, kil_l, kil_u, rl_s, rl_n, Nat.zero_add, Nat.lt_irrefl, not_true_eq_false, not_false_eq_true, true_and, dp_1, dp_2, dp_3, dp_4, dp_5, dp_6, dp_7, dp_8, dp_9, dp_10, dp_11, dp_12, dp_13, dp_14, dp_15, dp_16, dp_17, dp_18, dp_19, dp_20, dp_21, dp_22, dp_23, dp_24, dp_25, dp_26, dp_27, dp_28, dp_29, dp_30, dp_31, dp_32, dp_33, dp_34, dp_35, dp_36, dp_37, dp_38, dp_39, E_withinL, zb_0, q2, q3, q4, and_self, and_false, false_and, Bool.false_eq_true]
  rw [e37]
  by_cases q1 : rg j 0 (hh - 1 : Int) = true
  · by_cases q : rg m 1 30 = true ∧ rg w 0 4 = true ∧ rg x 0 60 = true
    · rw [if_pos q]
      by_cases q6 : rg y 0 1 = true
      · rw [if_pos ⟨q1, q.1, q.2.1, q.2.2, q6⟩] at k
        obtain ⟨q2, q3, q4⟩ := q
        by_cases q5 : mn = 6
        · rw [if_pos q5] at k
          simp (disch := first | assumption | omega | decide | exact hX_o13 | exact hU_o | exact hX_o45 | exact hX_o47 | exact hX_o49 | exact hX_o54 | exact hU_o7 | exact hU_o9 | exact hU_o11 | exact hU_o13) only [t100_37, t100_38, t100_41, t100_42, t100_45, t100_48, t100_50, t100_53, t100_55, t100_56, t100_57, t100_60, t100_63, t100_64, t100_66, t100_69, t100_70, t100_71, t100_74, t100_77, t100_80, t100_83, t100_84, t100_86, t100_89, hC_13, hC_45, hC_47, hC_49, hC_54, gF_6_0, gF_6_1, gF_6_2, gF_6_3, gF_6_4, gF_6_5, gF_6_6, gF_6_7, gF_6_8, gF_6_9, hU_0, hU_7, hU_9, hU_11, hU_13, gF_5_0, gF_5_1, gF_5_2, gF_5_3, gF_5_4, gF_5_5, gF_5_6, gF_5_7, gF_5_8, gF_5_9, gF_5_10, gF_5_11, gF_5_12, gF_5_13, gF_3_0, gF_3_1, gF_3_2, gF_3_3, ln_add, nl_add, ln_mul, nl_mul, nI_add, nI_1, i32_nl, ite_not, lt_nn, lt_nl, lt_ln, eq_nn, eq_nl, eq_ln, if_true, if_false, kil_i, kil_r, kil_l, kil_u, rl_s, rl_n, Nat.zero_add, Nat.lt_irrefl, not_true_eq_false, not_false_eq_true, true_and, dp_1, dp_2, dp_3, dp_4, dp_5, dp_6, dp_7, dp_8, dp_9, dp_10, dp_11, dp_12, dp_13, dp_14, dp_15, dp_16, dp_17, dp_18, dp_19, dp_20, dp_21, dp_22, dp_23, dp_24, dp_25, dp_26, dp_27, dp_28, dp_29, dp_30, dp_31, dp_32, dp_33, dp_34, dp_35, dp_36, dp_37, dp_38, dp_39, U_hasHouse re, E_withinL, zb_0, q1, q6, z10, F_11 (b := 14) hu h5, q5, C_refF]
          exact kcR cb ri sm 2 k
        · rw [if_neg q5] at k
          obtain ⟨v, _, hv, rfl⟩ := rg_m (a := 1) (b := 30) q2 (by omega)
          obtain ⟨z, hz, rfl⟩ := rg_l (b := 4) q3
          obtain ⟨t, ht, rfl⟩ := rg_l (b := 1) q6
          have e7 : fl_11 (wN D 11 (nI (mn + 1))) mn j (nI v) (nI z) x 11 0 = nI (mn + 1) := by unfold fl_11; rw [wA_o (by decide), wN_s]
          have e8 : mkD D mn j (nI v) (nI z) x (nI t) 11 0 = nI (mn + 1) := by unfold mkD; rw [wA_o (by decide), e7]
          have S4 := @Sl_11 (d + 7) (hC h ab be V O) (fun r h2 => T (d + 9) 100 128 [.ref 13, .int j, .int (nI v), .int (nI z), .int x, .int (nI t), .int 1] (rl r []) h2 Q) 14 (fl_11 (wN D 11 (nI (mn + 1))) mn j (nI v) (nI z) x) mn 4 (nI t) e7 (by omega) (by decide)
          simp (disch := first | assumption | omega | decide | exact hX_o13 | exact hU_o | exact hX_o45 | exact hX_o47 | exact hX_o49 | exact hX_o54 | exact hU_o7 | exact hU_o9 | exact hU_o11 | exact hU_o13) only [t100_37, t100_38, t100_41, t100_42, t100_45, t100_48, t100_50, t100_53, t100_55, t100_56, t100_57, t100_60, t100_63, t100_64, t100_66, t100_69, t100_70, t100_71, t100_74, t100_77, t100_80, t100_83, t100_84, t100_86, t100_89, t100_90, t100_91, t100_94, t100_97, t100_100, t100_101, t100_104, t100_107, t100_108, t100_109, t100_110, t100_112, t100_115, t100_116, t100_119, t100_122, t100_123, t100_125, hC_13, hC_45, hC_47, hC_49, hC_54, gF_6_0, gF_6_1, gF_6_2, gF_6_3, gF_6_4, gF_6_5, gF_6_6, gF_6_7, gF_6_8, gF_6_9, hU_0, hU_7, hU_9, hU_11, hU_13, gF_5_0, gF_5_1, gF_5_2, gF_5_3, gF_5_4, gF_5_5, gF_5_6, gF_5_7, gF_5_8, gF_5_9, gF_5_10, gF_5_11, gF_5_12, gF_5_13, gF_3_0, gF_3_1, gF_3_2, gF_3_3, ln_add, nl_add, ln_mul, nl_mul, nI_add, nI_1, i32_nl, ite_not, lt_nn, lt_nl, lt_ln, eq_nn, eq_nl, eq_ln, if_true, if_false, kil_i, kil_r, kil_l, kil_u, rl_s, rl_n, Nat.zero_add, Nat.lt_irrefl, not_true_eq_false, not_false_eq_true, true_and, dp_1, dp_2, dp_3, dp_4, dp_5, dp_6, dp_7, dp_8, dp_9, dp_10, dp_11, dp_12, dp_13, dp_14, dp_15, dp_16, dp_17, dp_18, dp_19, dp_20, dp_21, dp_22, dp_23, dp_24, dp_25, dp_26, dp_27, dp_28, dp_29, dp_30, dp_31, dp_32, dp_33, dp_34, dp_35, dp_36, dp_37, dp_38, dp_39, U_hasHouse re, E_withinL, zb_0, q1, q6, z10, F_11 (b := 14) hu h5, q5, O_11 (b := 14) hu (show mn < 6 by omega), Fi_11 (b := 14) (D := wN D 11 (nI (mn + 1))) wN_s (show mn < 6 by omega)]
          refine S4.2 ?_
          show T (d + 9) 100 128 [.ref 13, .int j, .int (nI v), .int (nI z), .int x, .int (nI t), .int 1] [] (hX h ab be V O (mkD D mn j (nI v) (nI z) x (nI t))) Q
          simp (disch := first | assumption | omega | decide | exact hX_o13 | exact hU_o | exact hX_o45 | exact hX_o47 | exact hX_o49 | exact hX_o54 | exact hU_o7 | exact hU_o9 | exact hU_o11 | exact hU_o13) only [t100_128, t100_129, t100_132, t100_135, t100_138, hC_13, hC_45, hC_47, hC_49, hC_54, gF_6_0, gF_6_1, gF_6_2, gF_6_3, gF_6_4, gF_6_5, gF_6_6, gF_6_7, gF_6_8, gF_6_9, hU_0, hU_7, hU_9, hU_11, hU_13, gF_5_0, gF_5_1, gF_5_2, gF_5_3, gF_5_4, gF_5_5, gF_5_6, gF_5_7, gF_5_8, gF_5_9, gF_5_10, gF_5_11, gF_5_12, gF_5_13, gF_3_0, gF_3_1, gF_3_2, gF_3_3, ln_add, nl_add, ln_mul, nl_mul, nI_add, nI_1, i32_nl, ite_not, lt_nn, lt_nl, lt_ln, eq_nn, eq_nl, eq_ln, if_true, if_false, kil_i, kil_r, kil_l, kil_u, rl_s, rl_n, Nat.zero_add, Nat.lt_irrefl, not_true_eq_false, not_false_eq_true, true_and, dp_1, dp_2, dp_3, dp_4, dp_5, dp_6, dp_7, dp_8, dp_9, dp_10, dp_11, dp_12, dp_13, dp_14, dp_15, dp_16, dp_17, dp_18, dp_19, dp_20, dp_21, dp_22, dp_23, dp_24, dp_25, dp_26, dp_27, dp_28, dp_29, dp_30, dp_31, dp_32, dp_33, dp_34, dp_35, dp_36, dp_37, dp_38, dp_39, e8]
          exact kcW cb (fun k h1 h2 => by unfold rwMark; rw [upd_ne (by omega), upd_ne (by omega), up4_out (by omega)]) (RI_mark ri (by omega) hv hz ht) (SM_mark ri sm (by omega)) k
      · rw [if_neg (fun z => q6 z.2.2.2.2)] at k
        simp (disch := first | assumption | omega | decide | exact hX_o13 | exact hU_o | exact hX_o45 | exact hX_o47 | exact hX_o49 | exact hX_o54 | exact hU_o7 | exact hU_o9 | exact hU_o11 | exact hU_o13) only [t100_37, t100_38, t100_41, t100_42, t100_45, t100_48, t100_50, t100_53, t100_55, t100_56, t100_57, t100_60, t100_63, t100_64, t100_66, t100_69, hC_13, hC_45, hC_47, hC_49, hC_54, gF_6_0, gF_6_1, gF_6_2, gF_6_3, gF_6_4, gF_6_5, gF_6_6, gF_6_7, gF_6_8, gF_6_9, hU_0, hU_7, hU_9, hU_11, hU_13, gF_5_0, gF_5_1, gF_5_2, gF_5_3, gF_5_4, gF_5_5, gF_5_6, gF_5_7, gF_5_8, gF_5_9, gF_5_10, gF_5_11, gF_5_12, gF_5_13, gF_3_0, gF_3_1, gF_3_2, gF_3_3, ln_add, nl_add, ln_mul, nl_mul, nI_add, nI_1, i32_nl, ite_not, lt_nn, lt_nl, lt_ln, eq_nn, eq_nl, eq_ln, if_true, if_false, kil_i, kil_r, kil_l, kil_u, rl_s, rl_n, Nat.zero_add, Nat.lt_irrefl, not_true_eq_false, not_false_eq_true, true_and, dp_1, dp_2, dp_3, dp_4, dp_5, dp_6, dp_7, dp_8, dp_9, dp_10, dp_11, dp_12, dp_13, dp_14, dp_15, dp_16, dp_17, dp_18, dp_19, dp_20, dp_21, dp_22, dp_23, dp_24, dp_25, dp_26, dp_27, dp_28, dp_29, dp_30, dp_31, dp_32, dp_33, dp_34, dp_35, dp_36, dp_37, dp_38, dp_39, U_hasHouse re, E_withinL, zb_0, q1, q6, z10, C_refB, Bool.false_eq_true]
        exact kcR cb ri sm 0 k
    · rw [if_neg q]
      rw [if_neg (fun z => q ⟨z.2.1, z.2.2.1, z.2.2.2.1⟩)] at k
      simp (disch := first | assumption | omega | decide | exact hX_o13 | exact hU_o | exact hX_o45 | exact hX_o47 | exact hX_o49 | exact hX_o54 | exact hU_o7 | exact hU_o9 | exact hU_o11 | exact hU_o13) only [t100_37, t100_38, t100_41, t100_42, t100_45, t100_48, t100_50, t100_53, t100_55, t100_56, t100_57, t100_60, t100_63, t100_64, t100_66, t100_69, hC_13, hC_45, hC_47, hC_49, hC_54, gF_6_0, gF_6_1, gF_6_2, gF_6_3, gF_6_4, gF_6_5, gF_6_6, gF_6_7, gF_6_8, gF_6_9, hU_0, hU_7, hU_9, hU_11, hU_13, gF_5_0, gF_5_1, gF_5_2, gF_5_3, gF_5_4, gF_5_5, gF_5_6, gF_5_7, gF_5_8, gF_5_9, gF_5_10, gF_5_11, gF_5_12, gF_5_13, gF_3_0, gF_3_1, gF_3_2, gF_3_3, ln_add, nl_add, ln_mul, nl_mul, nI_add, nI_1, i32_nl, ite_not, lt_nn, lt_nl, lt_ln, eq_nn, eq_nl, eq_ln, if_true, if_false, kil_i, kil_r, kil_l, kil_u, rl_s, rl_n, Nat.zero_add, Nat.lt_irrefl, not_true_eq_false, not_false_eq_true, true_and, dp_1, dp_2, dp_3, dp_4, dp_5, dp_6, dp_7, dp_8, dp_9, dp_10, dp_11, dp_12, dp_13, dp_14, dp_15, dp_16, dp_17, dp_18, dp_19, dp_20, dp_21, dp_22, dp_23, dp_24, dp_25, dp_26, dp_27, dp_28, dp_29, dp_30, dp_31, dp_32, dp_33, dp_34, dp_35, dp_36, dp_37, dp_38, dp_39, U_hasHouse re, zb_0, q1, C_refB]
      exact kcR cb ri sm 0 k
  · rw [if_neg (fun z => q1 z.1)] at k
    simp (disch := first | assumption | omega | decide | exact hX_o13 | exact hU_o | exact hX_o45 | exact hX_o47 | exact hX_o49 | exact hX_o54 | exact hU_o7 | exact hU_o9 | exact hU_o11 | exact hU_o13) only [t100_37, t100_38, t100_41, t100_42, t100_45, t100_48, t100_50, t100_53, t100_55, t100_56, t100_57, t100_60, t100_63, t100_64, t100_66, t100_69, hC_13, hC_45, hC_47, hC_49, hC_54, gF_6_0, gF_6_1, gF_6_2, gF_6_3, gF_6_4, gF_6_5, gF_6_6, gF_6_7, gF_6_8, gF_6_9, hU_0, hU_7, hU_9, hU_11, hU_13, gF_5_0, gF_5_1, gF_5_2, gF_5_3, gF_5_4, gF_5_5, gF_5_6, gF_5_7, gF_5_8, gF_5_9, gF_5_10, gF_5_11, gF_5_12, gF_5_13, gF_3_0, gF_3_1, gF_3_2, gF_3_3, ln_add, nl_add, ln_mul, nl_mul, nI_add, nI_1, i32_nl, ite_not, lt_nn, lt_nl, lt_ln, eq_nn, eq_nl, eq_ln, if_true, if_false, kil_i, kil_r, kil_l, kil_u, rl_s, rl_n, Nat.zero_add, Nat.lt_irrefl, not_true_eq_false, not_false_eq_true, true_and, dp_1, dp_2, dp_3, dp_4, dp_5, dp_6, dp_7, dp_8, dp_9, dp_10, dp_11, dp_12, dp_13, dp_14, dp_15, dp_16, dp_17, dp_18, dp_19, dp_20, dp_21, dp_22, dp_23, dp_24, dp_25, dp_26, dp_27, dp_28, dp_29, dp_30, dp_31, dp_32, dp_33, dp_34, dp_35, dp_36, dp_37, dp_38, dp_39, U_hasHouse re, zb_0, q1, C_refB, Bool.false_eq_true]
    exact kcR cb ri sm 0 k
end X5
