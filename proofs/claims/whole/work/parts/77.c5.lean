/-! what holds of the reference's row; the class's uplands beside it -/
def whr (x : Int32) (hh : Nat) : Prop := x = -1 ∨ ∃ j, j < hh ∧ x = nI j
def lik (x : Int32) (hh j : Nat) : Prop := ∃ l, l ≤ 9999 ∧ x = nI l ∧ (hh ≤ j → l = 0)
def PST (P : Nat → Int32) (g hh : Nat) : Prop := (∀ i, i < g → whr (P i) hh) ∧ (∀ j, j < 4 → lik (P (6 + j)) hh j) ∧ (∃ w, w ≤ 4 ∧ P 10 = nI w) ∧ (∃ e, e ≤ 999 ∧ P 11 = nI e)
def noteOk (R : Nat → Int32) (nn : Nat) : Prop := ∀ r, r < nn → (∃ s, s ≤ 30 ∧ R (57 + 4 * r) = nI s) ∧ (∃ p, p ≤ 4 ∧ R (58 + 4 * r) = nI p)
def markOk (R : Nat → Int32) (mn : Nat) : Prop := ∀ r, r < mn → (∃ m, m ≤ 30 ∧ R (82 + 5 * r) = nI m) ∧ (∃ w, w ≤ 4 ∧ R (83 + 5 * r) = nI w) ∧ (R (85 + 5 * r) = 0 ∨ R (85 + 5 * r) = 1)
def RI (R : Nat → Int32) (g hh sn nn mn un0 : Nat) : Prop :=
  (R 12 = nI g ∧ g ≤ 6) ∧ (R 25 = nI hh ∧ hh ≤ 4) ∧ (R 34 = nI sn ∧ sn ≤ 5) ∧ (R 55 = nI nn ∧ nn ≤ 6) ∧ (R 80 = nI mn ∧ mn ≤ 6) ∧ (R 111 = nI un0 ∧ un0 ≤ 8) ∧ PST R g hh ∧
  (∀ i, i < g → ∃ s, s ≤ 30 ∧ R (19 + i) = nI s) ∧ (∀ j, j < hh → ∃ m, m ≤ 30 ∧ R (30 + j) = nI m) ∧ seenOk R g hh sn ∧ noteOk R nn ∧ markOk R mn ∧ (∀ u, u < un0 → PST (fun k => R (112 + 12 * u + k)) g hh)
def SM (D : Nat → Nat → Int32) (R : Nat → Int32) (g hh sn nn mn un0 : Nat) : Prop :=
  (D 0 0 = R 12 ∧ D 0 1 = R 25 ∧ D 0 2 = R 10 ∧ D 0 3 = R 11) ∧ (D 7 0 = R 34 ∧ D 9 0 = R 55 ∧ D 11 0 = R 80 ∧ D 13 0 = R 111) ∧
  (∀ i, i < g → D 1 i = R (13 + i) ∧ D 2 i = R (19 + i) ∧ D 3 i = R i) ∧ (∀ j, j < hh → D 4 j = R (26 + j) ∧ D 5 j = R (30 + j) ∧ D 6 j = R (6 + j)) ∧
  (∀ k, k < 4 * sn → D 8 k = R (35 + k)) ∧ (∀ k, k < 4 * nn → D 10 k = R (56 + k)) ∧ (∀ k, k < 5 * mn → D 12 k = R (81 + k)) ∧
  (∀ u, u < un0 → (∀ i, i < g → D 14 (u * 12 + i) = R (112 + 12 * u + i)) ∧ (∀ j, j < hh → D 14 (u * 12 + (6 + j)) = R (112 + 12 * u + (6 + j))) ∧ D 14 (u * 12 + 10) = R (112 + 12 * u + 10) ∧ D 14 (u * 12 + 11) = R (112 + 12 * u + 11))
section SI
variable {D : Nat → Nat → Int32} {R R2 : Nat → Int32} {g hh sn nn mn un0 : Nat}
theorem PST.congr {P P2 : Nat → Int32} (e : ∀ k, k < 12 → P2 k = P k) (h6 : g ≤ 6) (p : PST P g hh) : PST P2 g hh := by
  obtain ⟨a, b, c, d⟩ := p
  exact ⟨fun i hi => by rw [e i (by omega)]; exact a i hi, fun j hj => by rw [e (6 + j) (by omega)]; exact b j hj, by rw [e 10 (by omega)]; exact c, by rw [e 11 (by omega)]; exact d⟩
theorem seenOk.congr (e : ∀ k, 34 ≤ k → k < 55 → R2 k = R k) (h5 : sn ≤ 5) (p : seenOk R g hh sn) : seenOk R2 g hh sn := by
  intro r hr
  rw [e (35 + 4 * r) (by omega) (by omega), e (36 + 4 * r) (by omega) (by omega), e (37 + 4 * r) (by omega) (by omega), e (38 + 4 * r) (by omega) (by omega)]
  exact p r hr
theorem noteOk.congr (e : ∀ k, 55 ≤ k → k < 80 → R2 k = R k) (h5 : nn ≤ 6) (p : noteOk R nn) : noteOk R2 nn := by
  intro r hr
  rw [e (57 + 4 * r) (by omega) (by omega), e (58 + 4 * r) (by omega) (by omega)]
  exact p r hr
theorem markOk.congr (e : ∀ k, 80 ≤ k → k < 111 → R2 k = R k) (h5 : mn ≤ 6) (p : markOk R mn) : markOk R2 mn := by
  intro r hr
  rw [e (82 + 5 * r) (by omega) (by omega), e (83 + 5 * r) (by omega) (by omega), e (85 + 5 * r) (by omega) (by omega)]
  exact p r hr
theorem RI.congr (e : ∀ k, k < 208 → R2 k = R k) (p : RI R g hh sn nn mn un0) : RI R2 g hh sn nn mn un0 := by
  obtain ⟨⟨a1, a2⟩, ⟨b1, b2⟩, ⟨c1, c2⟩, ⟨d1, d2⟩, ⟨f1, f2⟩, ⟨h1, h2⟩, i, j, k, l, m, n, o⟩ := p
  refine ⟨⟨by rw [e 12 (by omega)]; exact a1, a2⟩, ⟨by rw [e 25 (by omega)]; exact b1, b2⟩, ⟨by rw [e 34 (by omega)]; exact c1, c2⟩, ⟨by rw [e 55 (by omega)]; exact d1, d2⟩, ⟨by rw [e 80 (by omega)]; exact f1, f2⟩, ⟨by rw [e 111 (by omega)]; exact h1, h2⟩, i.congr (fun q hq => e q (by omega)) a2, ?_, ?_, l.congr (fun q _ hq => e q (by omega)) c2, m.congr (fun q _ hq => e q (by omega)) d2, n.congr (fun q _ hq => e q (by omega)) f2, fun u hu => (o u hu).congr (fun q hq => e _ (by omega)) a2⟩
  · intro i hi; rw [e (19 + i) (by omega)]; exact j i hi
  · intro i hi; rw [e (30 + i) (by omega)]; exact k i hi
theorem SM.congr (e : ∀ k, k < 208 → R2 k = R k) (r : RI R g hh sn nn mn un0) (p : SM D R g hh sn nn mn un0) : SM D R2 g hh sn nn mn un0 := by
  obtain ⟨⟨-, a2⟩, ⟨-, b2⟩, ⟨-, c2⟩, ⟨-, d2⟩, ⟨-, f2⟩, ⟨-, h2⟩, -⟩ := r
  obtain ⟨⟨p1, p2, p3, p4⟩, ⟨q1, q2, q3, q4⟩, i, j, k, l, m, n⟩ := p
  refine ⟨⟨?_, ?_, ?_, ?_⟩, ⟨?_, ?_, ?_, ?_⟩, ?_, ?_, ?_, ?_, ?_, ?_⟩
  · rw [e 12 (by omega)]; exact p1
  · rw [e 25 (by omega)]; exact p2
  · rw [e 10 (by omega)]; exact p3
  · rw [e 11 (by omega)]; exact p4
  · rw [e 34 (by omega)]; exact q1
  · rw [e 55 (by omega)]; exact q2
  · rw [e 80 (by omega)]; exact q3
  · rw [e 111 (by omega)]; exact q4
  · intro x hx; rw [e (13 + x) (by omega), e (19 + x) (by omega), e x (by omega)]; exact i x hx
  · intro x hx; rw [e (26 + x) (by omega), e (30 + x) (by omega), e (6 + x) (by omega)]; exact j x hx
  · intro x hx; rw [e (35 + x) (by omega)]; exact k x hx
  · intro x hx; rw [e (56 + x) (by omega)]; exact l x hx
  · intro x hx; rw [e (81 + x) (by omega)]; exact m x hx
  · intro u hu
    obtain ⟨n1, n2, n3, n4⟩ := n u hu
    exact ⟨fun x hx => by rw [e (112 + 12 * u + x) (by omega)]; exact n1 x hx, fun x hx => by rw [e (112 + 12 * u + (6 + x)) (by omega)]; exact n2 x hx, by rw [e (112 + 12 * u + 10) (by omega)]; exact n3, by rw [e (112 + 12 * u + 11) (by omega)]; exact n4⟩
/-- what the class's methods ask -/
theorem SM.rl (r : RI R g hh sn nn mn un0) (p : SM D R g hh sn nn mn un0) : Rl D R g hh 0 := by
  obtain ⟨⟨a1, a2⟩, ⟨b1, b2⟩, -, -, -, -, ⟨-, -, w, -⟩, s, m, -⟩ := r
  obtain ⟨⟨p1, p2, p3, p4⟩, -, i, j, -⟩ := p
  refine ⟨⟨by rw [p1, a1], a2⟩, ⟨by rw [p2, b1], b2⟩, ⟨p3, w⟩, fun x hx => ?_, fun x hx => ?_⟩
  · obtain ⟨y1, y2, y3⟩ := i x hx
    exact ⟨y1, y2, by rw [y3, Nat.zero_add], s x hx⟩
  · obtain ⟨y1, y2, y3⟩ := j x hx
    exact ⟨y1, y2, m x hx⟩
theorem SM.lk (p : SM D R g hh sn nn mn un0) : Lk D R hh 0 := by
  obtain ⟨-, -, -, j, -⟩ := p
  intro x hx
  rw [(j x hx).2.2, Nat.zero_add]
/-! a new start -/
theorem RI_lay {w : Int32} (hw : ∃ z, z ≤ 4 ∧ w = nI z) : RI (layR R w) 0 0 0 0 0 0 := by
  have z : ∀ k, k ≠ 10 → k < 208 → layR R w k = nI 0 := fun k h1 h2 => layR_in h1 h2
  refine ⟨⟨z _ (by omega) (by omega), by omega⟩, ⟨z _ (by omega) (by omega), by omega⟩, ⟨z _ (by omega) (by omega), by omega⟩, ⟨z _ (by omega) (by omega), by omega⟩, ⟨z _ (by omega) (by omega), by omega⟩, ⟨z _ (by omega) (by omega), by omega⟩, ⟨fun i hi => by omega, fun j hj => ⟨0, by omega, z _ (by omega) (by omega), fun _ => rfl⟩, ?_, 0, by omega, z _ (by omega) (by omega)⟩, fun i hi => by omega, fun i hi => by omega, fun i hi => by omega, fun i hi => by omega, fun i hi => by omega, fun i hi => by omega⟩
  obtain ⟨y, h1, h2⟩ := hw
  exact ⟨y, h1, by unfold layR; rw [upd_eq, h2]⟩
theorem SM_lay {w : Int32} : SM (anD D w) (layR R w) 0 0 0 0 0 0 := by
  have z : ∀ k, k ≠ 10 → k < 208 → layR R w k = 0 := fun k h1 h2 => layR_in h1 h2
  refine ⟨⟨?_, ?_, ?_, ?_⟩, ⟨?_, ?_, ?_, ?_⟩, fun i hi => by omega, fun i hi => by omega, fun i hi => by omega, fun i hi => by omega, fun i hi => by omega, fun i hi => by omega⟩
  · rw [z _ (by omega) (by omega)]; simp (disch := decide) only [anD, wN_o, wA_s, fq_0]
  · rw [z _ (by omega) (by omega)]; simp (disch := decide) only [anD, wN_o, wA_s, fq_1]
  · unfold layR; rw [upd_eq]; simp (disch := decide) only [anD, wN_o, wA_s, fq_2]
  · rw [z _ (by omega) (by omega)]; simp (disch := decide) only [anD, wN_o, wA_s, fq_3]
  · rw [z _ (by omega) (by omega)]; simp (disch := decide) only [anD, wN_o, wN_s]
  · rw [z _ (by omega) (by omega)]; simp (disch := decide) only [anD, wN_o, wN_s]
  · rw [z _ (by omega) (by omega)]; simp (disch := decide) only [anD, wN_o, wN_s]
  · rw [z _ (by omega) (by omega)]; simp (disch := decide) only [anD, wN_o, wN_s]
/-! a guest more, a house more -/
theorem rwG_o {k s : Int32} {j : Nat} (h1 : j ≠ 13 + g) (h2 : j ≠ 19 + g) (h3 : j ≠ g) (h4 : j ≠ 12) (h5 : j ≠ 111) : rwG R k s g j = R j := by
  unfold rwG
  rw [upd_ne h5, upd_ne h4, upd_ne h3, upd_ne h2, upd_ne h1]
theorem RI_guest {k s : Int32} (r : RI R g hh sn nn mn un0) (h6 : g < 6) (hs : ∃ z, z ≤ 30 ∧ s = nI z) : RI (rwG R k s g) (g + 1) hh sn nn mn 0 := by
  obtain ⟨⟨a1, a2⟩, ⟨b1, b2⟩, ⟨c1, c2⟩, ⟨d1, d2⟩, ⟨f1, f2⟩, ⟨h1, h2⟩, ⟨i1, i2, i3, i4⟩, j, kk, l, m, n, o⟩ := r
  refine ⟨⟨?_, by omega⟩, ⟨by rw [rwG_o (by omega) (by omega) (by omega) (by omega) (by omega)]; exact b1, b2⟩, ⟨by rw [rwG_o (by omega) (by omega) (by omega) (by omega) (by omega)]; exact c1, c2⟩, ⟨by rw [rwG_o (by omega) (by omega) (by omega) (by omega) (by omega)]; exact d1, d2⟩, ⟨by rw [rwG_o (by omega) (by omega) (by omega) (by omega) (by omega)]; exact f1, f2⟩, ⟨?_, by omega⟩, ⟨?_, ?_, ?_, ?_⟩, ?_, ?_, ?_, ?_, ?_, fun u hu => by omega⟩
  · unfold rwG; rw [upd_ne (by omega), upd_eq]
  · unfold rwG; rw [upd_eq]; rfl
  · intro i hi
    by_cases q : i = g
    · left; unfold rwG; rw [q, upd_ne (by omega), upd_ne (by omega), upd_eq]
    · rw [rwG_o (by omega) (by omega) (by omega) (by omega) (by omega)]; exact i1 i (by omega)
  · intro i hi; rw [rwG_o (by omega) (by omega) (by omega) (by omega) (by omega)]; exact i2 i hi
  · rw [rwG_o (by omega) (by omega) (by omega) (by omega) (by omega)]; exact i3
  · rw [rwG_o (by omega) (by omega) (by omega) (by omega) (by omega)]; exact i4
  · intro i hi
    by_cases q : i = g
    · unfold rwG; rw [q, upd_ne (by omega), upd_ne (by omega), upd_ne (by omega), upd_eq]; exact hs
    · rw [rwG_o (by omega) (by omega) (by omega) (by omega) (by omega)]; exact j i (by omega)
  · intro i hi; rw [rwG_o (by omega) (by omega) (by omega) (by omega) (by omega)]; exact kk i hi
  · intro r hr
    rw [rwG_o (by omega) (by omega) (by omega) (by omega) (by omega), rwG_o (by omega) (by omega) (by omega) (by omega) (by omega), rwG_o (by omega) (by omega) (by omega) (by omega) (by omega), rwG_o (by omega) (by omega) (by omega) (by omega) (by omega)]
    obtain ⟨⟨x, x1, x2⟩, y⟩ := l r hr
    exact ⟨⟨x, by omega, x2⟩, y⟩
  · exact m.congr (fun q _ _ => rwG_o (by omega) (by omega) (by omega) (by omega) (by omega)) d2
  · exact n.congr (fun q _ _ => rwG_o (by omega) (by omega) (by omega) (by omega) (by omega)) f2
theorem SM_guest {k s : Int32} (r : RI R g hh sn nn mn un0) (p : SM D R g hh sn nn mn un0) (h6 : g < 6) : SM (agD D g k s) (rwG R k s g) (g + 1) hh sn nn mn 0 := by
  obtain ⟨⟨a1, a2⟩, ⟨b1, b2⟩, ⟨c1, c2⟩, ⟨d1, d2⟩, ⟨f1, f2⟩, -⟩ := r
  obtain ⟨⟨p1, p2, p3, p4⟩, ⟨q1, q2, q3, q4⟩, i, j, kk, l, m, n⟩ := p
  have hh0 : ∀ k2 s2, agD D g k2 s2 0 = fq (nI (g + 1)) (D 0 1) (D 0 2) (D 0 3) := fun k2 s2 => by unfold agD; rw [wA_s]
  have hq : ∀ a, a ≠ 0 → a ≠ 13 → a ≠ 1 → a ≠ 2 → a ≠ 3 → agD D g k s a = D a := fun a z0 z1 z2 z3 z4 => by unfold agD; rw [wA_o z0, wN_o z1, wA_o z4, wA_o z3, wA_o z2]
  refine ⟨⟨?_, ?_, ?_, ?_⟩, ⟨?_, ?_, ?_, ?_⟩, ?_, ?_, ?_, ?_, ?_, fun u hu => by omega⟩
  · rw [hh0]; unfold rwG; rw [upd_ne (by omega), upd_eq]; rfl
  · rw [hh0, rwG_o (by omega) (by omega) (by omega) (by omega) (by omega)]; exact p2
  · rw [hh0, rwG_o (by omega) (by omega) (by omega) (by omega) (by omega)]; exact p3
  · rw [hh0, rwG_o (by omega) (by omega) (by omega) (by omega) (by omega)]; exact p4
  · rw [hq _ (by decide) (by decide) (by decide) (by decide) (by decide), rwG_o (by omega) (by omega) (by omega) (by omega) (by omega)]; exact q1
  · rw [hq _ (by decide) (by decide) (by decide) (by decide) (by decide), rwG_o (by omega) (by omega) (by omega) (by omega) (by omega)]; exact q2
  · rw [hq _ (by decide) (by decide) (by decide) (by decide) (by decide), rwG_o (by omega) (by omega) (by omega) (by omega) (by omega)]; exact q3
  · unfold agD rwG; rw [wA_o (by decide), wN_s, upd_eq]
  · intro x hx
    have e1 : agD D g k s 1 x = upd (D 1) g k x := by unfold agD; rw [wA_o (by decide), wN_o (by decide), wA_o (by decide), wA_o (by decide), wA_s]
    have e2 : agD D g k s 2 x = upd (D 2) g s x := by unfold agD; rw [wA_o (by decide), wN_o (by decide), wA_o (by decide), wA_s]
    have e3 : agD D g k s 3 x = upd (D 3) g (-1) x := by unfold agD; rw [wA_o (by decide), wN_o (by decide), wA_s]
    rw [e1, e2, e3]
    by_cases q : x = g
    · unfold rwG
      rw [q, upd_eq, upd_eq, upd_eq, upd_ne (by omega), upd_ne (by omega), upd_ne (by omega), upd_ne (by omega), upd_eq, upd_ne (by omega), upd_ne (by omega), upd_ne (by omega), upd_eq, upd_ne (by omega), upd_ne (by omega), upd_eq]
      exact ⟨rfl, rfl, rfl⟩
    · rw [upd_ne q, upd_ne q, upd_ne q, rwG_o (by omega) (by omega) (by omega) (by omega) (by omega), rwG_o (by omega) (by omega) (by omega) (by omega) (by omega), rwG_o (by omega) (by omega) (by omega) (by omega) (by omega)]
      exact i x (by omega)
  · intro x hx
    rw [hq _ (by decide) (by decide) (by decide) (by decide) (by decide), hq _ (by decide) (by decide) (by decide) (by decide) (by decide), hq _ (by decide) (by decide) (by decide) (by decide) (by decide), rwG_o (by omega) (by omega) (by omega) (by omega) (by omega), rwG_o (by omega) (by omega) (by omega) (by omega) (by omega), rwG_o (by omega) (by omega) (by omega) (by omega) (by omega)]
    exact j x hx
  · intro x hx; rw [hq _ (by decide) (by decide) (by decide) (by decide) (by decide), rwG_o (by omega) (by omega) (by omega) (by omega) (by omega)]; exact kk x hx
  · intro x hx; rw [hq _ (by decide) (by decide) (by decide) (by decide) (by decide), rwG_o (by omega) (by omega) (by omega) (by omega) (by omega)]; exact l x hx
  · intro x hx; rw [hq _ (by decide) (by decide) (by decide) (by decide) (by decide), rwG_o (by omega) (by omega) (by omega) (by omega) (by omega)]; exact m x hx
theorem rwH_o {k s : Int32} {j : Nat} (h1 : j ≠ 26 + hh) (h2 : j ≠ 30 + hh) (h4 : j ≠ 25) (h5 : j ≠ 111) : rwH R k s hh j = R j := by
  unfold rwH
  rw [upd_ne h5, upd_ne h4, upd_ne h2, upd_ne h1]
theorem RI_house {k s : Int32} (r : RI R g hh sn nn mn un0) (h6 : hh < 4) (hs : ∃ z, z ≤ 30 ∧ s = nI z) : RI (rwH R k s hh) g (hh + 1) sn nn mn 0 := by
  obtain ⟨⟨a1, a2⟩, ⟨b1, b2⟩, ⟨c1, c2⟩, ⟨d1, d2⟩, ⟨f1, f2⟩, ⟨h1, h2⟩, ⟨i1, i2, i3, i4⟩, j, kk, l, m, n, o⟩ := r
  refine ⟨⟨by rw [rwH_o (by omega) (by omega) (by omega) (by omega)]; exact a1, a2⟩, ⟨?_, by omega⟩, ⟨by rw [rwH_o (by omega) (by omega) (by omega) (by omega)]; exact c1, c2⟩, ⟨by rw [rwH_o (by omega) (by omega) (by omega) (by omega)]; exact d1, d2⟩, ⟨by rw [rwH_o (by omega) (by omega) (by omega) (by omega)]; exact f1, f2⟩, ⟨?_, by omega⟩, ⟨?_, ?_, ?_, ?_⟩, ?_, ?_, ?_, ?_, ?_, fun u hu => by omega⟩
  · unfold rwH; rw [upd_ne (by omega), upd_eq]
  · unfold rwH; rw [upd_eq]; rfl
  · intro i hi
    rw [rwH_o (by omega) (by omega) (by omega) (by omega)]
    rcases i1 i hi with z | ⟨x, x1, x2⟩
    · exact Or.inl z
    · exact Or.inr ⟨x, by omega, x2⟩
  · intro i hi
    rw [rwH_o (by omega) (by omega) (by omega) (by omega)]
    obtain ⟨x, x1, x2, x3⟩ := i2 i hi
    exact ⟨x, x1, x2, fun z => x3 (by omega)⟩
  · rw [rwH_o (by omega) (by omega) (by omega) (by omega)]; exact i3
  · rw [rwH_o (by omega) (by omega) (by omega) (by omega)]; exact i4
  · intro i hi; rw [rwH_o (by omega) (by omega) (by omega) (by omega)]; exact j i hi
  · intro i hi
    by_cases q : i = hh
    · unfold rwH; rw [q, upd_ne (by omega), upd_ne (by omega), upd_eq]; exact hs
    · rw [rwH_o (by omega) (by omega) (by omega) (by omega)]; exact kk i (by omega)
  · intro r hr
    rw [rwH_o (by omega) (by omega) (by omega) (by omega), rwH_o (by omega) (by omega) (by omega) (by omega), rwH_o (by omega) (by omega) (by omega) (by omega), rwH_o (by omega) (by omega) (by omega) (by omega)]
    obtain ⟨x, ⟨y, y1, y2⟩, z⟩ := l r hr
    exact ⟨x, ⟨y, by omega, y2⟩, z⟩
  · exact m.congr (fun q _ _ => rwH_o (by omega) (by omega) (by omega) (by omega)) d2
  · exact n.congr (fun q _ _ => rwH_o (by omega) (by omega) (by omega) (by omega)) f2
theorem SM_house {k s : Int32} (r : RI R g hh sn nn mn un0) (p : SM D R g hh sn nn mn un0) (h6 : hh < 4) : SM (ahD D hh k s) (rwH R k s hh) g (hh + 1) sn nn mn 0 := by
  obtain ⟨⟨a1, a2⟩, ⟨b1, b2⟩, ⟨c1, c2⟩, ⟨d1, d2⟩, ⟨f1, f2⟩, -, ⟨-, i2, -⟩, -⟩ := r
  obtain ⟨⟨p1, p2, p3, p4⟩, ⟨q1, q2, q3, q4⟩, i, j, kk, l, m, n⟩ := p
  have hh0 : ∀ k2 s2, ahD D hh k2 s2 0 = fq (D 0 0) (nI (hh + 1)) (D 0 2) (D 0 3) := fun k2 s2 => by unfold ahD; rw [wA_s]
  have hq : ∀ a, a ≠ 0 → a ≠ 13 → a ≠ 4 → a ≠ 5 → a ≠ 6 → ahD D hh k s a = D a := fun a z0 z1 z2 z3 z4 => by unfold ahD; rw [wA_o z0, wN_o z1, wA_o z4, wA_o z3, wA_o z2]
  refine ⟨⟨?_, ?_, ?_, ?_⟩, ⟨?_, ?_, ?_, ?_⟩, ?_, ?_, ?_, ?_, ?_, fun u hu => by omega⟩
  · rw [hh0, rwH_o (by omega) (by omega) (by omega) (by omega)]; exact p1
  · rw [hh0]; unfold rwH; rw [upd_ne (by omega), upd_eq]; rfl
  · rw [hh0, rwH_o (by omega) (by omega) (by omega) (by omega)]; exact p3
  · rw [hh0, rwH_o (by omega) (by omega) (by omega) (by omega)]; exact p4
  · rw [hq _ (by decide) (by decide) (by decide) (by decide) (by decide), rwH_o (by omega) (by omega) (by omega) (by omega)]; exact q1
  · rw [hq _ (by decide) (by decide) (by decide) (by decide) (by decide), rwH_o (by omega) (by omega) (by omega) (by omega)]; exact q2
  · rw [hq _ (by decide) (by decide) (by decide) (by decide) (by decide), rwH_o (by omega) (by omega) (by omega) (by omega)]; exact q3
  · unfold ahD rwH; rw [wA_o (by decide), wN_s, upd_eq]
  · intro x hx
    rw [hq _ (by decide) (by decide) (by decide) (by decide) (by decide), hq _ (by decide) (by decide) (by decide) (by decide) (by decide), hq _ (by decide) (by decide) (by decide) (by decide) (by decide), rwH_o (by omega) (by omega) (by omega) (by omega), rwH_o (by omega) (by omega) (by omega) (by omega), rwH_o (by omega) (by omega) (by omega) (by omega)]
    exact i x hx
  · intro x hx
    have e1 : ahD D hh k s 4 x = upd (D 4) hh k x := by unfold ahD; rw [wA_o (by decide), wN_o (by decide), wA_o (by decide), wA_o (by decide), wA_s]
    have e2 : ahD D hh k s 5 x = upd (D 5) hh s x := by unfold ahD; rw [wA_o (by decide), wN_o (by decide), wA_o (by decide), wA_s]
    have e3 : ahD D hh k s 6 x = upd (D 6) hh 0 x := by unfold ahD; rw [wA_o (by decide), wN_o (by decide), wA_s]
    rw [e1, e2, e3]
    by_cases q : x = hh
    · obtain ⟨y, y1, y2, y3⟩ := i2 hh h6
      have e4 : R (6 + hh) = 0 := by rw [y2, y3 (Nat.le_refl hh)]; rfl
      rw [q, upd_eq, upd_eq, upd_eq, rwH_o (j := 6 + hh) (by omega) (by omega) (by omega) (by omega), e4]
      unfold rwH
      rw [upd_ne (by omega), upd_ne (by omega), upd_ne (by omega), upd_eq, upd_ne (by omega), upd_ne (by omega), upd_eq]
      exact ⟨rfl, rfl, rfl⟩
    · rw [upd_ne q, upd_ne q, upd_ne q, rwH_o (by omega) (by omega) (by omega) (by omega), rwH_o (by omega) (by omega) (by omega) (by omega), rwH_o (by omega) (by omega) (by omega) (by omega)]
      exact j x (by omega)
  · intro x hx; rw [hq _ (by decide) (by decide) (by decide) (by decide) (by decide), rwH_o (by omega) (by omega) (by omega) (by omega)]; exact kk x hx
  · intro x hx; rw [hq _ (by decide) (by decide) (by decide) (by decide) (by decide), rwH_o (by omega) (by omega) (by omega) (by omega)]; exact l x hx
  · intro x hx; rw [hq _ (by decide) (by decide) (by decide) (by decide) (by decide), rwH_o (by omega) (by omega) (by omega) (by omega)]; exact m x hx
end SI
