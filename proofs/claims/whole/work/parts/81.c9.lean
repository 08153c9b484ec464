/-! steps that may be undone: the class's rows beside the reference's -/
section SK
variable {D E : Nat → Nat → Int32} {R : Nat → Int32} {g hh sn nn mn u : Nat}
theorem rwK_in {n k : Nat} (hk : k < 12) : rwK R n (112 + 12 * n + k) = R k := by
  unfold rwK
  rw [upd_ne (by omega)]
  unfold cpR
  rw [if_pos (by omega)]
  congr 1; omega
theorem rwK_o {n k : Nat} (h1 : k ≠ 111) (h2 : k < 112 + 12 * n ∨ 124 + 12 * n ≤ k) : rwK R n k = R k := by
  unfold rwK
  rw [upd_ne h1]
  unfold cpR
  rw [if_neg (by omega)]
theorem RI_push (r : RI R g hh sn nn mn u) (h8 : u < 8) : RI (rwK R u) g hh sn nn mn (u + 1) := by
  obtain ⟨⟨a1, a2⟩, ⟨b1, b2⟩, ⟨c1, c2⟩, ⟨d1, d2⟩, ⟨f1, f2⟩, ⟨h1, h2⟩, i, j, k, l, m, n, o⟩ := r
  have e : ∀ k, k < 111 → rwK R u k = R k := fun k hk => rwK_o (by omega) (by omega)
  refine ⟨⟨by rw [e 12 (by omega)]; exact a1, a2⟩, ⟨by rw [e 25 (by omega)]; exact b1, b2⟩, ⟨by rw [e 34 (by omega)]; exact c1, c2⟩, ⟨by rw [e 55 (by omega)]; exact d1, d2⟩, ⟨by rw [e 80 (by omega)]; exact f1, f2⟩, ⟨by unfold rwK; rw [upd_eq], by omega⟩, i.congr (fun q hq => e q (by omega)) a2, ?_, ?_, l.congr (fun q _ hq => e q (by omega)) c2, m.congr (fun q _ hq => e q (by omega)) d2, n.congr (fun q _ hq => e q (by omega)) f2, fun v hv => ?_⟩
  · intro i hi; rw [e (19 + i) (by omega)]; exact j i hi
  · intro i hi; rw [e (30 + i) (by omega)]; exact k i hi
  · by_cases q : v = u
    · exact i.congr (fun x hx => by show rwK R u (112 + 12 * v + x) = R x; rw [q]; exact rwK_in hx) a2
    · exact (o v (by omega)).congr (fun x hx => by show rwK R u (112 + 12 * v + x) = R (112 + 12 * v + x); exact rwK_o (by omega) (by omega)) a2
theorem ksI_wN {x : Int32} {n : Nat} : ksI D (wN E 13 x) u n = ksI D E u n := by
  unfold ksI
  rw [wN_wN]
  congr 1
theorem SM_push (r : RI R g hh sn nn mn u) (p : SM E R g hh sn nn mn u) (h8 : u < 8) (e3 : E 3 = D 3) (e6 : E 6 = D 6) (e0 : E 0 = D 0) : SM (ksI D E u 12) (rwK R u) g hh sn nn mn (u + 1) := by
  obtain ⟨⟨a1, a2⟩, ⟨b1, b2⟩, ⟨c1, c2⟩, ⟨d1, d2⟩, ⟨f1, f2⟩, -⟩ := r
  obtain ⟨⟨p1, p2, p3, p4⟩, ⟨q1, q2, q3, q4⟩, i, j, kk, l, m, n⟩ := p
  have e : ∀ k, k < 111 → rwK R u k = R k := fun k hk => rwK_o (by omega) (by omega)
  have ed : ∀ a, a ≠ 13 → a ≠ 14 → ksI D E u 12 a = E a := fun a h1 h2 => ksI_o h1 h2
  refine ⟨⟨?_, ?_, ?_, ?_⟩, ⟨?_, ?_, ?_, ?_⟩, ?_, ?_, ?_, ?_, ?_, ?_⟩
  · rw [ed _ (by decide) (by decide), e _ (by omega)]; exact p1
  · rw [ed _ (by decide) (by decide), e _ (by omega)]; exact p2
  · rw [ed _ (by decide) (by decide), e _ (by omega)]; exact p3
  · rw [ed _ (by decide) (by decide), e _ (by omega)]; exact p4
  · rw [ed _ (by decide) (by decide), e _ (by omega)]; exact q1
  · rw [ed _ (by decide) (by decide), e _ (by omega)]; exact q2
  · rw [ed _ (by decide) (by decide), e _ (by omega)]; exact q3
  · rw [ksI_13]; unfold rwK; rw [upd_eq]
  · intro x hx
    rw [ed _ (by decide) (by decide), ed _ (by decide) (by decide), ed _ (by decide) (by decide), e _ (by omega), e _ (by omega), e _ (by omega)]
    exact i x hx
  · intro x hx
    rw [ed _ (by decide) (by decide), ed _ (by decide) (by decide), ed _ (by decide) (by decide), e _ (by omega), e _ (by omega), e _ (by omega)]
    exact j x hx
  · intro x hx; rw [ed _ (by decide) (by decide), e _ (by omega)]; exact kk x hx
  · intro x hx; rw [ed _ (by decide) (by decide), e _ (by omega)]; exact l x hx
  · intro x hx; rw [ed _ (by decide) (by decide), e _ (by omega)]; exact m x hx
  · intro v hv
    have e14 : ksI D E u 12 14 = ksF D E u 12 := by unfold ksI; rw [wA_s]
    rw [e14]
    by_cases q : v = u
    · subst q
      have hs : ∀ x, x < 12 → ksF D E v 12 (v * 12 + x) = stq D x := fun x hx => by
        unfold ksF
        rw [if_pos (by omega), Nat.add_sub_cancel_left]
      refine ⟨fun x hx => ?_, fun x hx => ?_, ?_, ?_⟩
      · rw [hs x (by omega), rwK_in (by omega)]
        unfold stq
        rw [if_pos (by omega), ← e3]
        exact (i x hx).2.2
      · rw [hs (6 + x) (by omega), rwK_in (by omega)]
        unfold stq
        rw [if_neg (by omega), if_pos (by omega), Nat.add_sub_cancel_left, ← e6]
        exact (j x hx).2.2
      · rw [hs 10 (by omega), rwK_in (by omega)]
        show D 0 2 = _
        rw [← e0]; exact p3
      · rw [hs 11 (by omega), rwK_in (by omega)]
        show D 0 3 = _
        rw [← e0]; exact p4
    · obtain ⟨n1, n2, n3, n4⟩ := n v (by omega)
      have hs : ∀ x, x < 12 → ksF D E u 12 (v * 12 + x) = E 14 (v * 12 + x) := fun x hx => by
        unfold ksF
        rw [if_neg (by omega)]
      refine ⟨fun x hx => ?_, fun x hx => ?_, ?_, ?_⟩
      · rw [hs x (by omega), rwK_o (by omega) (by omega)]; exact n1 x hx
      · rw [hs (6 + x) (by omega), rwK_o (by omega) (by omega)]; exact n2 x hx
      · rw [hs 10 (by omega), rwK_o (by omega) (by omega)]; exact n3
      · rw [hs 11 (by omega), rwK_o (by omega) (by omega)]; exact n4
theorem rwS_in {k : Nat} (hk : k < 84) : rwS R (112 + k) = R (124 + k) := by
  unfold rwS
  rw [upd_ne (by omega)]
  unfold cpR
  rw [if_pos (by omega)]
  congr 1; omega
theorem rwS_o {k : Nat} (h1 : k < 111 ∨ 196 ≤ k) : rwS R k = R k := by
  unfold rwS
  rw [upd_ne (by omega)]
  unfold cpR
  rw [if_neg (by omega)]
theorem RI_shift (r : RI R g hh sn nn mn 8) : RI (rwS R) g hh sn nn mn 7 := by
  obtain ⟨⟨a1, a2⟩, ⟨b1, b2⟩, ⟨c1, c2⟩, ⟨d1, d2⟩, ⟨f1, f2⟩, ⟨h1, h2⟩, i, j, k, l, m, n, o⟩ := r
  have e : ∀ k, k < 111 → rwS R k = R k := fun k hk => rwS_o (by omega)
  refine ⟨⟨by rw [e 12 (by omega)]; exact a1, a2⟩, ⟨by rw [e 25 (by omega)]; exact b1, b2⟩, ⟨by rw [e 34 (by omega)]; exact c1, c2⟩, ⟨by rw [e 55 (by omega)]; exact d1, d2⟩, ⟨by rw [e 80 (by omega)]; exact f1, f2⟩, ⟨by unfold rwS; rw [upd_eq], by omega⟩, i.congr (fun q hq => e q (by omega)) a2, ?_, ?_, l.congr (fun q _ hq => e q (by omega)) c2, m.congr (fun q _ hq => e q (by omega)) d2, n.congr (fun q _ hq => e q (by omega)) f2, fun v hv => ?_⟩
  · intro i hi; rw [e (19 + i) (by omega)]; exact j i hi
  · intro i hi; rw [e (30 + i) (by omega)]; exact k i hi
  · exact (o (v + 1) (by omega)).congr (fun x hx => by
      show rwS R (112 + 12 * v + x) = R (112 + 12 * (v + 1) + x)
      rw [show 112 + 12 * v + x = 112 + (12 * v + x) by omega, rwS_in (by omega)]
      congr 1; omega) a2
theorem SM_shift (r : RI R g hh sn nn mn 8) (p : SM D R g hh sn nn mn 8) : SM (wN (shU D) 13 (nI 7)) (rwS R) g hh sn nn mn 7 := by
  obtain ⟨⟨a1, a2⟩, ⟨b1, b2⟩, ⟨c1, c2⟩, ⟨d1, d2⟩, ⟨f1, f2⟩, -⟩ := r
  obtain ⟨⟨p1, p2, p3, p4⟩, ⟨q1, q2, q3, q4⟩, i, j, kk, l, m, n⟩ := p
  have e : ∀ k, k < 111 → rwS R k = R k := fun k hk => rwS_o (by omega)
  have ed : ∀ a, a ≠ 13 → a ≠ 14 → wN (shU D) 13 (nI 7) a = D a := fun a h1 h2 => by unfold shU; rw [wN_o h1, wN_o h1, wA_o h2]
  refine ⟨⟨?_, ?_, ?_, ?_⟩, ⟨?_, ?_, ?_, ?_⟩, ?_, ?_, ?_, ?_, ?_, ?_⟩
  · rw [ed _ (by decide) (by decide), e _ (by omega)]; exact p1
  · rw [ed _ (by decide) (by decide), e _ (by omega)]; exact p2
  · rw [ed _ (by decide) (by decide), e _ (by omega)]; exact p3
  · rw [ed _ (by decide) (by decide), e _ (by omega)]; exact p4
  · rw [ed _ (by decide) (by decide), e _ (by omega)]; exact q1
  · rw [ed _ (by decide) (by decide), e _ (by omega)]; exact q2
  · rw [ed _ (by decide) (by decide), e _ (by omega)]; exact q3
  · rw [wN_s]; unfold rwS; rw [upd_eq]
  · intro x hx
    rw [ed _ (by decide) (by decide), ed _ (by decide) (by decide), ed _ (by decide) (by decide), e _ (by omega), e _ (by omega), e _ (by omega)]
    exact i x hx
  · intro x hx
    rw [ed _ (by decide) (by decide), ed _ (by decide) (by decide), ed _ (by decide) (by decide), e _ (by omega), e _ (by omega), e _ (by omega)]
    exact j x hx
  · intro x hx; rw [ed _ (by decide) (by decide), e _ (by omega)]; exact kk x hx
  · intro x hx; rw [ed _ (by decide) (by decide), e _ (by omega)]; exact l x hx
  · intro x hx; rw [ed _ (by decide) (by decide), e _ (by omega)]; exact m x hx
  · intro v hv
    obtain ⟨n1, n2, n3, n4⟩ := n (v + 1) (by omega)
    have hs : ∀ x, x < 12 → wN (shU D) 13 (nI 7) 14 (v * 12 + x) = D 14 ((v + 1) * 12 + x) := fun x hx => by
      unfold shU
      rw [wN_o (by decide), wN_o (by decide), wA_s]
      unfold cpy
      rw [pk_cpy_in (by omega) (by omega)]
      congr 1; omega
    have hr : ∀ x, x < 12 → rwS R (112 + 12 * v + x) = R (112 + 12 * (v + 1) + x) := fun x hx => by
      rw [show 112 + 12 * v + x = 112 + (12 * v + x) by omega, rwS_in (by omega)]
      congr 1; omega
    refine ⟨fun x hx => ?_, fun x hx => ?_, ?_, ?_⟩
    · rw [hs x (by omega), hr x (by omega)]; exact n1 x hx
    · rw [hs (6 + x) (by omega), hr (6 + x) (by omega)]; exact n2 x hx
    · rw [hs 10 (by omega), hr 10 (by omega)]; exact n3
    · rw [hs 11 (by omega), hr 11 (by omega)]; exact n4
def unx (u : Nat) : Nat := if u = 8 then 8 else u + 1
theorem RI_keep (r : RI R g hh sn nn mn u) : RI (rwP R u) g hh sn nn mn (unx u) := by
  have h8 := r.2.2.2.2.2.1.2
  unfold rwP unx
  by_cases q : u = 8
  · subst q
    rw [if_pos rfl, if_pos rfl]
    exact RI_push (RI_shift r) (by omega)
  · rw [if_neg q, if_neg q]
    exact RI_push r (by omega)
theorem SM_keep (r : RI R g hh sn nn mn u) (p : SM D R g hh sn nn mn u) : SM (kpD D u) (rwP R u) g hh sn nn mn (unx u) := by
  have h8 := r.2.2.2.2.2.1.2
  unfold rwP unx kpD
  by_cases q : u = 8
  · subst q
    rw [if_pos rfl, if_pos rfl, if_pos rfl, ← ksI_wN (x := nI 7)]
    refine SM_push (RI_shift r) (SM_shift r p) (by omega) ?_ ?_ ?_
    · unfold shU; rw [wN_o (by decide), wN_o (by decide), wA_o (by decide)]
    · unfold shU; rw [wN_o (by decide), wN_o (by decide), wA_o (by decide)]
    · unfold shU; rw [wN_o (by decide), wN_o (by decide), wA_o (by decide)]
  · rw [if_neg q, if_neg q, if_neg q]
    exact SM_push r p (by omega) rfl rfl rfl
theorem rwP_hi {k : Nat} (h8 : u ≤ 8) (hk : 208 ≤ k) : rwP R u k = R k := by
  unfold rwP
  split
  · rw [rwK_o (by omega) (by omega), rwS_o (by omega)]
  · rw [rwK_o (by omega) (by omega)]
/-- someone goes; the wet is told -/
theorem RI_go {i : Nat} {x : Int32} (r : RI R g hh sn nn mn u) (hi : i < g) (hx : whr x hh) : RI (upd R i x) g hh sn nn mn u := by
  obtain ⟨⟨a1, a2⟩, ⟨b1, b2⟩, ⟨c1, c2⟩, ⟨d1, d2⟩, ⟨f1, f2⟩, ⟨h1, h2⟩, ⟨i1, i2, i3, i4⟩, j, k, l, m, n, o⟩ := r
  have e : ∀ k, 6 ≤ k → upd R i x k = R k := fun k hk => upd_ne (by omega)
  refine ⟨⟨by rw [e 12 (by omega)]; exact a1, a2⟩, ⟨by rw [e 25 (by omega)]; exact b1, b2⟩, ⟨by rw [e 34 (by omega)]; exact c1, c2⟩, ⟨by rw [e 55 (by omega)]; exact d1, d2⟩, ⟨by rw [e 80 (by omega)]; exact f1, f2⟩, ⟨by rw [e 111 (by omega)]; exact h1, h2⟩, ⟨?_, ?_, by rw [e 10 (by omega)]; exact i3, by rw [e 11 (by omega)]; exact i4⟩, ?_, ?_, l.congr (fun q _ hq => e q (by omega)) c2, m.congr (fun q _ hq => e q (by omega)) d2, n.congr (fun q _ hq => e q (by omega)) f2, fun v hv => (o v hv).congr (fun y hy => e _ (by omega)) a2⟩
  · intro y hy
    by_cases q : y = i
    · rw [q, upd_eq]; exact hx
    · rw [upd_ne q]; exact i1 y hy
  · intro y hy; rw [e (6 + y) (by omega)]; exact i2 y hy
  · intro y hy; rw [e (19 + y) (by omega)]; exact j y hy
  · intro y hy; rw [e (30 + y) (by omega)]; exact k y hy
theorem SM_go {i : Nat} {x : Int32} (r : RI R g hh sn nn mn u) (p : SM D R g hh sn nn mn u) (hi : i < g) : SM (wA D 3 (upd (D 3) i x)) (upd R i x) g hh sn nn mn u := by
  obtain ⟨⟨a1, a2⟩, ⟨b1, b2⟩, ⟨c1, c2⟩, ⟨d1, d2⟩, ⟨f1, f2⟩, -⟩ := r
  obtain ⟨⟨p1, p2, p3, p4⟩, ⟨q1, q2, q3, q4⟩, y, j, kk, l, m, n⟩ := p
  have e : ∀ k, 6 ≤ k → upd R i x k = R k := fun k hk => upd_ne (by omega)
  have ed : ∀ a, a ≠ 3 → wA D 3 (upd (D 3) i x) a = D a := fun a h1 => wA_o h1
  refine ⟨⟨?_, ?_, ?_, ?_⟩, ⟨?_, ?_, ?_, ?_⟩, ?_, ?_, ?_, ?_, ?_, ?_⟩
  · rw [ed _ (by decide), e _ (by omega)]; exact p1
  · rw [ed _ (by decide), e _ (by omega)]; exact p2
  · rw [ed _ (by decide), e _ (by omega)]; exact p3
  · rw [ed _ (by decide), e _ (by omega)]; exact p4
  · rw [ed _ (by decide), e _ (by omega)]; exact q1
  · rw [ed _ (by decide), e _ (by omega)]; exact q2
  · rw [ed _ (by decide), e _ (by omega)]; exact q3
  · rw [ed _ (by decide), e _ (by omega)]; exact q4
  · intro z hz
    obtain ⟨y1, y2, y3⟩ := y z hz
    refine ⟨by rw [ed _ (by decide), e _ (by omega)]; exact y1, by rw [ed _ (by decide), e _ (by omega)]; exact y2, ?_⟩
    rw [wA_s]
    by_cases q : z = i
    · rw [q, upd_eq, upd_eq]
    · rw [upd_ne q, upd_ne q]; exact y3
  · intro z hz
    rw [ed _ (by decide), ed _ (by decide), ed _ (by decide), e _ (by omega), e _ (by omega), e _ (by omega)]; exact j z hz
  · intro z hz; rw [ed _ (by decide), e _ (by omega)]; exact kk z hz
  · intro z hz; rw [ed _ (by decide), e _ (by omega)]; exact l z hz
  · intro z hz; rw [ed _ (by decide), e _ (by omega)]; exact m z hz
  · intro z hz
    obtain ⟨n1, n2, n3, n4⟩ := n z hz
    rw [ed _ (by decide)]
    exact ⟨fun y hy => by rw [e _ (by omega)]; exact n1 y hy, fun y hy => by rw [e _ (by omega)]; exact n2 y hy, by rw [e _ (by omega)]; exact n3, by rw [e _ (by omega)]; exact n4⟩
theorem RI_wet {x : Int32} (r : RI R g hh sn nn mn u) (hx : ∃ z, z ≤ 4 ∧ x = nI z) : RI (upd R 10 x) g hh sn nn mn u := by
  obtain ⟨⟨a1, a2⟩, ⟨b1, b2⟩, ⟨c1, c2⟩, ⟨d1, d2⟩, ⟨f1, f2⟩, ⟨h1, h2⟩, ⟨i1, i2, i3, i4⟩, j, k, l, m, n, o⟩ := r
  have e : ∀ k, k ≠ 10 → upd R 10 x k = R k := fun k hk => upd_ne hk
  refine ⟨⟨by rw [e 12 (by omega)]; exact a1, a2⟩, ⟨by rw [e 25 (by omega)]; exact b1, b2⟩, ⟨by rw [e 34 (by omega)]; exact c1, c2⟩, ⟨by rw [e 55 (by omega)]; exact d1, d2⟩, ⟨by rw [e 80 (by omega)]; exact f1, f2⟩, ⟨by rw [e 111 (by omega)]; exact h1, h2⟩, ⟨?_, ?_, by rw [upd_eq]; exact hx, by rw [e 11 (by omega)]; exact i4⟩, ?_, ?_, l.congr (fun q _ hq => e q (by omega)) c2, m.congr (fun q _ hq => e q (by omega)) d2, n.congr (fun q _ hq => e q (by omega)) f2, fun v hv => (o v hv).congr (fun y hy => e _ (by omega)) a2⟩
  · intro y hy; rw [e y (by omega)]; exact i1 y hy
  · intro y hy; rw [e (6 + y) (by omega)]; exact i2 y hy
  · intro y hy; rw [e (19 + y) (by omega)]; exact j y hy
  · intro y hy; rw [e (30 + y) (by omega)]; exact k y hy
theorem SM_wet {x : Int32} (r : RI R g hh sn nn mn u) (p : SM D R g hh sn nn mn u) : SM (wA D 0 (fq (D 0 0) (D 0 1) x (D 0 3))) (upd R 10 x) g hh sn nn mn u := by
  obtain ⟨⟨a1, a2⟩, ⟨b1, b2⟩, ⟨c1, c2⟩, ⟨d1, d2⟩, ⟨f1, f2⟩, -⟩ := r
  obtain ⟨⟨p1, p2, p3, p4⟩, ⟨q1, q2, q3, q4⟩, y, j, kk, l, m, n⟩ := p
  have e : ∀ k, k ≠ 10 → upd R 10 x k = R k := fun k hk => upd_ne hk
  have ed : ∀ a, a ≠ 0 → wA D 0 (fq (D 0 0) (D 0 1) x (D 0 3)) a = D a := fun a h1 => wA_o h1
  refine ⟨⟨?_, ?_, ?_, ?_⟩, ⟨?_, ?_, ?_, ?_⟩, ?_, ?_, ?_, ?_, ?_, ?_⟩
  · rw [wA_s, e _ (by omega)]; exact p1
  · rw [wA_s, e _ (by omega)]; exact p2
  · rw [wA_s, upd_eq]; rfl
  · rw [wA_s, e _ (by omega)]; exact p4
  · rw [ed _ (by decide), e _ (by omega)]; exact q1
  · rw [ed _ (by decide), e _ (by omega)]; exact q2
  · rw [ed _ (by decide), e _ (by omega)]; exact q3
  · rw [ed _ (by decide), e _ (by omega)]; exact q4
  · intro z hz
    rw [ed _ (by decide), ed _ (by decide), ed _ (by decide), e _ (by omega), e _ (by omega), e _ (by omega)]; exact y z hz
  · intro z hz
    rw [ed _ (by decide), ed _ (by decide), ed _ (by decide), e _ (by omega), e _ (by omega), e _ (by omega)]; exact j z hz
  · intro z hz; rw [ed _ (by decide), e _ (by omega)]; exact kk z hz
  · intro z hz; rw [ed _ (by decide), e _ (by omega)]; exact l z hz
  · intro z hz; rw [ed _ (by decide), e _ (by omega)]; exact m z hz
  · intro z hz
    obtain ⟨n1, n2, n3, n4⟩ := n z hz
    rw [ed _ (by decide)]
    exact ⟨fun y hy => by rw [e _ (by omega)]; exact n1 y hy, fun y hy => by rw [e _ (by omega)]; exact n2 y hy, by rw [e _ (by omega)]; exact n3, by rw [e _ (by omega)]; exact n4⟩
/-- evenings gone by -/
theorem RI_ev {R2 : Nat → Int32} {e p : Nat} (r : RI R g hh sn nn mn u) (v : isEv R R2 g hh 0 p) (he : R 11 = nI e) (hp : e + p ≤ 999) : RI R2 g hh sn nn mn u := by
  obtain ⟨⟨a1, a2⟩, ⟨b1, b2⟩, ⟨c1, c2⟩, ⟨d1, d2⟩, ⟨f1, f2⟩, ⟨h1, h2⟩, ⟨i1, i2, i3, i4⟩, j, k, l, m, n, o⟩ := r
  have e0 : ∀ k, k ≠ 11 → (k < 6 ∨ 6 + hh ≤ k) → R2 k = R k := fun k h1 h2 => v.2.2 k (by omega) (by omega)
  refine ⟨⟨by rw [e0 12 (by omega) (by omega)]; exact a1, a2⟩, ⟨by rw [e0 25 (by omega) (by omega)]; exact b1, b2⟩, ⟨by rw [e0 34 (by omega) (by omega)]; exact c1, c2⟩, ⟨by rw [e0 55 (by omega) (by omega)]; exact d1, d2⟩, ⟨by rw [e0 80 (by omega) (by omega)]; exact f1, f2⟩, ⟨by rw [e0 111 (by omega) (by omega)]; exact h1, h2⟩, ⟨?_, ?_, by rw [e0 10 (by omega) (by omega)]; exact i3, ?_⟩, ?_, ?_, l.congr (fun q _ hq => e0 q (by omega) (by omega)) c2, m.congr (fun q _ hq => e0 q (by omega) (by omega)) d2, n.congr (fun q _ hq => e0 q (by omega) (by omega)) f2, fun v hv => (o v hv).congr (fun y hy => e0 _ (by omega) (by omega)) a2⟩
  · intro y hy; rw [e0 y (by omega) (by omega)]; exact i1 y hy
  · intro y hy
    obtain ⟨x, x1, x2, x3⟩ := i2 y hy
    by_cases q : y < hh
    · have z := v.1 y q
      rw [Nat.zero_add] at z
      obtain ⟨c, z3, z5⟩ := mor_n (R := R) (b := 0) (j := y) a2
      rw [z, x2, z5, lkx_n x1 z3 (by omega)]
      exact ⟨_, by omega, rfl, fun h => by omega⟩
    · rw [e0 (6 + y) (by omega) (by omega)]; exact ⟨x, x1, x2, x3⟩
  · have z := v.2.1
    rw [Nat.zero_add, he, nI_add] at z
    exact ⟨e + p, hp, z⟩
  · intro y hy; rw [e0 (19 + y) (by omega) (by omega)]; exact j y hy
  · intro y hy; rw [e0 (30 + y) (by omega) (by omega)]; exact k y hy
theorem SM_ev {R2 : Nat → Int32} {e p : Nat} (r : RI R g hh sn nn mn u) (q : SM D R g hh sn nn mn u) (v : isEv R R2 g hh 0 p) (he : R 11 = nI e) : SM (peD D R g hh 0 e p) R2 g hh sn nn mn u := by
  obtain ⟨⟨a1, a2⟩, ⟨b1, b2⟩, ⟨c1, c2⟩, ⟨d1, d2⟩, ⟨f1, f2⟩, ⟨h1, h2⟩, -⟩ := r
  obtain ⟨⟨p1, p2, p3, p4⟩, ⟨q1, q2, q3, q4⟩, y, j, kk, l, m, n⟩ := q
  have e0 : ∀ k, k ≠ 11 → (k < 6 ∨ 6 + hh ≤ k) → R2 k = R k := fun k h1 h2 => v.2.2 k (by omega) (by omega)
  have ed : ∀ a, a ≠ 0 → a ≠ 6 → peD D R g hh 0 e p a = D a := fun a h1 h2 => by unfold peD; rw [wA_o h1, wA_o h2]
  have ez : peD D R g hh 0 e p 0 = fq (D 0 0) (D 0 1) (D 0 2) (nI (e + p)) := by unfold peD; rw [wA_s]
  refine ⟨⟨?_, ?_, ?_, ?_⟩, ⟨?_, ?_, ?_, ?_⟩, ?_, ?_, ?_, ?_, ?_, ?_⟩
  · rw [ez, e0 _ (by omega) (by omega)]; exact p1
  · rw [ez, e0 _ (by omega) (by omega)]; exact p2
  · rw [ez, e0 _ (by omega) (by omega)]; exact p3
  · have z := v.2.1
    rw [Nat.zero_add, he, nI_add] at z
    rw [ez, z]; rfl
  · rw [ed _ (by decide) (by decide), e0 _ (by omega) (by omega)]; exact q1
  · rw [ed _ (by decide) (by decide), e0 _ (by omega) (by omega)]; exact q2
  · rw [ed _ (by decide) (by decide), e0 _ (by omega) (by omega)]; exact q3
  · rw [ed _ (by decide) (by decide), e0 _ (by omega) (by omega)]; exact q4
  · intro z hz
    rw [ed _ (by decide) (by decide), ed _ (by decide) (by decide), ed _ (by decide) (by decide), e0 _ (by omega) (by omega), e0 _ (by omega) (by omega), e0 _ (by omega) (by omega)]; exact y z hz
  · intro z hz
    obtain ⟨j1, j2, j3⟩ := j z hz
    refine ⟨by rw [ed _ (by decide) (by decide), e0 _ (by omega) (by omega)]; exact j1, by rw [ed _ (by decide) (by decide), e0 _ (by omega) (by omega)]; exact j2, ?_⟩
    have w := v.1 z hz
    rw [Nat.zero_add] at w
    rw [w]
    unfold peD
    rw [wA_o (by decide), wA_s]
    unfold peF
    rw [if_pos hz, j3]
  · intro z hz; rw [ed _ (by decide) (by decide), e0 _ (by omega) (by omega)]; exact kk z hz
  · intro z hz; rw [ed _ (by decide) (by decide), e0 _ (by omega) (by omega)]; exact l z hz
  · intro z hz; rw [ed _ (by decide) (by decide), e0 _ (by omega) (by omega)]; exact m z hz
  · intro z hz
    obtain ⟨n1, n2, n3, n4⟩ := n z hz
    rw [ed _ (by decide) (by decide)]
    exact ⟨fun y hy => by rw [e0 _ (by omega) (by omega)]; exact n1 y hy, fun y hy => by rw [e0 _ (by omega) (by omega)]; exact n2 y hy, by rw [e0 _ (by omega) (by omega)]; exact n3, by rw [e0 _ (by omega) (by omega)]; exact n4⟩
/-- a step back -/
theorem rwU_in {k : Nat} (hk : k < 12) : rwU R u k = R (112 + 12 * u + k) := by
  unfold rwU cpR
  rw [if_pos (by omega), upd_ne (by omega)]
  congr 1
theorem rwU_o {k : Nat} (h1 : 12 ≤ k) (h2 : k ≠ 111) : rwU R u k = R k := by
  unfold rwU cpR
  rw [if_neg (by omega), upd_ne h2]
theorem RI_undo (r : RI R g hh sn nn mn (u + 1)) : RI (rwU R u) g hh sn nn mn u := by
  obtain ⟨⟨a1, a2⟩, ⟨b1, b2⟩, ⟨c1, c2⟩, ⟨d1, d2⟩, ⟨f1, f2⟩, ⟨h1, h2⟩, i, j, k, l, m, n, o⟩ := r
  have e : ∀ k, 12 ≤ k → k ≠ 111 → rwU R u k = R k := fun k hk h2 => rwU_o hk h2
  refine ⟨⟨by rw [e 12 (by omega) (by omega)]; exact a1, a2⟩, ⟨by rw [e 25 (by omega) (by omega)]; exact b1, b2⟩, ⟨by rw [e 34 (by omega) (by omega)]; exact c1, c2⟩, ⟨by rw [e 55 (by omega) (by omega)]; exact d1, d2⟩, ⟨by rw [e 80 (by omega) (by omega)]; exact f1, f2⟩, ⟨?_, by omega⟩, (o u (by omega)).congr (fun x hx => rwU_in hx) a2, ?_, ?_, l.congr (fun q _ hq => e q (by omega) (by omega)) c2, m.congr (fun q _ hq => e q (by omega) (by omega)) d2, n.congr (fun q _ hq => e q (by omega) (by omega)) f2, fun v hv => (o v (by omega)).congr (fun y hy => e _ (by omega) (by omega)) a2⟩
  · unfold rwU cpR; rw [if_neg (by omega), upd_eq]
  · intro y hy; rw [e (19 + y) (by omega) (by omega)]; exact j y hy
  · intro y hy; rw [e (30 + y) (by omega) (by omega)]; exact k y hy
theorem SM_undo (r : RI R g hh sn nn mn (u + 1)) (q : SM D R g hh sn nn mn (u + 1)) : SM (sbD D u) (rwU R u) g hh sn nn mn u := by
  obtain ⟨⟨a1, a2⟩, ⟨b1, b2⟩, ⟨c1, c2⟩, ⟨d1, d2⟩, ⟨f1, f2⟩, ⟨h1, h2⟩, -⟩ := r
  obtain ⟨⟨p1, p2, p3, p4⟩, ⟨q1, q2, q3, q4⟩, y, j, kk, l, m, n⟩ := q
  have e : ∀ k, 12 ≤ k → k ≠ 111 → rwU R u k = R k := fun k hk h2 => rwU_o hk h2
  have ed : ∀ a, a ≠ 0 → a ≠ 3 → a ≠ 6 → a ≠ 13 → sbD D u a = D a := fun a h1 h2 h3 h4 => by unfold sbD; rw [wN_o h4, wA_o h1, wA_o h3, wA_o h2]
  have ez : sbD D u 0 = fq (D 0 0) (D 0 1) (D 14 (u * 12 + 10)) (D 14 (u * 12 + 11)) := by unfold sbD; rw [wN_o (by decide), wA_s]
  obtain ⟨o1, o2, o3, o4⟩ := n u (by omega)
  refine ⟨⟨?_, ?_, ?_, ?_⟩, ⟨?_, ?_, ?_, ?_⟩, ?_, ?_, ?_, ?_, ?_, ?_⟩
  · rw [ez, e _ (by omega) (by omega)]; exact p1
  · rw [ez, e _ (by omega) (by omega)]; exact p2
  · rw [ez, rwU_in (by omega)]; exact o3
  · rw [ez, rwU_in (by omega)]; exact o4
  · rw [ed _ (by decide) (by decide) (by decide) (by decide), e _ (by omega) (by omega)]; exact q1
  · rw [ed _ (by decide) (by decide) (by decide) (by decide), e _ (by omega) (by omega)]; exact q2
  · rw [ed _ (by decide) (by decide) (by decide) (by decide), e _ (by omega) (by omega)]; exact q3
  · unfold sbD; rw [wN_s]; unfold rwU cpR; rw [if_neg (by omega), upd_eq]
  · intro z hz
    obtain ⟨y1, y2, y3⟩ := y z hz
    refine ⟨by rw [ed _ (by decide) (by decide) (by decide) (by decide), e _ (by omega) (by omega)]; exact y1, by rw [ed _ (by decide) (by decide) (by decide) (by decide), e _ (by omega) (by omega)]; exact y2, ?_⟩
    rw [rwU_in (by omega)]
    unfold sbD
    rw [wN_o (by decide), wA_o (by decide), wA_o (by decide), wA_s]
    unfold sbF
    rw [if_pos (by omega), Nat.zero_add]
    exact o1 z hz
  · intro z hz
    obtain ⟨y1, y2, y3⟩ := j z hz
    refine ⟨by rw [ed _ (by decide) (by decide) (by decide) (by decide), e _ (by omega) (by omega)]; exact y1, by rw [ed _ (by decide) (by decide) (by decide) (by decide), e _ (by omega) (by omega)]; exact y2, ?_⟩
    rw [rwU_in (by omega)]
    unfold sbD
    rw [wN_o (by decide), wA_o (by decide), wA_s]
    unfold sbF
    rw [if_pos (by omega)]
    exact o2 z hz
  · intro z hz; rw [ed _ (by decide) (by decide) (by decide) (by decide), e _ (by omega) (by omega)]; exact kk z hz
  · intro z hz; rw [ed _ (by decide) (by decide) (by decide) (by decide), e _ (by omega) (by omega)]; exact l z hz
  · intro z hz; rw [ed _ (by decide) (by decide) (by decide) (by decide), e _ (by omega) (by omega)]; exact m z hz
  · intro z hz
    obtain ⟨n1, n2, n3, n4⟩ := n z (by omega)
    rw [ed _ (by decide) (by decide) (by decide) (by decide)]
    exact ⟨fun y hy => by rw [e _ (by omega) (by omega)]; exact n1 y hy, fun y hy => by rw [e _ (by omega) (by omega)]; exact n2 y hy, by rw [e _ (by omega) (by omega)]; exact n3, by rw [e _ (by omega) (by omega)]; exact n4⟩
end SK
