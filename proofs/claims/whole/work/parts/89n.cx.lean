/-! place: the reference finds the first best way -/
section NP
variable {g hh : Nat} {R : Nat → Int32}
theorem plR_hi {L R2 : Nat → Int32} {k : Nat} (hk : k < g) : plR L g R2 (624 + k) = L k - 1 := by
  have := itr_inv (F := fun i (R : Nat → Int32) => upd R (624 + i) (L i - 1)) (I := fun i X => ∀ k, k < i → X (624 + k) = L k - 1) g 0 (cpR R2 0 624 12) (fun k hk => absurd hk (Nat.not_lt_zero _)) (fun j X _ _ e k hk => by
    show upd X (624 + j) (L j - 1) (624 + k) = _
    by_cases q : k = j
    · rw [q]; simp [upd]
    · rw [upd_ne (by omega)]; exact e k (by omega))
  rw [Nat.zero_add] at this
  exact this k hk
theorem plR_wet {L R2 : Nat → Int32} (h6 : g ≤ 6) : plR L g R2 634 = R2 10 := by
  have := itr_inv (F := fun i (R : Nat → Int32) => upd R (624 + i) (L i - 1)) (I := fun _ X => X 634 = R2 10) g 0 (cpR R2 0 624 12) (cpR_i (dst := 624) (j := 10) (by decide)) (fun j X _ hj e => by
    show upd X (624 + j) (L j - 1) 634 = _
    rw [upd_ne (by omega)]; exact e)
  exact this
def RmP (g : Nat) (R : Nat → Int32) (t : Pl) (s : Sch) : Prop := t.1.toInt = s.1 ∧ (0 ≤ s.1 → ∀ k, k < g → t.2.1 k = nI (s.2 k)) ∧ ∀ k, k < 624 → t.2.2 k = R k
theorem SmF_b {p : Nat → Nat} (h6 : g ≤ 6) (h4 : hh ≤ 4) : SmF (vaP (stP R) p g) hh ≤ 400 := by
  have h1 : ∀ j, j < hh → vaP (stP R) p g j ≤ 66 := fun j _ => by
    have a := AcP_le (P := stP R) (p := p) (j := j) (fun i j => stP_n.2) g
    have b := NcP_le (P := stP R) (p := p) (j := j) g
    have c : NcP (stP R) p j g * (NcP (stP R) p j g - 1) ≤ 6 * 6 := Nat.mul_le_mul (by omega) (by omega)
    unfold vaP; omega
  have h2 := SmF_le (f := vaP (stP R) p g) hh h1
  omega
theorem vs_tk {L : Nat → Int32} {p : Nat → Nat} {t : Pl} {s : Sch} (h6 : g ≤ 6) (h4 : hh ≤ 4) (hL : ∀ k, k < g → L k = nI (p k) ∧ p k ≤ hh) (r : RmP g R t s) : RmP g R (vsM g hh L t) (tkS (SmF (vaP (stP R) p g) hh) p s) := by
  obtain ⟨m, B, R2⟩ := t
  obtain ⟨r1, r2, r3⟩ := r
  have r1 : m.toInt = s.1 := r1
  have r3 : ∀ k, k < 624 → R2 k = R k := r3
  have ev : plV (plR L g R2) g hh = nI (SmF (vaP (stP R) p g) hh) := pl_v h6 h4 (fun k hk => (plR_o hk).trans (r3 k hk)) ((plR_wet h6).trans (r3 10 (by decide))) (fun k hk => ⟨by rw [plR_hi hk, (hL k hk).1], by have := (hL k hk).2; omega⟩)
  have hb := SmF_b (R := R) (p := p) h6 h4
  obtain ⟨v, hv⟩ : ∃ v, v = SmF (vaP (stP R) p g) hh := ⟨_, rfl⟩
  rw [← hv] at ev hb ⊢
  have e1 : (nI v).toInt = v := nI_toInt (by omega)
  have er : ∀ k, k < 624 → plR L g R2 k = R k := fun k hk => (plR_o hk).trans (r3 k hk)
  show RmP g R (if m < plV (plR L g R2) g hh then plV (plR L g R2) g hh else m, if m < plV (plR L g R2) g hh then cp6 L B else B, plR L g R2) (tkS v p s)
  rw [ev]
  by_cases z : s.1 < (v : Int)
  · have z2 : m < nI v := i32_lt.mpr (by omega)
    rw [if_pos z2, if_pos z2, tkS_lo z]
    refine ⟨e1, fun _ k hk => ?_, er⟩
    show cp6 L B k = nI (p k)
    rw [← (hL k hk).1]
    exact itr_up (f := L) 6 k (by omega)
  · have z2 : ¬ m < nI v := fun y => z (by have := i32_lt.mp y; omega)
    rw [if_neg z2, if_neg z2, tkS_hi (by omega)]
    exact ⟨r1, r2, er⟩
theorem dM_MS (h6 : g ≤ 6) (h4 : hh ≤ 4) : ∀ n, n ≤ g → ∀ (L : Nat → Int32) (p c : Nat → Nat) (q : Nat) (t : Pl) (s : Sch), (∀ k, k < g - n → L k = nI (p k) ∧ p k ≤ hh) → (∀ j, j < hh → c j = NcP (stP R) p j (g - n)) → q = SmF (vaP (stP R) p (g - n)) hh → RmP g R t s → RmP g R (dfsM g hh n L t) (MSr hh (stP R) n (g - n) c q p s) := by
  intro n
  induction n with
  | zero =>
    intro _ L p c q t s hL hc hq r
    rw [Nat.sub_zero] at hL hq
    rw [hq]
    exact vs_tk h6 h4 hL r
  | succ n ih =>
    intro hn L p c q t s hL hc hq r
    obtain ⟨i, hi⟩ : ∃ i, i = g - (n + 1) := ⟨_, rfl⟩
    have hi2 : g - n = i + 1 := by omega
    rw [← hi] at hL hc hq ⊢
    rw [hi2] at ih
    show RmP g R (itr (fun d s => dfsM g hh n (upd L (g - (n + 1)) (nI d)) s) (hh + 1) 0 t) (itr (fun e s => if 0 < e ∧ 0 < stP R i (e - 1) then MSr hh (stP R) n (i + 1) (ud c (e - 1) (c (e - 1) + 1)) (q + stP R i (e - 1) + 2 * c (e - 1)) (ud p i e) s else MSr hh (stP R) n (i + 1) c q (ud p i e) s) (hh + 1) 0 s)
    rw [← hi]
    refine itr_rel (I := fun _ a b => RmP g R a b) (hh + 1) 0 t s r (fun e t s _ he r => ?_)
    have hL2 : ∀ k, k < i + 1 → upd L i (nI e) k = nI (ud p i e k) ∧ ud p i e k ≤ hh := fun k hk => by
      by_cases z : k = i
      · rw [z, ud_s]; exact ⟨by simp [upd], by omega⟩
      · rw [upd_ne z, ud_o z]; exact hL k (by omega)
    by_cases z : 0 < e ∧ 0 < stP R i (e - 1)
    · rw [if_pos z]
      obtain ⟨z1, z2⟩ := z
      obtain ⟨a, rfl⟩ : ∃ a, e = a + 1 := ⟨e - 1, by omega⟩
      rw [Nat.add_sub_cancel] at z2 ⊢
      refine ih (by omega) _ _ _ _ t s hL2 (fun j hj => ?_) ?_ r
      · rw [NcP_s1 z2]
        unfold ud
        by_cases y : j = a
        · rw [if_pos y, if_pos y, hc a (by omega)]
        · rw [if_neg y, if_neg y, hc j hj]
      · rw [SmF_ch (f := vaP (stP R) p i) (a := a) (x := stP R i a + 2 * NcP (stP R) p a i) hh (by omega) (fun j _ hj => vaP_o hj) (vaP_a z2), hq, hc a (by omega)]; omega
    · rw [if_neg z]
      have z2 : e = 0 ∨ stP R i (e - 1) = 0 := by
        by_cases y : e = 0
        · exact Or.inl y
        · exact Or.inr (by
            have : ¬ 0 < stP R i (e - 1) := fun y2 => z ⟨by omega, y2⟩
            omega)
      refine ih (by omega) _ _ _ _ t s hL2 (fun j hj => ?_) ?_ r
      · rw [NcP_s0 z2]; exact hc j hj
      · rw [hq]; exact (SmF_congr hh fun j _ => vaP_s0 z2).symm
/-- what place finds: the best gain, the first way to it -/
theorem plS_f (h6 : g ≤ 6) (h4 : hh ≤ 4) : ∃ (v : Nat) (w : Nat → Nat), (∀ s, KSr hh (stP R) g 0 (fun _ => 0) 0 (fun _ => 0) s = tkS v w s) ∧ ∀ B0, (plS g hh R B0).1.toInt = v ∧ (∀ k, k < g → (plS g hh R B0).2.1 k = nI (w k)) ∧ ∀ k, k < 624 → (plS g hh R B0).2.2 k = R k := by
  obtain ⟨w, hw⟩ := KS_form (hh := hh) (P := stP R) g 0 (fun _ => 0) 0 (fun _ => 0)
  refine ⟨_, w, hw, fun B0 => ?_⟩
  obtain ⟨v, hv⟩ : ∃ v, v = 0 + xvS hh (stP R) g 0 (fun _ => 0) := ⟨_, rfl⟩
  rw [← hv] at hw ⊢
  have z0 : SmF (vaP (stP R) (fun _ => 0) 0) hh = 0 := by
    have := SmF_le (f := vaP (stP R) (fun _ => 0) 0) (M := 0) hh (fun j _ => Nat.le_refl _)
    omega
  have K := dM_MS (R := R) h6 h4 g (Nat.le_refl g) (fun _ => 0) (fun _ => 0) (fun _ => 0) 0 (-1, B0, R) (-1, fun _ => 0) (fun k hk => by omega) (fun j _ => by rw [Nat.sub_self]; rfl) (by rw [Nat.sub_self, z0]) ⟨show ((-1 : Int32)).toInt = -1 by decide, fun z => absurd z (show ¬ (0 : Int) ≤ -1 by decide), fun k _ => rfl⟩
  rw [Nat.sub_self, MS_KS, hw, tkS_lo (by show (-1 : Int) < v; omega)] at K
  exact ⟨K.1, K.2.1 (by show (0 : Int) ≤ v; omega), K.2.2⟩
end NP
