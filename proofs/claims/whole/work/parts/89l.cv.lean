/-! place: the search over all ways, and over the ways that can be best -/
def ud (p : Nat → Nat) (i v : Nat) : Nat → Nat := fun k => if k = i then v else p k
theorem ud_s {p : Nat → Nat} {i v : Nat} : ud p i v i = v := if_pos rfl
theorem ud_o {p : Nat → Nat} {i v k : Nat} (h : k ≠ i) : ud p i v k = p k := if_neg h
abbrev Sch : Type := Int × (Nat → Nat)
def tkS (v : Nat) (p : Nat → Nat) (s : Sch) : Sch := if s.1 < (v : Int) then ((v : Int), p) else s
theorem tkS_hi {v : Nat} {p : Nat → Nat} {s : Sch} (h : (v : Int) ≤ s.1) : tkS v p s = s := if_neg (by omega)
theorem tkS_lo {v : Nat} {p : Nat → Nat} {s : Sch} (h : s.1 < (v : Int)) : tkS v p s = ((v : Int), p) := if_pos h
theorem tkS_le {v : Nat} {p : Nat → Nat} {s : Sch} : (v : Int) ≤ (tkS v p s).1 := by
  unfold tkS
  by_cases h : s.1 < (v : Int)
  · rw [if_pos h]; exact Int.le_refl _
  · rw [if_neg h]; omega
theorem tkS_tk {v1 v2 : Nat} {p1 p2 : Nat → Nat} {s : Sch} : tkS v2 p2 (tkS v1 p1 s) = tkS (if v1 < v2 then v2 else v1) (if v1 < v2 then p2 else p1) s := by
  by_cases h : v1 < v2
  · rw [if_pos h, if_pos h]
    by_cases h1 : s.1 < (v1 : Int)
    · rw [tkS_lo h1, tkS_lo (by show (v1 : Int) < v2; omega), tkS_lo (by omega)]
    · rw [tkS_hi (v := v1) (by omega)]
  · rw [if_neg h, if_neg h]
    exact tkS_hi (Int.le_trans (by omega) tkS_le)
theorem itr_end {σ : Type} {F : Nat → σ → σ} : ∀ n i s, itr F (n + 1) i s = F (i + n) (itr F n i s) := by
  intro n
  induction n with
  | zero => intro i s; rfl
  | succ n ih =>
    intro i s
    show itr F (n + 1) (i + 1) (F i s) = F (i + (n + 1)) (itr F n (i + 1) (F i s))
    rw [ih, show i + 1 + n = i + (n + 1) by omega]
theorem itr_shift {σ : Type} {F : Nat → σ → σ} : ∀ n i s, itr F n (i + 1) s = itr (fun j => F (j + 1)) n i s := by
  intro n
  induction n with
  | zero => intro i s; rfl
  | succ n ih => intro i s; exact ih (i + 1) (F (i + 1) s)
theorem itr_rel {σ τ : Type} {F : Nat → σ → σ} {G : Nat → τ → τ} {I : Nat → σ → τ → Prop} : ∀ n i s t, I i s t → (∀ j s t, i ≤ j → j < i + n → I j s t → I (j + 1) (F j s) (G j t)) → I (i + n) (itr F n i s) (itr G n i t) := by
  intro n
  induction n with
  | zero => intro i s t h _; exact h
  | succ n ih =>
    intro i s t h st
    rw [show i + (n + 1) = i + 1 + n by omega]
    exact ih (i + 1) _ _ (st i s t (Nat.le_refl i) (by omega) h) fun j s t h1 h2 => st j s t (by omega) (by omega)
def wlB (hh : Nat) (P : Nat → Nat → Nat) (i : Nat) : Bool := (List.range hh).any fun j => decide (0 < P i j)
abbrev wlc (hh : Nat) (P : Nat → Nat → Nat) (i : Nat) : Prop := wlB hh P i = true
theorem wlc_iff {hh : Nat} {P : Nat → Nat → Nat} {i : Nat} : wlc hh P i ↔ ∃ j, j < hh ∧ 0 < P i j := by
  simp [wlc, wlB]
def KSr (hh : Nat) (P : Nat → Nat → Nat) : Nat → Nat → (Nat → Nat) → Nat → (Nat → Nat) → Sch → Sch
  | 0, _, _, q, p, s => tkS q p s
  | n + 1, i, c, q, p, s => if wlc hh P i then itr (fun j s => if 0 < P i j then KSr hh P n (i + 1) (ud c j (c j + 1)) (q + P i j + 2 * c j) (ud p i (j + 1)) s else s) hh 0 s else KSr hh P n (i + 1) c q (ud p i 0) s
def MSr (hh : Nat) (P : Nat → Nat → Nat) : Nat → Nat → (Nat → Nat) → Nat → (Nat → Nat) → Sch → Sch
  | 0, _, _, q, p, s => tkS q p s
  | n + 1, i, c, q, p, s => itr (fun e s => if 0 < e ∧ 0 < P i (e - 1) then MSr hh P n (i + 1) (ud c (e - 1) (c (e - 1) + 1)) (q + P i (e - 1) + 2 * c (e - 1)) (ud p i e) s else MSr hh P n (i + 1) c q (ud p i e) s) (hh + 1) 0 s
def xvS (hh : Nat) (P : Nat → Nat → Nat) : Nat → Nat → (Nat → Nat) → Nat
  | 0, _, _ => 0
  | n + 1, i, c => if wlc hh P i then itr (fun j m => if 0 < P i j then (if m < P i j + 2 * c j + xvS hh P n (i + 1) (ud c j (c j + 1)) then P i j + 2 * c j + xvS hh P n (i + 1) (ud c j (c j + 1)) else m) else m) hh 0 0 else xvS hh P n (i + 1) c
section KP
variable {hh : Nat} {P : Nat → Nat → Nat}
theorem xvS_mono : ∀ n i (c c2 : Nat → Nat), (∀ j, c j ≤ c2 j) → xvS hh P n i c ≤ xvS hh P n i c2 := by
  intro n
  induction n with
  | zero => intro i c c2 _; exact Nat.le_refl _
  | succ n ih =>
    intro i c c2 h
    unfold xvS
    by_cases w : wlc hh P i
    · rw [if_pos w, if_pos w]
      refine itr_rel (I := fun _ (a b : Nat) => a ≤ b) hh 0 0 0 (Nat.le_refl _) (fun j a b _ _ hab => ?_)
      have h1 := h j
      have h2 := ih (i + 1) (ud c j (c j + 1)) (ud c2 j (c2 j + 1)) (fun k => by
        unfold ud
        by_cases e : k = j
        · rw [if_pos e, if_pos e]; omega
        · rw [if_neg e, if_neg e]; exact h k)
      by_cases q : 0 < P i j
      · simp only [q, if_true]
        split <;> split <;> omega
      · simp only [q, if_false]
        exact hab
    · rw [if_neg w, if_neg w]
      exact ih _ _ _ h
theorem KS_form : ∀ n i (c : Nat → Nat) (q : Nat) (p : Nat → Nat), ∃ w, ∀ s, KSr hh P n i c q p s = tkS (q + xvS hh P n i c) w s := by
  intro n
  induction n with
  | zero => intro i c q p; exact ⟨p, fun s => rfl⟩
  | succ n ih =>
    intro i c q p
    by_cases w : wlc hh P i
    · have key : ∀ k, k ≤ hh → ∀ m, m = itr (fun j m => if 0 < P i j then (if m < P i j + 2 * c j + xvS hh P n (i + 1) (ud c j (c j + 1)) then P i j + 2 * c j + xvS hh P n (i + 1) (ud c j (c j + 1)) else m) else m) k 0 0 →
        ((∃ j, j < k ∧ 0 < P i j) ∧ ∃ w, ∀ s, itr (fun j s => if 0 < P i j then KSr hh P n (i + 1) (ud c j (c j + 1)) (q + P i j + 2 * c j) (ud p i (j + 1)) s else s) k 0 s = tkS (q + m) w s) ∨
        ((∀ j, j < k → ¬ 0 < P i j) ∧ m = 0 ∧ ∀ s, itr (fun j s => if 0 < P i j then KSr hh P n (i + 1) (ud c j (c j + 1)) (q + P i j + 2 * c j) (ud p i (j + 1)) s else s) k 0 s = s) := by
        intro k
        induction k with
        | zero => intro _ m hm; exact Or.inr ⟨fun j hj => absurd hj (Nat.not_lt_zero _), hm, fun s => rfl⟩
        | succ k ihk =>
          intro hk m hm
          rw [itr_end, Nat.zero_add] at hm
          obtain ⟨m1, hm1⟩ : ∃ m1, m1 = itr (fun j m => if 0 < P i j then (if m < P i j + 2 * c j + xvS hh P n (i + 1) (ud c j (c j + 1)) then P i j + 2 * c j + xvS hh P n (i + 1) (ud c j (c j + 1)) else m) else m) k 0 0 := ⟨_, rfl⟩
          have IH := ihk (by omega) m1 hm1
          rw [← hm1] at hm
          by_cases z : 0 < P i k
          · simp only [z, if_true] at hm
            obtain ⟨w2, hw2⟩ := ih (i + 1) (ud c k (c k + 1)) (q + P i k + 2 * c k) (ud p i (k + 1))
            generalize xvS hh P n (i + 1) (ud c k (c k + 1)) = x at hm hw2
            refine Or.inl ⟨⟨k, by omega, z⟩, ?_⟩
            rcases IH with ⟨_, w1, hw1⟩ | ⟨_, h0, hs⟩
            · refine ⟨if q + m1 < q + P i k + 2 * c k + x then w2 else w1, fun s => ?_⟩
              rw [itr_end, Nat.zero_add, hw1]
              simp only [z, if_true]
              rw [hw2, tkS_tk]
              congr 1
              rw [hm]
              split <;> split <;> omega
            · refine ⟨w2, fun s => ?_⟩
              rw [itr_end, Nat.zero_add, hs]
              simp only [z, if_true]
              rw [hw2]
              congr 1
              rw [hm]
              split <;> omega
          · simp only [z, if_false] at hm
            rcases IH with ⟨⟨j, hj, hj2⟩, w1, hw1⟩ | ⟨h1, h0, hs⟩
            · refine Or.inl ⟨⟨j, by omega, hj2⟩, w1, fun s => ?_⟩
              rw [itr_end, Nat.zero_add, hw1, hm]
              simp only [z, if_false]
            · refine Or.inr ⟨fun j hj => ?_, by omega, fun s => ?_⟩
              · by_cases e : j = k
                · rw [e]; exact z
                · exact h1 j (by omega)
              · rw [itr_end, Nat.zero_add, hs]
                simp only [z, if_false]
      rcases key hh (Nat.le_refl _) _ rfl with ⟨_, w2, h2⟩ | ⟨h1, _⟩
      · refine ⟨w2, fun s => ?_⟩
        unfold KSr xvS
        rw [if_pos w, if_pos w]
        exact h2 s
      · obtain ⟨j, hj, hj2⟩ := wlc_iff.mp w
        exact absurd hj2 (h1 j hj)
    · obtain ⟨w2, h2⟩ := ih (i + 1) c q (ud p i 0)
      refine ⟨w2, fun s => ?_⟩
      unfold KSr xvS
      rw [if_neg w, if_neg w]
      exact h2 s
theorem KSr_s {n i : Nat} {c : Nat → Nat} {q : Nat} {p : Nat → Nat} {s : Sch} : KSr hh P (n + 1) i c q p s = if wlc hh P i then itr (fun j s => if 0 < P i j then KSr hh P n (i + 1) (ud c j (c j + 1)) (q + P i j + 2 * c j) (ud p i (j + 1)) s else s) hh 0 s else KSr hh P n (i + 1) c q (ud p i 0) s := rfl
theorem MS_KS : ∀ n i (c : Nat → Nat) (q : Nat) (p : Nat → Nat) (s : Sch), MSr hh P n i c q p s = KSr hh P n i c q p s := by
  intro n
  induction n with
  | zero => intro i c q p s; rfl
  | succ n ih =>
    intro i c q p s
    unfold MSr
    simp only [ih]
    show itr _ hh (0 + 1) _ = _
    rw [itr_shift]
    simp only [Nat.succ_ne_zero, Nat.add_sub_cancel, Nat.lt_irrefl, false_and, if_false, Nat.succ_pos, true_and]
    rw [KSr_s]
    obtain ⟨m0, hm0⟩ : ∃ m0, m0 = q + xvS hh P n (i + 1) c := ⟨_, rfl⟩
    by_cases w : wlc hh P i
    · rw [if_pos w]
      have R := itr_rel (F := fun j s => if 0 < P i j then KSr hh P n (i + 1) (ud c j (c j + 1)) (q + P i j + 2 * c j) (ud p i (j + 1)) s else KSr hh P n (i + 1) c q (ud p i (j + 1)) s) (G := fun j s => if 0 < P i j then KSr hh P n (i + 1) (ud c j (c j + 1)) (q + P i j + 2 * c j) (ud p i (j + 1)) s else s) (I := fun k (a b : Sch) => (a = b ∨ (a.1 ≤ (m0 : Int) ∧ b.1 ≤ (m0 : Int))) ∧ ((∃ j, j < k ∧ 0 < P i j) → a = b ∧ (m0 : Int) < a.1)) hh 0 (KSr hh P n (i + 1) c q (ud p i 0) s) s ?_ ?_
      · obtain ⟨j, hj, hj2⟩ := wlc_iff.mp w
        exact (R.2 ⟨j, by omega, hj2⟩).1
      · obtain ⟨w0, hw0⟩ := KS_form n (i + 1) c q (ud p i 0)
        rw [hw0, ← hm0]
        refine ⟨?_, fun ⟨j, hj, _⟩ => absurd hj (Nat.not_lt_zero _)⟩
        by_cases z : s.1 < (m0 : Int)
        · rw [tkS_lo z]; exact Or.inr ⟨Int.le_refl _, by omega⟩
        · rw [tkS_hi (by omega)]; exact Or.inl rfl
      · intro k a b _ hk ⟨h1, h2⟩
        by_cases z : 0 < P i k
        · simp only [z, if_true]
          obtain ⟨w1, hw1⟩ := KS_form n (i + 1) (ud c k (c k + 1)) (q + P i k + 2 * c k) (ud p i (k + 1))
          have hmono := xvS_mono (hh := hh) (P := P) n (i + 1) c (ud c k (c k + 1)) (fun x => by
            unfold ud
            by_cases e : x = k
            · rw [if_pos e, e]; omega
            · rw [if_neg e]; exact Nat.le_refl _)
          rw [hw1, hw1]
          generalize hv : q + P i k + 2 * c k + xvS hh P n (i + 1) (ud c k (c k + 1)) = v
          have hv2 : m0 < v := by omega
          have e : tkS v w1 a = tkS v w1 b := by
            rcases h1 with h1 | ⟨h1, h3⟩
            · rw [h1]
            · rw [tkS_lo (by omega), tkS_lo (by omega)]
          refine ⟨Or.inl e, fun _ => ⟨e, ?_⟩⟩
          have := @tkS_le v w1 a
          omega
        · simp only [z, if_false]
          obtain ⟨w1, hw1⟩ := KS_form n (i + 1) c q (ud p i (k + 1))
          rw [hw1, ← hm0]
          have back : (∃ j, j < k + 1 ∧ 0 < P i j) → ∃ j, j < k ∧ 0 < P i j := fun ⟨j, hj, hj2⟩ => ⟨j, by
            by_cases e : j = k
            · rw [e] at hj2; exact absurd hj2 z
            · omega, hj2⟩
          refine ⟨?_, fun hx => ?_⟩
          · by_cases y : a.1 < (m0 : Int)
            · rw [tkS_lo y]
              refine Or.inr ⟨Int.le_refl _, ?_⟩
              rcases h1 with h1 | ⟨_, h3⟩
              · rw [← h1]; omega
              · exact h3
            · rw [tkS_hi (by omega)]; exact h1
          · obtain ⟨e1, e2⟩ := h2 (back hx)
            rw [tkS_hi (by omega)]
            exact ⟨e1, e2⟩
    · rw [if_neg w]
      have nz : ∀ j, j < hh → ¬ 0 < P i j := fun j hj z => w (wlc_iff.mpr ⟨j, hj, z⟩)
      obtain ⟨w0, hw0⟩ := KS_form n (i + 1) c q (ud p i 0)
      rw [hw0, ← hm0]
      refine itr_inv (I := fun _ (a : Sch) => a = tkS m0 w0 s) hh 0 _ rfl (fun j a _ hj ha => ?_)
      obtain ⟨w1, hw1⟩ := KS_form n (i + 1) c q (ud p i (j + 1))
      simp only [nz j (by omega), if_false]
      rw [hw1, ← hm0, ha]
      exact tkS_hi tkS_le
end KP
