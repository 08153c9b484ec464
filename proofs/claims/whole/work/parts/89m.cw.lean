/-! place: the reference's search by numbers -/
def AcP (P : Nat → Nat → Nat) (p : Nat → Nat) (j : Nat) : Nat → Nat
  | 0 => 0
  | i + 1 => AcP P p j i + if p i = j + 1 then P i j else 0
def NcP (P : Nat → Nat → Nat) (p : Nat → Nat) (j : Nat) : Nat → Nat
  | 0 => 0
  | i + 1 => NcP P p j i + if p i = j + 1 ∧ 0 < P i j then 1 else 0
def SmF (f : Nat → Nat) : Nat → Nat
  | 0 => 0
  | j + 1 => SmF f j + f j
def vaP (P : Nat → Nat → Nat) (p : Nat → Nat) (i j : Nat) : Nat := AcP P p j i + NcP P p j i * (NcP P p j i - 1)
theorem AcP_s {P : Nat → Nat → Nat} {p : Nat → Nat} {j i : Nat} : AcP P p j (i + 1) = AcP P p j i + if p i = j + 1 then P i j else 0 := rfl
theorem NcP_s {P : Nat → Nat → Nat} {p : Nat → Nat} {j i : Nat} : NcP P p j (i + 1) = NcP P p j i + if p i = j + 1 ∧ 0 < P i j then 1 else 0 := rfl
theorem SmF_s {f : Nat → Nat} {j : Nat} : SmF f (j + 1) = SmF f j + f j := rfl
section MP
variable {P : Nat → Nat → Nat} {p p2 : Nat → Nat} {g hh : Nat} {R : Nat → Int32}
theorem AcP_congr {j : Nat} : ∀ i, (∀ k, k < i → p2 k = p k) → AcP P p2 j i = AcP P p j i := by
  intro i
  induction i with
  | zero => intro _; rfl
  | succ i ih => intro h; unfold AcP; rw [ih fun k hk => h k (by omega), h i (by omega)]
theorem NcP_congr {j : Nat} : ∀ i, (∀ k, k < i → p2 k = p k) → NcP P p2 j i = NcP P p j i := by
  intro i
  induction i with
  | zero => intro _; rfl
  | succ i ih => intro h; unfold NcP; rw [ih fun k hk => h k (by omega), h i (by omega)]
theorem NcP_le {j : Nat} : ∀ i, NcP P p j i ≤ i := by
  intro i
  induction i with
  | zero => exact Nat.le_refl _
  | succ i ih => unfold NcP; split <;> omega
theorem AcP_le {j : Nat} (hP : ∀ i j, P i j ≤ 5) : ∀ i, AcP P p j i ≤ 5 * i := by
  intro i
  induction i with
  | zero => exact Nat.le_refl _
  | succ i ih => have := hP i j; unfold AcP; split <;> omega
theorem SmF_congr {f f2 : Nat → Nat} : ∀ n, (∀ j, j < n → f2 j = f j) → SmF f2 n = SmF f n := by
  intro n
  induction n with
  | zero => intro _; rfl
  | succ n ih => intro h; rw [SmF_s, SmF_s, ih fun k hk => h k (by omega), h n (by omega)]
theorem SmF_ch {f f2 : Nat → Nat} {a x : Nat} : ∀ n, a < n → (∀ j, j < n → j ≠ a → f2 j = f j) → f2 a = f a + x → SmF f2 n = SmF f n + x := by
  intro n
  induction n with
  | zero => intro h; exact absurd h (Nat.not_lt_zero _)
  | succ n ih =>
    intro h h1 h2
    rw [SmF_s, SmF_s]
    by_cases e : a = n
    · rw [SmF_congr (f := f) (f2 := f2) n fun j hj => h1 j (by omega) (by omega), ← e, h2]; omega
    · rw [ih (by omega) (fun j hj hj2 => h1 j (by omega) hj2) h2, h1 n (by omega) (by omega)]; omega
theorem SmF_le {f : Nat → Nat} {M : Nat} : ∀ n, (∀ j, j < n → f j ≤ M) → SmF f n ≤ M * n := by
  intro n
  induction n with
  | zero => intro _; exact Nat.le_refl _
  | succ n ih =>
    intro h
    have h1 := ih fun j hj => h j (by omega)
    have h2 := h n (by omega)
    rw [SmF_s, Nat.mul_succ]; omega
theorem nn1 (N : Nat) : (N + 1) * (N + 1 - 1) = N * (N - 1) + 2 * N := by
  cases N with
  | zero => rfl
  | succ k =>
    rw [Nat.add_sub_cancel, Nat.add_sub_cancel]
    rw [Nat.add_mul (k + 1) 1 (k + 1), Nat.mul_add (k + 1) k 1]; omega
theorem vaP_s0 {i j e : Nat} (h : e = 0 ∨ P i (e - 1) = 0) : vaP P (ud p i e) (i + 1) j = vaP P p i j := by
  have cg : ∀ k, k < i → ud p i e k = p k := fun k hk => ud_o (by omega)
  unfold vaP
  rw [AcP_s, NcP_s, AcP_congr i cg, NcP_congr i cg, ud_s]
  by_cases q : e = j + 1
  · have z : P i j = 0 := by
      rcases h with h | h
      · omega
      · rw [q] at h; exact h
    rw [if_pos q, z, if_neg (by omega)]; rfl
  · rw [if_neg q, if_neg (fun z => q z.1)]; rfl
theorem NcP_s0 {i j e : Nat} (h : e = 0 ∨ P i (e - 1) = 0) : NcP P (ud p i e) j (i + 1) = NcP P p j i := by
  have cg : ∀ k, k < i → ud p i e k = p k := fun k hk => ud_o (by omega)
  have nz : ¬ (e = j + 1 ∧ 0 < P i j) := by
    rintro ⟨q, z⟩
    rcases h with h | h
    · omega
    · rw [q] at h; rw [show j + 1 - 1 = j from rfl] at h; omega
  rw [NcP_s, NcP_congr i cg, ud_s, if_neg nz]; rfl
theorem NcP_s1 {i j a : Nat} (h : 0 < P i a) : NcP P (ud p i (a + 1)) j (i + 1) = ud (fun j => NcP P p j i) a (NcP P p a i + 1) j := by
  have cg : ∀ k, k < i → ud p i (a + 1) k = p k := fun k hk => ud_o (by omega)
  rw [NcP_s, NcP_congr i cg, ud_s]
  by_cases q : j = a
  · rw [q, ud_s, if_pos ⟨rfl, h⟩]
  · rw [ud_o q, if_neg (by omega)]; rfl
theorem vaP_o {i j a : Nat} (q : j ≠ a) : vaP P (ud p i (a + 1)) (i + 1) j = vaP P p i j := by
  have cg : ∀ k, k < i → ud p i (a + 1) k = p k := fun k hk => ud_o (by omega)
  unfold vaP
  rw [AcP_s, NcP_s, AcP_congr i cg, NcP_congr i cg, ud_s, if_neg (by omega), if_neg (by omega)]; rfl
theorem vaP_a {i a : Nat} (h : 0 < P i a) : vaP P (ud p i (a + 1)) (i + 1) a = vaP P p i a + (P i a + 2 * NcP P p a i) := by
  have cg : ∀ k, k < i → ud p i (a + 1) k = p k := fun k hk => ud_o (by omega)
  unfold vaP
  rw [AcP_s, NcP_s, AcP_congr i cg, NcP_congr i cg, ud_s, if_pos rfl, if_pos ⟨rfl, h⟩, nn1]; omega
theorem pr_2 : ∀ N, N ≤ 6 → (2 : Int32) * (nI N * (nI N - 1) / 2) = nI (N * (N - 1)) := by decide +kernel
theorem nI_p1 {x j : Nat} (hx : x ≤ 4) (hj : j < 4) : (nI x - 1 = nI j) ↔ x = j + 1 := by
  have : ∀ x, x ≤ 4 → ∀ j, j < 4 → ((nI x - 1 = nI j) ↔ x = j + 1) := by decide +kernel
  exact this x hx j hj
/-- the staying of the guests by numbers -/
def stP (R : Nat → Int32) (i j : Nat) : Nat := nb (sts R i j (R 10))
theorem stP_n {i j : Nat} : bsx (sts R i j (R 10)) = nI (stP R i j) ∧ stP R i j ≤ 5 := nb_stb _ _ _
theorem stP_c {R2 : Nat → Int32} {i j : Nat} {w : Int32} (e : ∀ k, k < 624 → R2 k = R k) (hi : i < 6) (hj : j < 4) : sts R2 i j w = sts R i j w := by
  unfold sts; rw [e _ (by omega), e _ (by omega), e _ (by omega), e _ (by omega)]
theorem pl_v {R2 : Nat → Int32} (h6 : g ≤ 6) (h4 : hh ≤ 4) (e : ∀ k, k < 624 → R2 k = R k) (e2 : R2 634 = R 10) (e3 : ∀ k, k < g → R2 (624 + k) = nI (p k) - 1 ∧ p k ≤ 4) : plV R2 g hh = nI (SmF (vaP (stP R) p g) hh) := by
  have A : ∀ j, j < 4 → itr (cm1 R2 624 j) g 0 0 = nI (AcP (stP R) p j g) := fun j hj => by
    have := itr_inv (F := cm1 R2 624 j) (I := fun k x => x = nI (AcP (stP R) p j k)) g 0 0 rfl (fun k x _ hk hx => by
      show cm1 R2 624 j k x = nI (AcP (stP R) p j (k + 1))
      rw [AcP_s]; unfold cm1
      have q := nI_p1 (e3 k (by omega)).2 hj
      rw [hx, (e3 k (by omega)).1, show R2 (624 + 10) = R 10 from e2, stP_c e (by omega) hj, stP_n.1]
      by_cases z : p k = j + 1
      · rw [if_pos (q.mpr z), if_pos z, nI_add]
      · rw [if_neg (fun y => z (q.mp y)), if_neg z]; exact nI_add _ 0)
    rw [Nat.zero_add] at this
    exact this
  have B : ∀ j, j < 4 → itr (cm2 R2 624 j) g 0 0 = nI (NcP (stP R) p j g) := fun j hj => by
    have := itr_inv (F := cm2 R2 624 j) (I := fun k x => x = nI (NcP (stP R) p j k)) g 0 0 rfl (fun k x _ hk hx => by
      show cm2 R2 624 j k x = nI (NcP (stP R) p j (k + 1))
      rw [NcP_s]; unfold cm2
      have q := nI_p1 (e3 k (by omega)).2 hj
      have q2 : (0 : Int32) < nI (stP R k j) ↔ 0 < stP R k j := by
        have := (stP_n (R := R) (i := k) (j := j)).2
        have h5 : ∀ x, x ≤ 5 → ((0 : Int32) < nI x ↔ 0 < x) := by decide
        exact h5 _ this
      rw [hx, (e3 k (by omega)).1, show R2 (624 + 10) = R 10 from e2, stP_c e (by omega) hj, stP_n.1]
      by_cases z : p k = j + 1 ∧ 0 < stP R k j
      · rw [if_pos ⟨q.mpr z.1, q2.mpr z.2⟩, if_pos z]; exact nI_add _ 1
      · rw [if_neg (fun y => z ⟨q.mp y.1, q2.mp y.2⟩), if_neg z]; exact nI_add _ 0)
    rw [Nat.zero_add] at this
    exact this
  unfold plV
  have := itr_inv (F := fun j s => s + (cmo R2 g 624 j 0 + 2 * cmo R2 g 624 j 1)) (I := fun k x => x = nI (SmF (vaP (stP R) p g) k)) hh 0 0 rfl (fun k x _ hk hx => by
    show x + (cmo R2 g 624 k 0 + 2 * cmo R2 g 624 k 1) = nI (SmF (vaP (stP R) p g) (k + 1))
    rw [hx, cmo_0, cmo_1, A k (by omega), B k (by omega), pr_2 _ (Nat.le_trans (NcP_le g) h6), nI_add, nI_add]
    rfl)
  rw [Nat.zero_add] at this
  exact this
end MP
