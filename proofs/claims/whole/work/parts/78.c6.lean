/-! evenings in numbers -/
section PS
variable {R R2 : Nat → Int32} {g hh b j : Nat}
theorem cm1_n : ∀ n i s, ∃ c, c ≤ s + 5 * n ∧ itr (cm1 R b j) n i (nI s) = nI c := by
  intro n
  induction n with
  | zero => intro i s; exact ⟨s, by omega, rfl⟩
  | succ n ih =>
    intro i s
    unfold itr
    have e : ∃ x, x ≤ 5 ∧ cm1 R b j i (nI s) = nI (s + x) := by
      unfold cm1
      by_cases q : R (b + i) = nI j
      · rw [if_pos q]
        obtain ⟨h1, h2⟩ := nb_stb (R (13 + i)) (R (19 + i)) (nd (R (26 + j)) (R (30 + j)) (R (b + 10)))
        refine ⟨_, h2, ?_⟩
        unfold sts
        rw [h1, nI_add]
      · rw [if_neg q, Int32.add_zero]; exact ⟨0, by omega, rfl⟩
    obtain ⟨x, h1, h2⟩ := e
    rw [h2]
    obtain ⟨c, h3, h4⟩ := ih (i + 1) (s + x)
    exact ⟨c, by omega, h4⟩
theorem cm2_n : ∀ n i s, ∃ c, c ≤ s + n ∧ itr (cm2 R b j) n i (nI s) = nI c := by
  intro n
  induction n with
  | zero => intro i s; exact ⟨s, by omega, rfl⟩
  | succ n ih =>
    intro i s
    unfold itr
    have e : ∃ x, x ≤ 1 ∧ cm2 R b j i (nI s) = nI (s + x) := by
      unfold cm2
      by_cases q : R (b + i) = nI j ∧ 0 < bsx (sts R i j (R (b + 10)))
      · rw [if_pos q]; exact ⟨1, by omega, nI_1 s⟩
      · rw [if_neg q, Int32.add_zero]; exact ⟨0, by omega, rfl⟩
    obtain ⟨x, h1, h2⟩ := e
    rw [h2]
    obtain ⟨c, h3, h4⟩ := ih (i + 1) (s + x)
    exact ⟨c, by omega, h4⟩
theorem pr_n : ∀ n, n ≤ 6 → ∃ p, p ≤ 15 ∧ nI n * (nI n - 1) / 2 = nI p := by
  have : ∀ n, n < 7 → nI n * (nI n - 1) / 2 = nI (n * (n - 1) / 2) ∧ n * (n - 1) / 2 ≤ 15 := by decide
  intro n hn
  exact ⟨_, (this n (by omega)).2, (this n (by omega)).1⟩
theorem cmo_n0 (h6 : g ≤ 6) : ∃ c, c ≤ 30 ∧ cmo R g b j 0 = nI c := by
  rw [cmo_0]
  obtain ⟨c, h1, h2⟩ := cm1_n (R := R) (b := b) (j := j) g 0 0
  exact ⟨c, by omega, h2⟩
theorem cmo_n1 (h6 : g ≤ 6) : ∃ c, c ≤ 15 ∧ cmo R g b j 1 = nI c := by
  rw [cmo_1]
  obtain ⟨c, h1, h2⟩ := cm2_n (R := R) (b := b) (j := j) g 0 0
  rw [show (0 : Int32) = nI 0 from rfl, h2]
  exact pr_n c (by omega)
theorem mor_n (h6 : g ≤ 6) : ∃ c, c ≤ 60 ∧ mor R g b j = nI c := by
  obtain ⟨x, h1, h2⟩ := cmo_n0 (R := R) (b := b) (j := j) h6
  obtain ⟨y, h3, h4⟩ := cmo_n1 (R := R) (b := b) (j := j) h6
  exact ⟨x + 2 * y, by omega, by unfold mor; rw [h2, h4, show (2 : Int32) * nI y = nI (2 * y) from ln_mul 2 y, nI_add]⟩
theorem lkx_n {l m n : Nat} (hl : l ≤ 9999) (hm : m ≤ 60) (hn : n ≤ 1000) : lkx (nI l) (nI m) (nI n) = nI (min 9999 (l + n * m)) := by
  have hnm : n * m ≤ 60000 := Nat.le_trans (Nat.mul_le_mul hn hm) (by decide)
  unfold lkx
  rw [pk_mul, nI_add]
  by_cases q : l + n * m < 9999
  · rw [if_pos ((lt_nl (by omega) (by decide)).mpr q)]; congr 1; omega
  · rw [if_neg (fun z => q ((lt_nl (by omega) (by decide)).mp z)), show min 9999 (l + n * m) = 9999 by omega]; rfl
theorem lk1_x {l : Nat} (h6 : g ≤ 6) (hl : l ≤ 9999) (e : R (b + 6 + j) = nI l) : lk1 R g b j = lkx (R (b + 6 + j)) (mor R g b j) (nI 1) := by
  obtain ⟨x, h1, h2⟩ := cmo_n0 (R := R) (b := b) (j := j) h6
  obtain ⟨y, h3, h4⟩ := cmo_n1 (R := R) (b := b) (j := j) h6
  have e1 : mor R g b j = nI (x + 2 * y) := by unfold mor; rw [h2, h4, show (2 : Int32) * nI y = nI (2 * y) from ln_mul 2 y, nI_add]
  rw [e1, e, lkx_n hl (by omega) (by omega)]
  unfold lk1
  simp only []
  rw [h2, h4, e, show (2 : Int32) * nI y = nI (2 * y) from ln_mul 2 y, nI_add, nI_add]
  by_cases q : 9999 < l + x + 2 * y
  · rw [if_pos ((lt_ln (by decide) (by omega)).mpr q), show min 9999 (l + 1 * (x + 2 * y)) = 9999 by omega]; rfl
  · rw [if_neg (fun z => q ((lt_ln (by decide) (by omega)).mp z))]; congr 1; omega
theorem cmo_congr {w : Int32} (h6 : g ≤ 6) (e1 : ∀ i, i < g → R2 (b + i) = R (b + i) ∧ R2 (13 + i) = R (13 + i) ∧ R2 (19 + i) = R (19 + i)) (e2 : R2 (b + 10) = R (b + 10)) (e3 : R2 (26 + j) = R (26 + j)) (e4 : R2 (30 + j) = R (30 + j)) : cmo R2 g b j w = cmo R g b j w := by
  have e : cmp R2 g b j = cmp R g b j := by
    unfold cmp
    refine itr_congr g 0 _ (fun i s _ hi => ?_)
    obtain ⟨f1, f2, f3⟩ := e1 i (by omega)
    unfold cmF
    simp only []
    rw [f1, e2, sts_congr f2 f3 e3 e4]
  unfold cmo
  rw [e]
theorem psR_in (h4 : hh ≤ 4) (h6 : g ≤ 6) (hb : b = 0 ∨ b = 624) : (∀ j, j < hh → psR R g hh b (b + 6 + j) = lk1 R g b j) ∧ psR R g hh b (b + 11) = R (b + 11) + 1 := by
  have I := itr_inv (F := psF g b) (I := fun i S => (∀ j, j < i → S (b + 6 + j) = lk1 R g b j) ∧ (∀ k, (k < b + 6 ∨ b + 6 + i ≤ k) → S k = R k)) hh 0 R ⟨fun j hj => by omega, fun k _ => rfl⟩ (fun i S _ hi ⟨a, c⟩ => by
    refine ⟨fun j hj => ?_, fun k hk => ?_⟩
    · by_cases q : j = i
      · rw [q]
        unfold psF
        rw [upd_eq]
        unfold lk1
        simp only []
        have ec : ∀ w, cmo S g b i w = cmo R g b i w := fun w => cmo_congr h6 (fun x hx => ⟨c _ (by omega), c _ (by omega), c _ (by omega)⟩) (c _ (by omega)) (c _ (by omega)) (c _ (by omega))
        rw [ec, ec, c (b + 6 + i) (by omega)]
      · rw [psF_o _ (by omega)]; exact a j (by omega)
    · rw [psF_o _ (by omega)]; exact c k (by omega))
  rw [Nat.zero_add] at I
  unfold psR
  exact ⟨fun j hj => by rw [upd_ne (by omega)]; exact I.1 j hj, by rw [upd_eq, I.2 (b + 11) (by omega)]⟩
/-- so many evenings on -/
def isEv (R R2 : Nat → Int32) (g hh b p : Nat) : Prop := (∀ j, j < hh → R2 (b + 6 + j) = lkx (R (b + 6 + j)) (mor R g b j) (nI p)) ∧ R2 (b + 11) = R (b + 11) + nI p ∧ ∀ k, k ≠ b + 11 → (k < b + 6 ∨ b + 6 + hh ≤ k) → R2 k = R k
theorem mor_congr (h6 : g ≤ 6) (h4 : hh ≤ 4) (hj : j < hh) (hb : b = 0 ∨ b = 624) (e : ∀ k, k ≠ b + 11 → (k < b + 6 ∨ b + 6 + hh ≤ k) → R2 k = R k) : mor R2 g b j = mor R g b j := by
  unfold mor
  rw [cmo_congr h6 (fun x hx => ⟨e _ (by omega) (by omega), e _ (by omega) (by omega), e _ (by omega) (by omega)⟩) (e _ (by omega) (by omega)) (e _ (by omega) (by omega)) (e _ (by omega) (by omega)), cmo_congr h6 (fun x hx => ⟨e _ (by omega) (by omega), e _ (by omega) (by omega), e _ (by omega) (by omega)⟩) (e _ (by omega) (by omega)) (e _ (by omega) (by omega)) (e _ (by omega) (by omega))]
theorem isEv_0 (h6 : g ≤ 6) (hl : ∀ j, j < hh → ∃ l, l ≤ 9999 ∧ R (b + 6 + j) = nI l) : isEv R R g hh b 0 := by
  refine ⟨fun j hj => ?_, by rw [show nI 0 = 0 from rfl, Int32.add_zero], fun _ _ _ => rfl⟩
  obtain ⟨l, h1, h2⟩ := hl j hj
  obtain ⟨m, h3, h5⟩ := mor_n (R := R) (b := b) (j := j) h6
  rw [h2, h5, lkx_n h1 h3 (by omega)]
  congr 1; omega
theorem psR_isEv (h4 : hh ≤ 4) (h6 : g ≤ 6) (hb : b = 0 ∨ b = 624) (hl : ∀ j, j < hh → ∃ l, l ≤ 9999 ∧ R (b + 6 + j) = nI l) : isEv R (psR R g hh b) g hh b 1 := by
  obtain ⟨h1, h2⟩ := psR_in (R := R) h4 h6 hb
  refine ⟨fun j hj => ?_, h2, fun k k1 k2 => psR_o R k1 k2⟩
  obtain ⟨l, h3, h5⟩ := hl j hj
  rw [h1 j hj, lk1_x h6 h3 h5]
theorem isEv_lk {p : Nat} (h6 : g ≤ 6) (hp : p ≤ 1000) (e : isEv R R2 g hh b p) (hl : ∀ j, j < hh → ∃ l, l ≤ 9999 ∧ R (b + 6 + j) = nI l) : ∀ j, j < hh → ∃ l, l ≤ 9999 ∧ R2 (b + 6 + j) = nI l := by
  intro j hj
  obtain ⟨l, h1, h2⟩ := hl j hj
  obtain ⟨m, h3, h5⟩ := mor_n (R := R) (b := b) (j := j) h6
  rw [e.1 j hj, h2, h5, lkx_n h1 h3 hp]
  exact ⟨_, by omega, rfl⟩
theorem isEv_add {R3 : Nat → Int32} {p q : Nat} (h4 : hh ≤ 4) (h6 : g ≤ 6) (hb : b = 0 ∨ b = 624) (hp : p + q ≤ 1000) (e : isEv R R2 g hh b p) (f : isEv R2 R3 g hh b q) (hl : ∀ j, j < hh → ∃ l, l ≤ 9999 ∧ R (b + 6 + j) = nI l) : isEv R R3 g hh b (p + q) := by
  refine ⟨fun j hj => ?_, ?_, fun k k1 k2 => by rw [f.2.2 k k1 k2, e.2.2 k k1 k2]⟩
  · obtain ⟨l, h1, h2⟩ := hl j hj
    obtain ⟨m, h3, h5⟩ := mor_n (R := R) (b := b) (j := j) h6
    rw [f.1 j hj, mor_congr h6 h4 hj hb e.2.2, e.1 j hj, h2, h5, lkx_n h1 h3 (by omega), lkx_n (by omega) h3 (by omega), lkx_n h1 h3 (by omega), Nat.add_mul]
    congr 1; omega
  · rw [f.2.1, e.2.1, Int32.add_assoc, nI_add]
theorem goR_isEv (h4 : hh ≤ 4) (h6 : g ≤ 6) : ∀ n e (R : Nat → Int32), R 11 = nI e → e ≤ 999 → (∀ j, j < hh → ∃ l, l ≤ 9999 ∧ R (0 + 6 + j) = nI l) → isEv R (goR g hh n R) g hh 0 (min n (999 - e)) := by
  intro n
  induction n with
  | zero => intro e R h1 h2 hl; rw [show min 0 (999 - e) = 0 by omega]; exact isEv_0 h6 hl
  | succ n ih =>
    intro e R h1 h2 hl
    unfold goR
    by_cases q : R 11 < 999
    · rw [if_pos q]
      have q2 : e < 999 := by rw [h1] at q; exact (lt_nl (by omega) (by decide)).mp q
      have P := psR_isEv (R := R) (b := 0) h4 h6 (Or.inl rfl) hl
      have e11 : psR R g hh 0 11 = nI (e + 1) := by
        have := P.2.1
        rw [Nat.zero_add, h1, nI_add] at this
        exact this
      have := ih (e + 1) (psR R g hh 0) e11 (by omega) (isEv_lk h6 (by omega) P hl)
      have z := isEv_add h4 h6 (Or.inl rfl) (by omega) P this hl
      rw [show min (n + 1) (999 - e) = 1 + min n (999 - (e + 1)) by omega]
      exact z
    · rw [if_neg q]
      have q2 : e = 999 := by
        have : ¬ e < 999 := fun z => q (by rw [h1]; exact (lt_nl (by omega) (by decide)).mpr z)
        omega
      rw [show min (n + 1) (999 - e) = 0 by omega]
      exact isEv_0 h6 hl
theorem tryN_isEv (h4 : hh ≤ 4) (h6 : g ≤ 6) (hl : ∀ j, j < hh → ∃ l, l ≤ 9999 ∧ R (624 + 6 + j) = nI l) : ∀ n, n ≤ 1000 → isEv R (tryN g hh n R) g hh 624 n := by
  have key : ∀ n i (S : Nat → Int32) p, p + n ≤ 1000 → isEv R S g hh 624 p → isEv R (itr (fun _ S => psR S g hh 624) n i S) g hh 624 (p + n) := by
    intro n
    induction n with
    | zero => intro i S p _ e; exact e
    | succ n ih =>
      intro i S p hp e
      unfold itr
      have P := psR_isEv (R := S) (b := 624) h4 h6 (Or.inr rfl) (isEv_lk h6 (by omega) e hl)
      have := ih (i + 1) _ (p + 1) (by omega) (isEv_add h4 h6 (Or.inr rfl) (by omega) e P hl)
      rw [show p + (n + 1) = p + 1 + n by omega]
      exact this
  intro n hn
  have := key n 0 R 0 (by omega) (isEv_0 h6 hl)
  rw [Nat.zero_add] at this
  exact this
end PS
