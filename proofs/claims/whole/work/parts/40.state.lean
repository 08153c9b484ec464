/-! loops; ints that are numbers; the states of both objects -/
def itr {σ : Type} (F : Nat → σ → σ) : Nat → Nat → σ → σ
  | 0, _, s => s
  | n + 1, i, s => itr F n (i + 1) (F i s)
theorem loop_iff {σ : Type} {P : Nat → σ → Prop} {F : Nat → σ → σ} {g : Nat} (hs : ∀ i s, i < g → (P i s ↔ P (i + 1) (F i s))) : ∀ n i s, i + n = g → (P i s ↔ P g (itr F n i s)) := by
  intro n
  induction n with
  | zero => intro i s h; rw [show i = g by omega]; rfl
  | succ n ih => intro i s h; rw [hs i s (by omega), ih (i + 1) (F i s) (by omega)]; rfl
theorem loop_z {σ : Type} {P : Nat → σ → Prop} {F : Nat → σ → σ} (g : Nat) (hs : ∀ i s, i < g → (P i s ↔ P (i + 1) (F i s))) (s : σ) : P 0 s ↔ P g (itr F g 0 s) := loop_iff hs g 0 s (by omega)
theorem itr_congr {σ : Type} {F F2 : Nat → σ → σ} : ∀ n i s, (∀ j s, i ≤ j → j < i + n → F j s = F2 j s) → itr F n i s = itr F2 n i s := by
  intro n
  induction n with
  | zero => intro i s _; rfl
  | succ n ih =>
    intro i s h
    unfold itr
    rw [h i s (by omega) (by omega)]
    exact ih _ _ (fun j s h1 h2 => h j s (by omega) (by omega))
theorem itr_inv {σ : Type} {F : Nat → σ → σ} {I : Nat → σ → Prop} : ∀ n i s, I i s → (∀ j s, i ≤ j → j < i + n → I j s → I (j + 1) (F j s)) → I (i + n) (itr F n i s) := by
  intro n
  induction n with
  | zero => intro i s h _; exact h
  | succ n ih =>
    intro i s h hs
    unfold itr
    rw [show i + (n + 1) = (i + 1) + n by omega]
    exact ih _ _ (hs i s (by omega) (by omega) h) (fun j s h1 h2 h3 => hs j s (by omega) (by omega) h3)
-- ints that are numbers
theorem ln_add (n k : Nat) : (no_index (OfNat.ofNat n) : Int32) + nI k = nI (n + k) := nI_add n k
theorem nl_add (k n : Nat) : nI k + (no_index (OfNat.ofNat n) : Int32) = nI (k + n) := nI_add k n
theorem ln_mul (n k : Nat) : (no_index (OfNat.ofNat n) : Int32) * nI k = nI (n * k) := pk_mul n k
theorem nl_mul (k n : Nat) : nI k * (no_index (OfNat.ofNat n) : Int32) = nI (k * n) := pk_mul k n
theorem lt_nn {a b : Nat} (ha : a < 2 ^ 31) (hb : b < 2 ^ 31) : nI a < nI b ↔ a < b := nI_ltI ha hb
theorem lt_ln {a b : Nat} (ha : a < 2 ^ 31) (hb : b < 2 ^ 31) : (no_index (OfNat.ofNat a) : Int32) < nI b ↔ a < b := nI_ltI ha hb
theorem lt_nl {a b : Nat} (ha : a < 2 ^ 31) (hb : b < 2 ^ 31) : nI a < (no_index (OfNat.ofNat b) : Int32) ↔ a < b := nI_ltI ha hb
theorem eq_nn {a b : Nat} (ha : a < 2 ^ 31) (hb : b < 2 ^ 31) : nI a = nI b ↔ a = b := nI_eq ha hb
theorem eq_ln {a b : Nat} (ha : a < 2 ^ 31) (hb : b < 2 ^ 31) : (no_index (OfNat.ofNat a) : Int32) = nI b ↔ a = b := nI_eq ha hb
theorem eq_nl {a b : Nat} (ha : a < 2 ^ 31) (hb : b < 2 ^ 31) : nI a = (no_index (OfNat.ofNat b) : Int32) ↔ a = b := nI_eq ha hb
theorem aL_n {m n : Nat} {f : Nat → Int32} {K : Int32 → Prop} (hm : m < n) (hn : n < 2 ^ 31) : aL (oI n f) (nI m) K ↔ K (f m) := by
  rw [aL_I, nI_toInt (by omega), nI_clamp (by omega)]
  exact ⟨fun z => z.2, fun z => ⟨⟨by omega, by omega⟩, z⟩⟩
theorem aL_l {m n : Nat} {f : Nat → Int32} {K : Int32 → Prop} (hm : m < n) (hn : n < 2 ^ 31) : aL (oI n f) (no_index (OfNat.ofNat m)) K ↔ K (f m) := aL_n hm hn
theorem aS_n {m n : Nat} {f : Nat → Int32} {x : Int32} {K : AC → Prop} (hm : m < n) (hn : n < 2 ^ 31) : aS (oI n f) (nI m) x K ↔ K (oI n (upd f m x)) := by
  rw [aS_I, nI_toInt (by omega), nI_clamp (by omega)]
  exact ⟨fun z => z.2, fun z => ⟨⟨by omega, by omega⟩, z⟩⟩
theorem aS_l {m n : Nat} {f : Nat → Int32} {x : Int32} {K : AC → Prop} (hm : m < n) (hn : n < 2 ^ 31) : aS (oI n f) (no_index (OfNat.ofNat m)) x K ↔ K (oI n (upd f m x)) := aS_n hm hn
theorem hup_o {h : Hp} {a b : Nat} {c x : AC} (hne : b ≠ a) (e : h.2.2 b = x) : (hup h a c).2.2 b = x := by
  rw [hup_c, if_neg hne]; exact e
theorem hup_s {h : Hp} {a : Nat} {c : AC} : (hup h a c).2.2 a = c := by rw [hup_c, if_pos rfl]
/-- an int of some kind: a number of a range -/
theorem i32_n2 {x : Int32} {N : Nat} (h0 : 0 ≤ x.toInt) (h : x.toInt < N) : ∃ k, k < N ∧ x = nI k := by
  have hx : x.toInt < 2 ^ 31 := by have := Int32.toInt_lt x; simpa using this
  have hk : x.toInt.toNat < 2 ^ 31 := by omega
  refine ⟨x.toInt.toNat, by omega, ?_⟩
  rw [i32_eq, nI_toInt hk]
  omega
-- the reference's object
def MO (ab be : Int64) (ln pa pb rg rh dg : Int32) : AC := oO 7 [.ref 59, .ref 60, .ref 61, .long ab, .long be, .ref 62, .int ln, .ref 63, .int pa, .int pb, .int rg, .int rh, .int dg, .ref 64, .ref 65, .ref 66, .ref 67, .ref 68]
def MR (h : Hp) (R : Nat → Int32) : Prop := (∃ ab be ln pa pb rg rh dg, h.2.2 58 = MO ab be ln pa pb rg rh dg) ∧ h.2.2 59 = oI 636 R
theorem MR.set {h : Hp} {R R2 : Nat → Int32} (m : MR h R) : MR (hup h 59 (oI 636 R2)) R2 := by
  obtain ⟨⟨ab, be, ln, pa, pb, rg, rh, dg, e⟩, -⟩ := m
  exact ⟨⟨ab, be, ln, pa, pb, rg, rh, dg, hup_o (by decide) e⟩, hup_s⟩
theorem MR.oth {h : Hp} {R : Nat → Int32} (m : MR h R) {a : Nat} {c : AC} (h1 : a ≠ 58) (h2 : a ≠ 59) : MR (hup h a c) R := by
  obtain ⟨⟨ab, be, ln, pa, pb, rg, rh, dg, e⟩, e2⟩ := m
  exact ⟨⟨ab, be, ln, pa, pb, rg, rh, dg, hup_o (Ne.symm h1) e⟩, hup_o (Ne.symm h2) e2⟩
theorem MR.o {h : Hp} {R : Nat → Int32} (m : MR h R) : isO (h.2.2 58) 7 := by
  obtain ⟨⟨ab, be, ln, pa, pb, rg, rh, dg, e⟩, -⟩ := m
  rw [e]; exact isO_O
/-- a loop to its end; u: a local that is dead at the head -/
theorem loop_d {σ τ : Type} {P : Nat → σ → τ → Prop} {F : Nat → σ → σ} {E : σ → Prop} {g : Nat} (hs : ∀ i s u, i < g → ∃ u', (P i s u ↔ P (i + 1) (F i s) u')) (hx : ∀ s u, P g s u ↔ E s) : ∀ s u, P 0 s u ↔ E (itr F g 0 s) := by
  have key : ∀ n i s u, i + n = g → (P i s u ↔ E (itr F n i s)) := by
    intro n
    induction n with
    | zero => intro i s u h; rw [show i = g by omega]; exact hx s u
    | succ n ih =>
      intro i s u h
      obtain ⟨u', e⟩ := hs i s u (by omega)
      rw [e]
      exact ih (i + 1) (F i s) u' (by omega)
  exact fun s u => key g 0 s u (by omega)
theorem dp_1 (d : Nat) : d + 1 + 1 = d + 2 := rfl
theorem dp_2 (d : Nat) : d + 2 + 1 = d + 3 := rfl
theorem dp_3 (d : Nat) : d + 3 + 1 = d + 4 := rfl
theorem dp_4 (d : Nat) : d + 4 + 1 = d + 5 := rfl
theorem dp_5 (d : Nat) : d + 5 + 1 = d + 6 := rfl
theorem dp_6 (d : Nat) : d + 6 + 1 = d + 7 := rfl
theorem dp_7 (d : Nat) : d + 7 + 1 = d + 8 := rfl
theorem dp_8 (d : Nat) : d + 8 + 1 = d + 9 := rfl
theorem dp_9 (d : Nat) : d + 9 + 1 = d + 10 := rfl
theorem dp_10 (d : Nat) : d + 10 + 1 = d + 11 := rfl
theorem dp_11 (d : Nat) : d + 11 + 1 = d + 12 := rfl
theorem dp_12 (d : Nat) : d + 12 + 1 = d + 13 := rfl
theorem dp_13 (d : Nat) : d + 13 + 1 = d + 14 := rfl
theorem dp_14 (d : Nat) : d + 14 + 1 = d + 15 := rfl
theorem dp_15 (d : Nat) : d + 15 + 1 = d + 16 := rfl
theorem dp_16 (d : Nat) : d + 16 + 1 = d + 17 := rfl
theorem dp_17 (d : Nat) : d + 17 + 1 = d + 18 := rfl
theorem dp_18 (d : Nat) : d + 18 + 1 = d + 19 := rfl
theorem dp_19 (d : Nat) : d + 19 + 1 = d + 20 := rfl
theorem dp_20 (d : Nat) : d + 20 + 1 = d + 21 := rfl
theorem dp_21 (d : Nat) : d + 21 + 1 = d + 22 := rfl
theorem dp_22 (d : Nat) : d + 22 + 1 = d + 23 := rfl
theorem dp_23 (d : Nat) : d + 23 + 1 = d + 24 := rfl
theorem dp_24 (d : Nat) : d + 24 + 1 = d + 25 := rfl
theorem dp_25 (d : Nat) : d + 25 + 1 = d + 26 := rfl
theorem dp_26 (d : Nat) : d + 26 + 1 = d + 27 := rfl
theorem dp_27 (d : Nat) : d + 27 + 1 = d + 28 := rfl
theorem dp_28 (d : Nat) : d + 28 + 1 = d + 29 := rfl
theorem dp_29 (d : Nat) : d + 29 + 1 = d + 30 := rfl
theorem dp_30 (d : Nat) : d + 30 + 1 = d + 31 := rfl
theorem dp_31 (d : Nat) : d + 31 + 1 = d + 32 := rfl
theorem dp_32 (d : Nat) : d + 32 + 1 = d + 33 := rfl
theorem dp_33 (d : Nat) : d + 33 + 1 = d + 34 := rfl
theorem dp_34 (d : Nat) : d + 34 + 1 = d + 35 := rfl
theorem dp_35 (d : Nat) : d + 35 + 1 = d + 36 := rfl
theorem dp_36 (d : Nat) : d + 36 + 1 = d + 37 := rfl
theorem dp_37 (d : Nat) : d + 37 + 1 = d + 38 := rfl
theorem dp_38 (d : Nat) : d + 38 + 1 = d + 39 := rfl
theorem dp_39 (d : Nat) : d + 39 + 1 = d + 40 := rfl
/-- the same with what stays true -/
theorem loop_j {σ τ : Type} {P : Nat → σ → τ → Prop} {F : Nat → σ → σ} {E : σ → Prop} {I : Nat → σ → Prop} {g : Nat} (hs : ∀ i s u, i < g → I i s → I (i + 1) (F i s) ∧ ∃ u', (P i s u ↔ P (i + 1) (F i s) u')) (hx : ∀ s u, I g s → (P g s u ↔ E s)) : ∀ s u, I 0 s → (P 0 s u ↔ E (itr F g 0 s)) := by
  have key : ∀ n i s u, i + n = g → I i s → (P i s u ↔ E (itr F n i s)) := by
    intro n
    induction n with
    | zero => intro i s u h hI; rw [show i = g by omega] at hI ⊢; exact hx s u hI
    | succ n ih =>
      intro i s u h hI
      obtain ⟨hI2, u', e⟩ := hs i s u (by omega) hI
      rw [e]
      exact ih (i + 1) (F i s) u' (by omega) hI2
  exact fun s u => key g 0 s u (by omega)
