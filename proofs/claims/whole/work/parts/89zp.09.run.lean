/-! calls and returns; a run of the reflected machine is a run of the machine: 'sim' -/
theorem stI_mono {d mi o : Nat} {I : Instr} {len pc pc' : Nat} {ls ls' st st' : List Value} {h h1 : Hp} (hst : stI d mi o I len pc ls st h = some (.inl (pc', ls', st', h1))) : h.1 ≤ h1.1 ∧ h.2.1 ≤ h1.2.1 := by
  unfold stI at hst
  split at hst
  all_goals (try simp only [p1, p2, q1, q2, go, arc] at hst)
  all_goals (repeat' split at hst)
  all_goals first
    | (cases hst; done)
    | exact absurd hst (inv_n _ _ _ _ _ _ _ _ _)
    | (cases hst; exact ⟨Nat.le_refl _, Nat.le_refl _⟩)
    | (cases hst; exact ⟨Nat.le_succ _, Nat.le_add_right _ _⟩)
def retOK (I : Instr) (st : List Value) (r : Option Value) (rt : Option FieldType) : Prop :=
  (I = .ireturn ∧ ∃ x ty, st = [.int x] ∧ rt = some ty ∧ narrow ty (.int x) = .int x ∧ r = some (.int x)) ∨ (I = .lreturn ∧ ∃ x, st = [.long x] ∧ rt = some .long ∧ r = some (.long x)) ∨ (I = .areturn ∧ ∃ x n, st = [.ref x] ∧ rt = some (.object n) ∧ r = some (.ref x)) ∨ (I = .return_ ∧ st = [] ∧ rt = none ∧ r = none)
theorem cal_r {callee : Nat} {as : List Value} {pc : Nat} {ls r : List Value} {h : Hp} {x : Option Value × Hp} : ¬ cal callee as pc ls r h = some (.inr (.inr x)) := fun e => by cases (cal_ok e).2
theorem inv_r (d kind callee n pc : Nat) (ls st : List Value) (h : Hp) (x : Option Value × Hp) : ¬ inv d kind callee n pc ls st h = some (.inr (.inr x)) := by
  intro e
  unfold inv at e
  obtain ⟨-, e⟩ := none_if e
  split at e
  · exact cal_r e
  · exact cal_r e
  · split at e
    · split at e
      · obtain ⟨-, e⟩ := if_none e
        exact cal_r e
      · cases e
    · cases e
  · split at e
    · exact cal_r e
    · cases e
  · split at e
    · exact cal_r e
    · cases e
  · cases e
theorem stI_ret {d mi o : Nat} {I : Instr} {len pc : Nat} {ls st : List Value} {h h1 : Hp} {r : Option Value} (hst : stI d mi o I len pc ls st h = some (.inr (.inr (r, h1)))) : len = 1 ∧ h1 = h ∧ retOK I st r (mR mi).2.2.2.2.1 := by
  unfold stI at hst
  split at hst
  case h_77 =>
    split at hst
    · rename_i x ty hty
      obtain ⟨hn, hs2⟩ := if_none hst
      cases hs2
      exact ⟨rfl, rfl, Or.inl ⟨rfl, x, ty, rfl, hty, hn, rfl⟩⟩
    · cases hst
  case h_78 =>
    split at hst
    · rename_i x hty
      cases hst
      exact ⟨rfl, rfl, Or.inr (Or.inl ⟨rfl, x, rfl, hty, rfl⟩)⟩
    · cases hst
  case h_79 =>
    split at hst
    · rename_i x n hty
      cases hst
      exact ⟨rfl, rfl, Or.inr (Or.inr (Or.inl ⟨rfl, x, n, rfl, hty, rfl⟩))⟩
    · cases hst
  case h_80 =>
    split at hst
    · rename_i hty
      cases hst
      exact ⟨rfl, rfl, Or.inr (Or.inr (Or.inr ⟨rfl, rfl, hty, rfl⟩))⟩
    · cases hst
  all_goals (try simp only [p1, p2, q1, q2, go, arc] at hst)
  all_goals (repeat' split at hst)
  all_goals first
    | (cases hst; done)
    | exact absurd hst (inv_r _ _ _ _ _ _ _ _ _)
/-- what a call's step says -/
def callOK (k kind : Nat) (I : Instr) (as st st' : List Value) (h : Hp) (j : Nat) : Prop :=
  ((kind = 0 ∨ kind = 3) ∧ I = .invokestatic k ∧ st = as.reverse ++ st' ∧ as.length = (mR j).2.2.2.2.2) ∨
  ∃ a as0, as = .ref a :: as0 ∧ st = as0.reverse ++ .ref a :: st' ∧ as0.length = (mR j).2.2.2.2.2 ∧
    ((kind = 1 ∧ I = .invokevirtual k ∧ ∃ c fs, h.2.2 a = .inr (.inr (c, fs)) ∧ (c = 100 ∧ (mR j).2.1.cls = "java/lang/String" ∨ c < 8 ∧ clR c = (mR j).2.1.cls)) ∨ ((kind = 2 ∨ kind = 5) ∧ I = .invokespecial k))
theorem cal_c {callee : Nat} {as : List Value} {pc : Nat} {ls r : List Value} {h : Hp} {y : Nat × List Value × Nat × List Value × List Value × Hp} (e : cal callee as pc ls r h = some (.inr (.inl y))) : (wrd as).length ≤ (mR callee).2.2.2.1 ∧ stk r ≤ 8 ∧ y = (callee, as, pc + 3, ls, r, h) := by
  obtain ⟨⟨h1, h2⟩, e⟩ := cal_ok e
  exact ⟨h1, h2, Sum.inl.inj (Sum.inr.inj e)⟩
theorem inv_c {d kind callee pc : Nat} {ls st : List Value} {h : Hp} {j pc' : Nat} {as ls' st' : List Value} {h' : Hp} {k : Nat} {I : Instr} (hI : ((kind = 0 ∨ kind = 3) → I = .invokestatic k) ∧ (kind = 1 → I = .invokevirtual k) ∧ ((kind = 2 ∨ kind = 5) → I = .invokespecial k))
    (e : inv d kind callee (mR callee).2.2.2.2.2 pc ls st h = some (.inr (.inl (j, as, pc', ls', st', h')))) : j = callee ∧ pc' = pc + 3 ∧ ls' = ls ∧ h' = h ∧ d ≠ 0 ∧ (mR j).2.2.2.1 ≤ 45 ∧ (wrd as).length ≤ (mR j).2.2.2.1 ∧ stk st' ≤ 8 ∧ callOK k kind I as st st' h j := by
  unfold inv at e
  obtain ⟨hn, e⟩ := none_if e
  simp only [not_or, Nat.not_lt] at hn
  obtain ⟨hn1, hn2, hn3⟩ := hn
  have hlen : (st.take (mR callee).2.2.2.2.2).reverse.length = (mR callee).2.2.2.2.2 := by simp; omega
  have hsplit : st = (st.take (mR callee).2.2.2.2.2).reverse.reverse ++ st.drop (mR callee).2.2.2.2.2 := by rw [List.reverse_reverse, List.take_append_drop]
  split at e
  · obtain ⟨h1, h2, hy⟩ := cal_c e
    simp only [Prod.mk.injEq] at hy
    obtain ⟨rfl, rfl, rfl, rfl, rfl, rfl⟩ := hy
    exact ⟨rfl, rfl, rfl, rfl, hn3, hn2, h1, h2, Or.inl ⟨Or.inl rfl, hI.1 (Or.inl rfl), hsplit, hlen⟩⟩
  · obtain ⟨h1, h2, hy⟩ := cal_c e
    simp only [Prod.mk.injEq] at hy
    obtain ⟨rfl, rfl, rfl, rfl, rfl, rfl⟩ := hy
    exact ⟨rfl, rfl, rfl, rfl, hn3, hn2, h1, h2, Or.inl ⟨Or.inr rfl, hI.1 (Or.inr rfl), hsplit, hlen⟩⟩
  · split at e
    · rename_i a r hr
      split at e
      · rename_i c fs ha
        obtain ⟨hcc, e⟩ := if_none e
        obtain ⟨h1, h2, hy⟩ := cal_c e
        simp only [Prod.mk.injEq] at hy
        obtain ⟨rfl, rfl, rfl, rfl, rfl, rfl⟩ := hy
        rw [hr] at hsplit
        exact ⟨rfl, rfl, rfl, rfl, hn3, hn2, h1, h2, Or.inr ⟨a, _, rfl, hsplit, hlen, Or.inl ⟨rfl, hI.2.1 rfl, c, fs, ha, hcc⟩⟩⟩
      · cases e
    · cases e
  · split at e
    · rename_i a r hr
      obtain ⟨h1, h2, hy⟩ := cal_c e
      simp only [Prod.mk.injEq] at hy
      obtain ⟨rfl, rfl, rfl, rfl, rfl, rfl⟩ := hy
      rw [hr] at hsplit
      exact ⟨rfl, rfl, rfl, rfl, hn3, hn2, h1, h2, Or.inr ⟨a, _, rfl, hsplit, hlen, Or.inr ⟨Or.inl rfl, hI.2.2 (Or.inl rfl)⟩⟩⟩
    · cases e
  · split at e
    · rename_i a r hr
      obtain ⟨h1, h2, hy⟩ := cal_c e
      simp only [Prod.mk.injEq] at hy
      obtain ⟨rfl, rfl, rfl, rfl, rfl, rfl⟩ := hy
      rw [hr] at hsplit
      exact ⟨rfl, rfl, rfl, rfl, hn3, hn2, h1, h2, Or.inr ⟨a, _, rfl, hsplit, hlen, Or.inr ⟨Or.inr rfl, hI.2.2 (Or.inr rfl)⟩⟩⟩
    · cases e
  · cases e
theorem stI_call {d mi o : Nat} {I : Instr} {len pc : Nat} {ls st : List Value} {h : Hp} {j pc' : Nat} {as ls' st' : List Value} {h' : Hp} (hst : stI d mi o I len pc ls st h = some (.inr (.inl (j, as, pc', ls', st', h')))) :
    len = 3 ∧ ∃ k kind, ml o k = some (kind, j) ∧ pc' = pc + 3 ∧ ls' = ls ∧ h' = h ∧ d ≠ 0 ∧ (mR j).2.2.2.1 ≤ 45 ∧ (wrd as).length ≤ (mR j).2.2.2.1 ∧ stk st' ≤ 8 ∧ callOK k kind I as st st' h j := by
  unfold stI at hst
  split at hst
  case h_74 =>
    rename_i k
    split at hst
    · simp only [arc] at hst
      repeat' split at hst
      all_goals cases hst
    · simp only [p2] at hst
      repeat' split at hst
      all_goals cases hst
    · simp only [p2] at hst
      repeat' split at hst
      all_goals cases hst
    · rename_i j0 hm
      obtain ⟨rfl, h2⟩ := inv_c (k := k) (I := .invokestatic k) ⟨fun _ => rfl, fun z => absurd z (by decide), fun z => absurd z (by decide)⟩ hst
      exact ⟨rfl, k, _, hm, h2⟩
    · rename_i j0 hm
      obtain ⟨rfl, h2⟩ := inv_c (k := k) (I := .invokestatic k) ⟨fun _ => rfl, fun z => absurd z (by decide), fun z => absurd z (by decide)⟩ hst
      exact ⟨rfl, k, _, hm, h2⟩
    · cases hst
  case h_75 =>
    rename_i k
    split at hst
    · rename_i j0 hm
      obtain ⟨rfl, h2⟩ := inv_c (k := k) (I := .invokevirtual k) ⟨fun z => absurd z (by decide), fun _ => rfl, fun z => absurd z (by decide)⟩ hst
      exact ⟨rfl, k, _, hm, h2⟩
    · cases hst
  case h_76 =>
    rename_i k
    split at hst
    · repeat' split at hst
      all_goals cases hst
    · rename_i j0 hm
      obtain ⟨rfl, h2⟩ := inv_c (k := k) (I := .invokespecial k) ⟨fun z => absurd z (by decide), fun z => absurd z (by decide), fun _ => rfl⟩ hst
      exact ⟨rfl, k, _, hm, h2⟩
    · rename_i j0 hm
      obtain ⟨rfl, h2⟩ := inv_c (k := k) (I := .invokespecial k) ⟨fun z => absurd z (by decide), fun z => absurd z (by decide), fun _ => rfl⟩ hst
      exact ⟨rfl, k, _, hm, h2⟩
    · cases hst
  all_goals (try simp only [p1, p2, q1, q2, go] at hst)
  all_goals (repeat' split at hst)
  all_goals (cases hst; done)
