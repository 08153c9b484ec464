/-! read: numbers within bounds -/
section RN
variable {X : Nat → Int32} {n a e b : Nat}
theorem nuV_eq (la : isFg X n a = true) (he : ext (isFg X n) (n + 1) (a + 1) ≤ a + 2) : nuV X n (n + 2) a 0 = nmV X a (ext (isFg X n) (n + 1) (a + 1)) := by
  have z0 : (10 : Int32) * 0 + X a - 48 = X a - 48 := by rw [Int32.mul_zero, Int32.zero_add]
  have h1 : nuV X n (n + 2) a 0 = nuV X n (n + 1) (a + 1) (X a - 48) := by
    show (if isFg X n a = true then nuV X n (n + 1) (a + 1) (10 * 0 + X a - 48) else 0) = _
    rw [if_pos la, z0]
  have h2 : ∀ v, nuV X n (n + 1) (a + 1) v = if isFg X n (a + 1) = true then nuV X n n (a + 2) (10 * v + X (a + 1) - 48) else v := fun v => rfl
  have h3 : ext (isFg X n) (n + 1) (a + 1) = if isFg X n (a + 1) = true then ext (isFg X n) n (a + 2) else a + 1 := rfl
  rw [h1, h2, h3]
  rw [h3] at he
  by_cases q : isFg X n (a + 1) = true
  · rw [if_pos q, if_pos q]
    rw [if_pos q] at he
    have h4 : a + 2 ≤ ext (isFg X n) n (a + 2) := ext_ge _ _
    have h5 : ext (isFg X n) n (a + 2) = a + 2 := by omega
    rw [h5]
    unfold nmV
    rw [if_pos rfl]
    cases n with
    | zero => rfl
    | succ m =>
      show (if isFg X (m + 1) (a + 2) = true then _ else _) = _
      by_cases q2 : isFg X (m + 1) (a + 2) = true
      · have h6 : ext (isFg X (m + 1)) (m + 1) (a + 2) = ext (isFg X (m + 1)) m (a + 3) := by
          show (if isFg X (m + 1) (a + 2) = true then ext (isFg X (m + 1)) m (a + 2 + 1) else a + 2) = _
          rw [if_pos q2]
        have h7 : a + 3 ≤ ext (isFg X (m + 1)) m (a + 3) := ext_ge _ _
        omega
      · rw [if_neg q2]
  · rw [if_neg q, if_neg q]
    unfold nmV
    rw [if_neg (by omega)]
theorem tkE_fg (la : isFg X n (tkA X n b) = true) : tkE X n b = ext (isFg X n) (n + 1) (tkA X n b + 1) := by
  have ha := isFg_lt la
  have nl : ¬ isLt X n (tkA X n b) = true := fun z => by
    unfold isFg at la; unfold isLt at z
    rw [Bool.and_eq_true] at z la
    have z2 := z.2
    have l2 := la.2
    unfold rg at z2 l2
    rw [Bool.and_eq_true, decide_eq_true_eq, decide_eq_true_eq] at z2 l2
    omega
  show (if isFg X n (tkA X n b) = true then ext (isFg X n) (n + 1) (if isLt X n (tkA X n b) = true then ext (isLt X n) (n + 1) (if tkA X n b < n then tkA X n b + 1 else tkA X n b) else (if tkA X n b < n then tkA X n b + 1 else tkA X n b)) else _) = _
  rw [if_pos la, if_neg nl, if_pos ha]
theorem isFg_nl (la : isFg X n a = true) : ¬ isLt X n a = true := fun z => by
  unfold isFg at la; unfold isLt at z
  rw [Bool.and_eq_true] at z la
  have z2 := z.2
  have l2 := la.2
  unfold rg at z2 l2
  rw [Bool.and_eq_true, decide_eq_true_eq, decide_eq_true_eq] at z2 l2
  omega
/-- a number token within bounds, as the class and as the reference see it -/
theorem tk_num {lo hi x5 : Int32} (hlo : 0 ≤ lo.toInt) : (tkT X n (tkA X n b) (tkE X n b) = 2 ∧ lo ≤ tkV X n (tkA X n b) (tkE X n b) x5 ∧ tkV X n (tkA X n b) (tkE X n b) x5 ≤ hi) ↔ ¬ nmR X n (tkA X n b) (tkE X n b) lo hi = -1 := by
  unfold tkT tkV nmR
  by_cases q : isFg X n (tkA X n b) = true
  · have hq := isFg_lt q
    have nl := isFg_nl q
    have eE := tkE_fg q
    have hge : tkA X n b ≤ tkE X n b := tkE_ge
    simp only [hq, if_true, nl, if_false, q, true_and, Bool.false_eq_true]
    by_cases q2 : tkE X n b ≤ tkA X n b + 2
    · have ev : nuV X n (n + 2) (tkA X n b) 0 = nmV X (tkA X n b) (tkE X n b) := by rw [eE] at q2 ⊢; exact nuV_eq q q2
      rw [ev, if_pos (show tkE X n b - tkA X n b ≤ 2 by omega), if_pos q2]
      generalize nmV X (tkA X n b) (tkE X n b) = v
      by_cases q3 : lo ≤ v ∧ v ≤ hi
      · rw [if_pos q3]
        refine ⟨fun _ z => ?_, fun _ => ⟨rfl, q3⟩⟩
        have := i32_le.mp q3.1
        rw [z, show (-1 : Int32).toInt = -1 by decide] at this
        omega
      · rw [if_neg q3]
        exact ⟨fun z => absurd z.2 q3, fun z => absurd rfl z⟩
    · rw [if_neg (show ¬ tkE X n b - tkA X n b ≤ 2 by omega), if_neg q2]
      exact ⟨fun z => absurd z.1 (by decide), fun z => absurd rfl z⟩
  · rw [if_neg (show ¬ (isFg X n (tkA X n b) = true ∧ tkE X n b ≤ tkA X n b + 2) from fun z => q z.1)]
    refine ⟨fun z => ?_, fun z => absurd rfl z⟩
    have z1 := z.1
    simp only [q, Bool.false_eq_true, if_false] at z1
    split at z1
    · split at z1
      · exact absurd z1 (by decide)
      · split at z1
        · exact absurd z1 (by decide)
        · exact absurd z1 (by decide)
    · exact absurd z1 (by decide)
theorem tk_val {lo hi x5 : Int32} (q : ¬ nmR X n (tkA X n b) (tkE X n b) lo hi = -1) : tkV X n (tkA X n b) (tkE X n b) x5 = nmR X n (tkA X n b) (tkE X n b) lo hi := by
  unfold tkV
  unfold nmR at q ⊢
  by_cases q1 : isFg X n (tkA X n b) = true ∧ tkE X n b ≤ tkA X n b + 2
  · have eE := tkE_fg q1.1
    rw [if_pos q1] at q ⊢
    have ev : nuV X n (n + 2) (tkA X n b) 0 = nmV X (tkA X n b) (tkE X n b) := by
      have q2 := q1.2
      rw [eE] at q2 ⊢; exact nuV_eq q1.1 q2
    rw [if_neg (isFg_nl q1.1), if_pos q1.1, ev]
    by_cases q3 : lo ≤ nmV X (tkA X n b) (tkE X n b) ∧ nmV X (tkA X n b) (tkE X n b) ≤ hi
    · rw [if_pos q3]
    · rw [if_neg q3] at q; exact absurd rfl q
  · rw [if_neg q1] at q; exact absurd rfl q
end RN
