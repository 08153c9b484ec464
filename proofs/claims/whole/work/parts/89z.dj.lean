/-! read: words and stops -/
section RZ
variable {X : Nat → Int32} {n a e : Nat} {x5 : Int32}
theorem tk_lt (la : isLt X n a = true) : tkT X n a e = 1 ∧ tkV X n a e x5 = match wdH X n a e with
    | some w => nI w
    | none => -1 := by
  refine ⟨?_, ?_⟩
  · unfold tkT; rw [if_pos (isLt_lt la), if_pos la]
  · refine Eq.trans ?_ (vDW_eq la)
    unfold tkV; rw [if_pos la]
theorem tk_nl (la : ¬ isLt X n a = true) : ¬ tkT X n a e = 1 ∧ wdH X n a e = none := by
  refine ⟨fun z => ?_, ?_⟩
  · unfold tkT at z
    rw [if_neg la] at z
    split at z
    · split at z
      · split at z
        · exact absurd z (by decide)
        · exact absurd z (by decide)
      · split at z
        · exact absurd z (by decide)
        · exact absurd z (by decide)
    · exact absurd z (by decide)
  · cases hw : wdH X n a e with
    | none => rfl
    | some w =>
      exfalso
      have key : ∀ k i, (fnd (fun w (_ : Unit) => isLt X n a && wdB X a e w) (fun _ s => s) k i ()).1 = none := by
        intro k
        induction k with
        | zero => intro i; rfl
        | succ k ih =>
          intro i
          unfold fnd
          rw [if_neg (fun z => la (by rw [Bool.and_eq_true] at z; exact z.1))]
          exact ih (i + 1)
      have h2 : wdH X n a e = none := key 6 0
      rw [h2] at hw
      cases hw
theorem tk_stop : tkT X n a e = 3 ↔ a < n ∧ X a = 59 := by
  have r1 : rg 59 97 122 = false := by decide
  have r2 : rg 59 48 57 = false := by decide
  unfold tkT
  constructor
  · intro z
    split at z
    · rename_i ha
      split at z
      · exact absurd z (by decide)
      · split at z
        · split at z
          · exact absurd z (by decide)
          · exact absurd z (by decide)
        · split at z
          · rename_i hx
            exact ⟨ha, hx⟩
          · exact absurd z (by decide)
    · exact absurd z (by decide)
  · rintro ⟨ha, hx⟩
    have n1 : ¬ isLt X n a = true := by unfold isLt; rw [hx, r1, Bool.and_false]; decide
    have n2 : ¬ isFg X n a = true := by unfold isFg; rw [hx, r2, Bool.and_false]; decide
    rw [if_pos ha, if_neg n1, if_neg n2, if_pos hx]
/-- the word that stands here, as the class keeps it -/
def wdV (X : Nat → Int32) (n a e : Nat) : Int32 := match wdH X n a e with
  | some w => nI w
  | none => -1
theorem wd_is : (if tkT X n a e = 1 then tkV X n a e x5 else -1) = wdV X n a e := by
  unfold wdV
  by_cases la : isLt X n a = true
  · rw [if_pos (tk_lt la (x5 := x5)).1]; exact (tk_lt la).2
  · rw [if_neg (tk_nl la).1, (tk_nl la).2]
end RZ
