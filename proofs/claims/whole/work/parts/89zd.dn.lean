/-! read: the spare block from both sides -/
section RD
variable {h : Hp} {ab be : Int32} {V : Nat → Int32} {O D E : Nat → Nat → Int32}
theorem hC_hU29 : hC (hU h 29 E) ab be V O = hU (hC h ab be V O) 29 E := by
  refine Prod.ext rfl (Prod.ext rfl (funext fun j => ?_))
  show (if j = 13 ∨ (45 ≤ j ∧ j < 58) then cellC ab be V O j else if 29 ≤ j ∧ j < 29 + 15 then cellU 29 E (j - 29) else h.2.2 j) = (if 29 ≤ j ∧ j < 29 + 15 then cellU 29 E (j - 29) else if j = 13 ∨ (45 ≤ j ∧ j < 58) then cellC ab be V O j else h.2.2 j)
  by_cases q : j = 13 ∨ (45 ≤ j ∧ j < 58)
  · rw [if_pos q, if_neg (show ¬ (29 ≤ j ∧ j < 29 + 15) by omega), if_pos q]
  · rw [if_neg q, if_neg q]
theorem hZ_Y : hZ h ab be V O D E = hU (hX h ab be V O D) 29 E := by
  show hU (hC (hU h 29 E) ab be V O) 14 D = hU (hU (hC h ab be V O) 14 D) 29 E
  rw [hC_hU29, hU_sw (b := 14) (b2 := 29) (by omega)]
end RD
