/-! read: an item, put together -/
section RJ
variable {d : Nat} {h : Hp} {Q : Pst} {ab be : Int32} {O D E : Nat → Nat → Int32} {X : Nat → Int32} {n a b g2 h2 w : Nat} {x5 x6 x7 x8 : Int32}
theorem itm_1 (hw : w = 0 ∨ w = 4 ∨ w = 5) : itm X n a b g2 h2 w = it1 X n b (leT 0 w) (moT 0 w g2 h2) := by
  rcases hw with rfl | rfl | rfl <;> rfl
theorem itm_f (hf : (w = 1 ∧ g2 = 6) ∨ (w = 2 ∧ h2 = 4)) : itm X n a b g2 h2 w = (false, 0, 0, a, b) := by
  rcases hf with ⟨rfl, rfl⟩ | ⟨rfl, rfl⟩ <;> rfl
theorem itm_2 (hw : w = 1 ∨ w = 2 ∨ w = 3) (hf : ¬ ((w = 1 ∧ g2 = 6) ∨ (w = 2 ∧ h2 = 4))) : itm X n a b g2 h2 w = it2 X n b (leT 0 w) (moT 0 w g2 h2) (leT 1 w) (moT 1 w g2 h2) := by
  rcases hw with rfl | rfl | rfl
  · have q : ¬ g2 = 6 := fun z => hf (Or.inl ⟨rfl, z⟩)
    show (if g2 = 6 then (false, 0, 0, a, b) else it2 X n b 0 5 1 30) = _
    rw [if_neg q]; rfl
  · have q : ¬ h2 = 4 := fun z => hf (Or.inr ⟨rfl, z⟩)
    show (if h2 = 4 then (false, 0, 0, a, b) else it2 X n b 0 5 1 30) = _
    rw [if_neg q]; rfl
  · rfl
theorem it1_y {lo hi : Int32} (q : ¬ nmR X n (tkA X n b) (tkE X n b) lo hi = -1) : it1 X n b lo hi = (true, nmR X n (tkA X n b) (tkE X n b) lo hi, 0, tkA X n b, tkE X n b) := by
  unfold it1; rw [decide_eq_true q]
theorem it1_n {lo hi : Int32} (q : nmR X n (tkA X n b) (tkE X n b) lo hi = -1) : it1 X n b lo hi = (false, nmR X n (tkA X n b) (tkE X n b) lo hi, 0, tkA X n b, tkE X n b) := by
  unfold it1; rw [decide_eq_false (not_not_intro q)]
theorem it2_n {lo hi lo2 hi2 : Int32} (q : nmR X n (tkA X n b) (tkE X n b) lo hi = -1) : it2 X n b lo hi lo2 hi2 = (false, nmR X n (tkA X n b) (tkE X n b) lo hi, 0, tkA X n b, tkE X n b) := by
  unfold it2; rw [it1_n q]; rfl
theorem it2_yn {lo hi lo2 hi2 : Int32} (q : ¬ nmR X n (tkA X n b) (tkE X n b) lo hi = -1) (q2 : nmR X n (tkA X n (tkE X n b)) (tkE X n (tkE X n b)) lo2 hi2 = -1) : it2 X n b lo hi lo2 hi2 = (false, nmR X n (tkA X n b) (tkE X n b) lo hi, nmR X n (tkA X n (tkE X n b)) (tkE X n (tkE X n b)) lo2 hi2, tkA X n (tkE X n b), tkE X n (tkE X n b)) := by
  unfold it2; rw [it1_y q]
  show (if true = true then ((it1 X n (tkE X n b) lo2 hi2).1, _) else _) = _
  rw [if_pos rfl, it1_n q2]
theorem it2_yy {lo hi lo2 hi2 : Int32} (q : ¬ nmR X n (tkA X n b) (tkE X n b) lo hi = -1) (q2 : ¬ nmR X n (tkA X n (tkE X n b)) (tkE X n (tkE X n b)) lo2 hi2 = -1) : it2 X n b lo hi lo2 hi2 = (true, nmR X n (tkA X n b) (tkE X n b) lo hi, nmR X n (tkA X n (tkE X n b)) (tkE X n (tkE X n b)) lo2 hi2, tkA X n (tkE X n b), tkE X n (tkE X n b)) := by
  unfold it2; rw [it1_y q]
  show (if true = true then ((it1 X n (tkE X n b) lo2 hi2).1, _) else _) = _
  rw [if_pos rfl, it1_y q2]
/-- what an item that stands says -/
theorem itm_v1 (hw : w = 0 ∨ w = 4 ∨ w = 5) (ho : (itm X n a b g2 h2 w).1 = true) : ¬ nmR X n (tkA X n b) (tkE X n b) (leT 0 w) (moT 0 w g2 h2) = -1 ∧ (itm X n a b g2 h2 w).2.1 = nmR X n (tkA X n b) (tkE X n b) (leT 0 w) (moT 0 w g2 h2) := by
  rw [itm_1 hw] at ho ⊢
  by_cases q : nmR X n (tkA X n b) (tkE X n b) (leT 0 w) (moT 0 w g2 h2) = -1
  · rw [it1_n q] at ho; exact absurd ho Bool.false_ne_true
  · exact ⟨q, rfl⟩
theorem itm_v2 (hw : w = 1 ∨ w = 2 ∨ w = 3) (ho : (itm X n a b g2 h2 w).1 = true) : ¬ ((w = 1 ∧ g2 = 6) ∨ (w = 2 ∧ h2 = 4)) ∧ ¬ nmR X n (tkA X n b) (tkE X n b) (leT 0 w) (moT 0 w g2 h2) = -1 ∧ ¬ nmR X n (tkA X n (tkE X n b)) (tkE X n (tkE X n b)) (leT 1 w) (moT 1 w g2 h2) = -1 ∧ (itm X n a b g2 h2 w).2.1 = nmR X n (tkA X n b) (tkE X n b) (leT 0 w) (moT 0 w g2 h2) ∧ (itm X n a b g2 h2 w).2.2.1 = nmR X n (tkA X n (tkE X n b)) (tkE X n (tkE X n b)) (leT 1 w) (moT 1 w g2 h2) := by
  by_cases full : (w = 1 ∧ g2 = 6) ∨ (w = 2 ∧ h2 = 4)
  · rw [itm_f full] at ho; exact absurd ho Bool.false_ne_true
  · rw [itm_2 hw full] at ho ⊢
    by_cases q : nmR X n (tkA X n b) (tkE X n b) (leT 0 w) (moT 0 w g2 h2) = -1
    · rw [it2_n q] at ho; exact absurd ho Bool.false_ne_true
    · by_cases q2 : nmR X n (tkA X n (tkE X n b)) (tkE X n (tkE X n b)) (leT 1 w) (moT 1 w g2 h2) = -1
      · rw [it2_yn q q2] at ho; exact absurd ho Bool.false_ne_true
      · rw [it2_yy q q2]
        exact ⟨full, q, q2, rfl, rfl⟩
theorem E_ri {f : Bool} (s : StrOk h) (hO : O 46 = X) (hn : n ≤ 150) (hb : b ≤ n) (hw : wdH X n a b = some w) (hf : f = true ↔ w = 0) (hg : E 0 0 = nI g2) (hh : E 0 1 = nI h2) (g6 : g2 ≤ 6) (h4 : h2 ≤ 4)
    (k1 : (itm X n a b g2 h2 w).1 = true → (tkA X n (itm X n a b g2 h2 w).2.2.2.2 < n ∧ X (tkA X n (itm X n a b g2 h2 w).2.2.2.2) = 59) → ∀ x3 x4 x5 x8, ((w = 1 ∨ w = 2 ∨ w = 3) → x8 = (itm X n a b g2 h2 w).2.2.1) → Q (some (.int 1)) (hZ h ab be (vq (nI n) (nI (tkE X n (itm X n a b g2 h2 w).2.2.2.2)) x3 x4 x5 (nI w) (itm X n a b g2 h2 w).2.1 x8) O D E))
    (k2 : (itm X n a b g2 h2 w).1 = true → ¬ (tkA X n (itm X n a b g2 h2 w).2.2.2.2 < n ∧ X (tkA X n (itm X n a b g2 h2 w).2.2.2.2) = 59) → ∀ x2 x4 x5 x6 x7 x8, Q (some (.int 0)) (hZ h ab be (vq (nI n) x2 (nI (tkA X n (itm X n a b g2 h2 w).2.2.2.2)) x4 x5 x6 x7 x8) O D E))
    (k3 : ¬ (itm X n a b g2 h2 w).1 = true → ∀ x2 x4 x5 x6 x7 x8, Q (some (.int 0)) (hZ h ab be (vq (nI n) x2 (nI (itm X n a b g2 h2 w).2.2.2.1) x4 x5 x6 x7 x8) O D E)) :
    T (d + 13) 20 0 [.ref 45, .ref 29, .int (zI f)] [] (hZ h ab be (vq (nI n) (nI b) (nI a) (tkT X n a b) (tkV X n a b x5) x6 x7 x8) O D E) Q := by
  refine (E_ri0s hw hg hh g6 h4).2 ?_
  have w6 := (wdH_lt hw).1
  have he := tkE_le (X := X) hb
  by_cases full : (w = 1 ∧ g2 = 6) ∨ (w = 2 ∧ h2 = 4)
  · rw [itm_f full] at k3
    rw [if_neg (fun z => full.elim z.2.1 z.2.2)]
    exact k3 Bool.false_ne_true _ _ _ _ _ _
  · rw [if_pos ⟨hf, fun z => full (Or.inl z), fun z => full (Or.inr z)⟩]
    by_cases two : w = 1 ∨ w = 2 ∨ w = 3
    · rw [itm_2 two full] at k1 k2 k3
      refine (E_ri2 s hO hn hb two hg hh).2 ?_
      by_cases q : nmR X n (tkA X n b) (tkE X n b) (leT 0 w) (moT 0 w g2 h2) = -1
      · rw [if_pos q]
        rw [it2_n q] at k3
        exact k3 Bool.false_ne_true _ _ _ _ _ _
      · rw [if_neg q]
        refine (E_ri3 s hO hn he two hg hh).2 ?_
        by_cases q2 : nmR X n (tkA X n (tkE X n b)) (tkE X n (tkE X n b)) (leT 1 w) (moT 1 w g2 h2) = -1
        · rw [if_pos q2]
          rw [it2_yn q q2] at k3
          exact k3 Bool.false_ne_true _ _ _ _ _ _
        · rw [if_neg q2]
          rw [it2_yy q q2] at k1 k2
          by_cases q3 : tkT X n (tkA X n (tkE X n (tkE X n b))) (tkE X n (tkE X n (tkE X n b))) = 3
          · rw [decide_eq_true q3]
            exact k1 rfl (tk_stop.mp q3) _ _ _ _ (fun _ => rfl)
          · rw [decide_eq_false q3]
            exact k2 rfl (fun z => q3 (tk_stop.mpr z)) _ _ _ _ _ _
    · have one : w = 0 ∨ w = 4 ∨ w = 5 := by omega
      rw [itm_1 one] at k1 k2 k3
      refine (E_ri1 (h2 := h2) s hO hn hb one hg).2 ?_
      by_cases q : nmR X n (tkA X n b) (tkE X n b) (leT 0 w) (moT 0 w g2 h2) = -1
      · rw [if_neg (not_not_intro q)]
        rw [it1_n q] at k3
        exact k3 Bool.false_ne_true _ _ _ _ _ _
      · rw [if_pos q]
        rw [it1_y q] at k1 k2
        by_cases q3 : tkT X n (tkA X n (tkE X n b)) (tkE X n (tkE X n b)) = 3
        · rw [decide_eq_true q3]
          exact k1 rfl (tk_stop.mp q3) _ _ _ _ (fun z => absurd z two)
        · rw [decide_eq_false q3]
          exact k2 rfl (fun z => q3 (tk_stop.mpr z)) _ _ _ _ _ _
end RJ
