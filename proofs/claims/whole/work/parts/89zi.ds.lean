/-! read: what an item does, on both sides -/
section RK
variable {d : Nat} {h : Hp} {Q : Pst} {ab be : Int32} {V : Nat → Int32} {O D E : Nat → Nat → Int32} {X R : Nat → Int32} {n a b g2 h2 w : Nat}
theorem upd_upd {f : Nat → Int32} {k : Nat} {x y : Int32} : upd (upd f k x) k y = upd f k y := by
  funext j
  by_cases q : j = k
  · rw [q, upd_eq, upd_eq]
  · rw [upd_ne q, upd_ne q, upd_ne q]
/-- the row that the class's spare block stands beside -/
def r0R (it : Nat) (R : Nat → Int32) : Nat → Int32 := if it = 0 then layR R 0 else R
theorem E_carry (hw : w < 6) (ho : (itm X n a b g2 h2 w).1 = true) (h0 : w = 0 → g2 = 0 ∧ h2 = 0) (hV : V 6 = nI w) (h7 : V 7 = (itm X n a b g2 h2 w).2.1) (h8 : (w = 1 ∨ w = 2 ∨ w = 3) → V 8 = (itm X n a b g2 h2 w).2.2.1) (ri : RI (r0R w R) g2 h2 0 0 0 0) (sm : SM E (r0R w R) g2 h2 0 0 0 0)
    (k : ∀ E2, RI (cmdR w (itm X n a b g2 h2 w).2.1 (itm X n a b g2 h2 w).2.2.1 R) (itG (itm X n a b g2 h2 w) w g2) (itH (itm X n a b g2 h2 w) w h2) 0 0 0 0 → SM E2 (cmdR w (itm X n a b g2 h2 w).2.1 (itm X n a b g2 h2 w).2.2.1 R) (itG (itm X n a b g2 h2 w) w g2) (itH (itm X n a b g2 h2 w) w h2) 0 0 0 0 → (∀ j, 208 ≤ j → cmdR w (itm X n a b g2 h2 w).2.1 (itm X n a b g2 h2 w).2.2.1 R j = R j) → Q none (hU (hX h ab be V O D) 29 E2)) :
    T (d + 6) 26 0 [.ref 45, .ref 29] [] (hU (hX h ab be V O D) 29 E) Q := by
  have g6 := ri.1.2
  have h4 := ri.2.1.2
  have hg : E 0 0 = nI g2 := sm.1.1.trans ri.1.1
  have hh : E 0 1 = nI h2 := sm.1.2.1.trans ri.2.1.1
  unfold itG itH at k
  by_cases two : w = 1 ∨ w = 2 ∨ w = 3
  · obtain ⟨nf, q1, q2, v1, v2⟩ := itm_v2 two ho
    have h8 := h8 two
    rw [v1] at h7
    rw [v2] at h8
    rw [ho, v1, v2] at k
    have hw0 : ¬ w = 0 := by omega
    unfold r0R at ri sm
    rw [if_neg hw0] at ri sm
    rcases two with rfl | rfl | rfl
    · obtain ⟨s, -, hs, e2⟩ := @nmR_l X n (tkA X n (tkE X n b)) (tkE X n (tkE X n b)) 1 30 (by decide) (by decide) q2
      have hlt : g2 < 6 := by omega
      refine (E_co1 hV hg hlt).2 ?_
      rw [h7, h8]
      have hc : ∀ x y, cmdR 1 x y R = rwG R x y g2 := fun x y => by
        show rwG R x y (R 12).toNatClampNeg = _
        rw [ri.1.1, nI_clamp (by omega)]
      rw [hc, if_pos (show true = true ∧ (1 : Nat) = 1 from ⟨rfl, rfl⟩), if_neg (show ¬ (true = true ∧ (1 : Nat) = 2) from fun z => absurd z.2 (by decide))] at k
      refine k _ (RI_guest ri hlt ⟨s, hs, e2⟩) (SM_guest ri sm hlt) (fun j hj => rwG_o (by omega) (by omega) (by omega) (by omega) (by omega))
    · obtain ⟨s, -, hs, e2⟩ := @nmR_l X n (tkA X n (tkE X n b)) (tkE X n (tkE X n b)) 1 30 (by decide) (by decide) q2
      have hlt : h2 < 4 := by omega
      refine (E_co2 hV hh hlt).2 ?_
      rw [h7, h8]
      have hc : ∀ x y, cmdR 2 x y R = rwH R x y h2 := fun x y => by
        show rwH R x y (R 25).toNatClampNeg = _
        rw [ri.2.1.1, nI_clamp (by omega)]
      rw [hc, if_neg (show ¬ (true = true ∧ (2 : Nat) = 1) from fun z => absurd z.2 (by decide)), if_pos (show true = true ∧ (2 : Nat) = 2 from ⟨rfl, rfl⟩)] at k
      refine k _ (RI_house ri hlt ⟨s, hs, e2⟩) (SM_house ri sm hlt) (fun j hj => rwH_o (by omega) (by omega) (by omega) (by omega))
    · obtain ⟨i, hi, e1⟩ := @nmR_g X n (tkA X n b) (tkE X n b) g2 g6 q1
      obtain ⟨j, hj, e2⟩ := @nmR_g X n (tkA X n (tkE X n b)) (tkE X n (tkE X n b)) h2 (by omega) q2
      have e1 : nmR X n (tkA X n b) (tkE X n b) (leT 0 3) (moT 0 3 g2 h2) = nI i := e1
      have e2 : nmR X n (tkA X n (tkE X n b)) (tkE X n (tkE X n b)) (leT 1 3) (moT 1 3 g2 h2) = nI j := e2
      rw [e1] at h7
      rw [e2] at h8
      rw [e1, e2] at k
      refine (E_co3 hV h7 (by omega)).2 ?_
      rw [h8]
      have hc : ∀ y, cmdR 3 (nI i) y R = upd R i y := fun y => by
        show upd R (nI i).toNatClampNeg y = _
        rw [nI_clamp (by omega)]
      rw [hc, if_neg (show ¬ (true = true ∧ (3 : Nat) = 1) from fun z => absurd z.2 (by decide)), if_neg (show ¬ (true = true ∧ (3 : Nat) = 2) from fun z => absurd z.2 (by decide))] at k
      exact k _ (RI_go ri hi (Or.inr ⟨j, hj, rfl⟩)) (SM_go ri sm hi) (fun j hj => upd_ne (by omega))
  · have one : w = 0 ∨ w = 4 ∨ w = 5 := by omega
    obtain ⟨q1, v1⟩ := itm_v1 one ho
    rw [v1] at h7
    rw [v1] at k
    generalize (itm X n a b g2 h2 w).2.2.1 = y at k
    rw [if_neg (show ¬ ((itm X n a b g2 h2 w).1 = true ∧ w = 1) from fun z => two (Or.inl z.2)), if_neg (show ¬ ((itm X n a b g2 h2 w).1 = true ∧ w = 2) from fun z => two (Or.inr (Or.inl z.2)))] at k
    rcases one with rfl | rfl | rfl
    · obtain ⟨s, -, hs, e1⟩ := @nmR_l X n (tkA X n b) (tkE X n b) 0 4 (by decide) (by decide) q1
      have e1 : nmR X n (tkA X n b) (tkE X n b) (leT 0 0) (moT 0 0 g2 h2) = nI s := e1
      rw [e1] at h7 k
      refine (E_co0 hV).2 ?_
      rw [h7]
      have er : r0R 0 R = layR R 0 := rfl
      rw [er] at ri sm
      have hc : cmdR 0 (nI s) y R = upd (layR R 0) 10 (nI s) := by
        show layR R (nI s) = _
        unfold layR
        rw [upd_upd]
      rw [hc] at k
      exact k _ (RI_wet ri ⟨s, hs, rfl⟩) (SM_wet ri sm) (fun j hj => by rw [upd_ne (by omega)]; unfold layR; rw [upd_ne (by omega), if_neg (by omega)])
    · obtain ⟨i, hi, e1⟩ := @nmR_g X n (tkA X n b) (tkE X n b) g2 g6 q1
      have e1 : nmR X n (tkA X n b) (tkE X n b) (leT 0 4) (moT 0 4 g2 h2) = nI i := e1
      rw [e1] at h7 k
      have er : r0R 4 R = R := rfl
      rw [er] at ri sm
      refine (E_co4 hV h7 (by omega)).2 ?_
      have hc : cmdR 4 (nI i) y R = upd R i (-1) := by
        show upd R (nI i).toNatClampNeg (-1) = _
        rw [nI_clamp (by omega)]
      rw [hc] at k
      exact k _ (RI_go ri hi (Or.inl rfl)) (SM_go ri sm hi) (fun j hj => upd_ne (by omega))
    · obtain ⟨i, hi1, hi2, e1⟩ := @nmR_l X n (tkA X n b) (tkE X n b) 1 99 (by decide) (by decide) q1
      have e1 : nmR X n (tkA X n b) (tkE X n b) (leT 0 5) (moT 0 5 g2 h2) = nI i := e1
      rw [e1] at h7 k
      have er : r0R 5 R = R := rfl
      rw [er] at ri sm
      have re := sm.rl ri
      obtain ⟨e, he9, he⟩ := ri.2.2.2.2.2.2.1.2.2.2
      have hde : E 0 3 = nI e := sm.1.2.2.2.trans he
      have ev := goR_isEv h4 g6 i e R he he9 ri.l4
      have hc : cmdR 5 (nI i) y R = goR g2 h2 i R := by
        show goR (R 12).toNatClampNeg (R 25).toNatClampNeg (nI i).toNatClampNeg R = _
        rw [ri.1.1, ri.2.1.1, nI_clamp (by omega), nI_clamp (by omega), nI_clamp (by omega)]
      rw [hc] at k
      refine (E_co5 hV h7 (by omega) re hde he9).2 ?_
      exact k _ (RI_ev ri ev he (by omega)) (SM_ev ri sm ev he) (fun j hj => ev.2.2 j (by omega) (by omega))
end RK
