/-! the reference's public calls: read -/
def rdA (o : Option Nat) : Int32 := match o with
  | some k => nI k
  | none => -1
/-- items from here on: how many, where it stands, the row -/
def rdL (X : Nat → Int32) (n : Nat) (dg : Bool) : Nat → Nat → Nat → Nat → Nat → Nat → (Nat → Int32) → Option Nat × Nat × (Nat → Int32)
  | 0, a, _, _, _, _, R => (none, a, R)
  | f + 1, a, b, it, g2, h2, R =>
    if ¬ it = 0 ∧ n ≤ a then (some it, a, R) else
    match wdH X n a b with
    | none => (none, a, R)
    | some w =>
      if ¬ (w = 0 ↔ it = 0) then (none, a, R) else
      if (itm X n a b g2 h2 w).1 = true then
        if tkA X n (itm X n a b g2 h2 w).2.2.2.2 < n ∧ X (tkA X n (itm X n a b g2 h2 w).2.2.2.2) = 59 then
          rdL X n dg f (tkA X n (tkE X n (itm X n a b g2 h2 w).2.2.2.2)) (tkE X n (tkE X n (itm X n a b g2 h2 w).2.2.2.2)) (it + 1) (itG (itm X n a b g2 h2 w) w g2) (itH (itm X n a b g2 h2 w) w h2) (if dg = true then cmdR w (itm X n a b g2 h2 w).2.1 (itm X n a b g2 h2 w).2.2.1 R else R)
        else (none, tkA X n (itm X n a b g2 h2 w).2.2.2.2, if dg = true then cmdR w (itm X n a b g2 h2 w).2.1 (itm X n a b g2 h2 w).2.2.1 R else R)
      else (none, (itm X n a b g2 h2 w).2.2.2.1, R)
theorem nm1 {w : Nat} (hw : w < 2 ^ 30) : ¬ nI w = -1 := by
  intro e
  have e2 : (nI w).toInt = (-1 : Int32).toInt := by rw [e]
  rw [nI_toInt (by omega), show (-1 : Int32).toInt = -1 from rfl] at e2
  omega
section PN
variable {d : Nat} {h : Hp} {Q : Pst} {X : Nat → Int32} {ab be : Int64} {n : Nat}
theorem skp_ge : ∀ f b, b ≤ skp X n f b := by
  intro f
  induction f with
  | zero => intro b; exact Nat.le_refl b
  | succ f ih => intro b; unfold skp; split
                 · have := ih (b + 1); omega
                 · exact Nat.le_refl b
theorem tkA_ge {b : Nat} : b ≤ tkA X n b := skp_ge _ _
theorem tkE_gt {b : Nat} (hb : tkA X n b < n) : tkA X n b + 1 ≤ tkE X n b := by
  unfold tkE
  simp only []
  rw [if_pos hb]
  have h1 : tkA X n b + 1 ≤ (if isLt X n (tkA X n b) = true then ext (isLt X n) (n + 1) (tkA X n b + 1) else tkA X n b + 1) := by
    split
    · exact ext_ge _ _
    · exact Nat.le_refl _
  split
  · exact Nat.le_trans h1 (ext_ge _ _)
  · exact h1
theorem it1_b {b : Nat} {lo hi : Int32} (hb : b ≤ n) : b ≤ (it1 X n b lo hi).2.2.2.2 ∧ (it1 X n b lo hi).2.2.2.2 ≤ n ∧ (it1 X n b lo hi).2.2.2.1 ≤ n := ⟨Nat.le_trans tkA_ge tkE_ge, tkE_le hb, tkA_le hb⟩
theorem it2_t {b : Nat} {lo hi lo2 hi2 : Int32} (q : (it1 X n b lo hi).1 = true) : (it2 X n b lo hi lo2 hi2).2.2.2 = (it1 X n (it1 X n b lo hi).2.2.2.2 lo2 hi2).2.2.2 := by
  unfold it2
  simp only [q, if_true]
theorem it2_f {b : Nat} {lo hi lo2 hi2 : Int32} (q : ¬ (it1 X n b lo hi).1 = true) : (it2 X n b lo hi lo2 hi2).2.2.2 = (it1 X n b lo hi).2.2.2 := by
  unfold it2
  simp only [q, if_false, Bool.false_eq_true]
theorem it2_b {b : Nat} {lo hi lo2 hi2 : Int32} (hb : b ≤ n) : b ≤ (it2 X n b lo hi lo2 hi2).2.2.2.2 ∧ (it2 X n b lo hi lo2 hi2).2.2.2.2 ≤ n ∧ (it2 X n b lo hi lo2 hi2).2.2.2.1 ≤ n := by
  have h1 := it1_b (X := X) (lo := lo) (hi := hi) hb
  by_cases q : (it1 X n b lo hi).1 = true
  · rw [it2_t q]
    have h2 := it1_b (X := X) (b := (it1 X n b lo hi).2.2.2.2) (lo := lo2) (hi := hi2) h1.2.1
    exact ⟨Nat.le_trans h1.1 h2.1, h2.2⟩
  · rw [it2_f q]
    exact h1
theorem itm_b {a b g2 h2 : Nat} (hb : b ≤ n) (ha : a ≤ n) : ∀ w, b ≤ (itm X n a b g2 h2 w).2.2.2.2 ∧ (itm X n a b g2 h2 w).2.2.2.2 ≤ n ∧ (itm X n a b g2 h2 w).2.2.2.1 ≤ n := by
  intro w
  unfold itm
  split
  · exact it1_b hb
  · split
    · exact ⟨Nat.le_refl b, hb, ha⟩
    · exact it2_b hb
  · split
    · exact ⟨Nat.le_refl b, hb, ha⟩
    · exact it2_b hb
  · exact it2_b hb
  · exact it1_b hb
  · exact it1_b hb
theorem wdH_lt {a e w : Nat} (hw : wdH X n a e = some w) : w < 6 ∧ a < n := by
  have key : ∀ k i, (fnd (fun w (_ : Unit) => isLt X n a && wdB X a e w) (fun _ s => s) k i ()).1 = some w → w < i + k ∧ a < n := by
    intro k
    induction k with
    | zero => intro i h; cases h
    | succ k ih =>
      intro i h
      unfold fnd at h
      split at h
      · rename_i c
        rw [Bool.and_eq_true] at c
        cases h
        exact ⟨by omega, isLt_lt c.1⟩
      · have := ih (i + 1) h
        exact ⟨by omega, this.2⟩
  have := key 6 0 hw
  exact ⟨by omega, this.2⟩
theorem itG_le {o : It} {w g2 a b h2 : Nat} (hg : g2 ≤ 6) (e : o = itm X n a b g2 h2 w) : itG o w g2 ≤ 6 := by
  unfold itG
  split
  · rename_i c
    obtain ⟨c1, rfl⟩ := c
    have : ¬ g2 = 6 := by
      intro q
      rw [e] at c1
      unfold itm at c1
      simp only [q, if_true, Bool.false_eq_true] at c1
    omega
  · exact hg
theorem itH_le {o : It} {w g2 a b h2 : Nat} (hh : h2 ≤ 4) (e : o = itm X n a b g2 h2 w) : itH o w h2 ≤ 4 := by
  unfold itH
  split
  · rename_i c
    obtain ⟨c1, rfl⟩ := c
    have : ¬ h2 = 4 := by
      intro q
      rw [e] at c1
      unfold itm at c1
      simp only [q, if_true, Bool.false_eq_true] at c1
    omega
  · exact hh
theorem goR_o {g hh k : Nat} (h1 : k ≠ 11) (h2 : k < 6 ∨ 10 ≤ k) (h4 : hh ≤ 4) : ∀ n (R : Nat → Int32), goR g hh n R k = R k := by
  intro n
  induction n with
  | zero => intro R; rfl
  | succ n ih =>
    intro R
    unfold goR
    split
    · rw [ih, psR_o _ (by omega) (by omega)]
    · rfl
theorem layR_in {R : Nat → Int32} {w : Int32} {k : Nat} (h1 : k ≠ 10) (h2 : k < 208) : layR R w k = 0 := by
  unfold layR
  rw [upd_ne h1, if_pos h2]
/-- the counts go along with the row -/
theorem cmd_ok {a b w g2 h2 : Nat} {R : Nat → Int32} (hw : w < 6) (hg : g2 ≤ 6) (hh : h2 ≤ 4) (h0 : w = 0 → g2 = 0 ∧ h2 = 0) (hR : ¬ w = 0 → R 12 = nI g2 ∧ R 25 = nI h2) (ho : (itm X n a b g2 h2 w).1 = true) : cmdR w (itm X n a b g2 h2 w).2.1 (itm X n a b g2 h2 w).2.2.1 R 12 = nI (itG (itm X n a b g2 h2 w) w g2) ∧ cmdR w (itm X n a b g2 h2 w).2.1 (itm X n a b g2 h2 w).2.2.1 R 25 = nI (itH (itm X n a b g2 h2 w) w h2) := by
  match w, hw with
  | 0, _ =>
    obtain ⟨rfl, rfl⟩ := h0 rfl
    unfold itG itH cmdR
    simp only [and_false, if_false, show ¬ (0 : Nat) = 1 by decide, show ¬ (0 : Nat) = 2 by decide]
    exact ⟨layR_in (by decide) (by decide), layR_in (by decide) (by decide)⟩
  | 1, _ =>
    obtain ⟨r1, r2⟩ := hR (by decide)
    have hlt : g2 < 6 := by
      have := itG_le (X := X) (n := n) (a := a) (b := b) (h2 := h2) (w := 1) hg rfl
      unfold itG at this
      rw [if_pos ⟨ho, rfl⟩] at this
      omega
    unfold itG itH cmdR
    simp only [ho, and_self, if_true, and_false, if_false, show ¬ (1 : Nat) = 2 by decide]
    rw [r1, nI_clamp (by omega)]
    unfold rwG
    exact ⟨by rw [upd_ne (by decide)]; exact upd_eq, by rw [upd_ne (by decide), upd_ne (by decide), upd_ne (by omega), upd_ne (by omega), upd_ne (by omega)]; exact r2⟩
  | 2, _ =>
    obtain ⟨r1, r2⟩ := hR (by decide)
    have hlt : h2 < 4 := by
      have := itH_le (X := X) (n := n) (a := a) (b := b) (g2 := g2) (w := 2) hh rfl
      unfold itH at this
      rw [if_pos ⟨ho, rfl⟩] at this
      omega
    unfold itG itH cmdR
    simp only [ho, and_self, if_true, and_false, if_false, show ¬ (2 : Nat) = 1 by decide]
    rw [r2, nI_clamp (by omega)]
    unfold rwH
    exact ⟨by rw [upd_ne (by decide), upd_ne (by decide), upd_ne (by omega), upd_ne (by omega)]; exact r1, by rw [upd_ne (by decide)]; exact upd_eq⟩
  | 3, _ =>
    obtain ⟨r1, r2⟩ := hR (by decide)
    have hk : (itm X n a b g2 h2 3).2.1.toNatClampNeg < 6 := by
      have hk2 := @nmR_g X n (tkA X n b) (tkE X n b) g2 hg
      unfold itm it2 it1 at ho ⊢
      simp only [] at ho ⊢
      generalize nmR X n (tkA X n b) (tkE X n b) 0 (nI g2 - 1) = v at ho hk2 ⊢
      by_cases q : v = -1
      · simp only [q, not_true_eq_false, decide_false, Bool.false_eq_true, if_false] at ho
      · obtain ⟨k, hk, rfl⟩ := hk2 q
        simp only [q, not_false_eq_true, decide_true, if_true]
        rw [nI_clamp (by omega)]; omega
    unfold itG itH cmdR
    simp only [and_false, if_false, show ¬ (3 : Nat) = 1 by decide, show ¬ (3 : Nat) = 2 by decide]
    exact ⟨by rw [upd_ne (by omega)]; exact r1, by rw [upd_ne (by omega)]; exact r2⟩
  | 4, _ =>
    obtain ⟨r1, r2⟩ := hR (by decide)
    have hk : (itm X n a b g2 h2 4).2.1.toNatClampNeg < 6 := by
      have hk2 := @nmR_g X n (tkA X n b) (tkE X n b) g2 hg
      unfold itm it1 at ho ⊢
      simp only [] at ho ⊢
      generalize nmR X n (tkA X n b) (tkE X n b) 0 (nI g2 - 1) = v at ho hk2 ⊢
      by_cases q : v = -1
      · simp only [q, not_true_eq_false, decide_false, Bool.false_eq_true] at ho
      · obtain ⟨k, hk, rfl⟩ := hk2 q
        rw [nI_clamp (by omega)]; omega
    unfold itG itH cmdR
    simp only [and_false, if_false, show ¬ (4 : Nat) = 1 by decide, show ¬ (4 : Nat) = 2 by decide]
    exact ⟨by rw [upd_ne (by omega)]; exact r1, by rw [upd_ne (by omega)]; exact r2⟩
  | 5, _ =>
    obtain ⟨r1, r2⟩ := hR (by decide)
    unfold itG itH cmdR
    simp only [and_false, if_false, show ¬ (5 : Nat) = 1 by decide, show ¬ (5 : Nat) = 2 by decide]
    rw [r2, nI_clamp (by omega)]
    exact ⟨by rw [goR_o (by decide) (by decide) hh]; exact r1, by rw [goR_o (by decide) (by decide) hh]; exact r2⟩
theorem L_items {dg : Int32} {dgb : Bool} (hdb : dg = zI dgb) (eX : h.2.2 62 = oI 150 X) (eW : h.2.2 63 = oI 48 wtab) (hn : n ≤ 150) : ∀ f a b it g2 h2 (R : Nat → Int32) (u : Value), a ≤ b → b ≤ n → n < a + f → it + f < 2 ^ 20 → g2 ≤ 6 → h2 ≤ 4 → (it = 0 → g2 = 0 ∧ h2 = 0) → (dgb = true → ¬ it = 0 → R 12 = nI g2 ∧ R 25 = nI h2) →
    (∀ z2 r5 r6, Q (some (.int (rdA (rdL X n dgb f a b it g2 h2 R).1))) (hm (md h ab be (nI n) (nI (rdL X n dgb f a b it g2 h2 R).2.1) z2 r5 r6 dg) (rdL X n dgb f a b it g2 h2 R).2.2)) →
    T (d + 9) 150 26 [.ref 58, .int dg, .int (nI it), u] [] (hm (md h ab be (nI n) (nI a) (nI b) (nI g2) (nI h2) dg) R) Q := by
  intro f
  induction f with
  | zero => intro a b it g2 h2 R u h1 h3 h4; omega
  | succ f ih =>
    intro a b it g2 h2 R u hab hb hf hit hg hh h0 hR k
    have e1 : ∀ z z2 r5 r6, (md h ab be (nI n) z z2 r5 r6 dg).2.2 58 = MO ab be (nI n) z z2 r5 r6 dg := fun _ _ _ _ => rfl
    have ho : ∀ z z2 r5 r6 R, isO ((hm (md h ab be (nI n) z z2 r5 r6 dg) R).2.2 58) 7 := fun z z2 r5 r6 R => md_mo.o
    have hx := ho (nI a) (nI b) (nI g2) (nI h2) R
    have dq : (¬ dg = 0) = (dgb = true) := by rw [hdb]; cases dgb <;> simp [zI]
    unfold rdL at k
    by_cases q : ¬ it = 0 ∧ n ≤ a
    · rw [if_pos q] at k
      have q1 := q.1
      simp (disch := first | assumption | omega | decide) only [t150_26, t150_27, t150_30, t150_31, t150_34, t150_35, t150_38, t150_123, t150_124, hm_58, hm_59, hm_up, e1, MO, gF_7_0, gF_7_1, gF_7_2, gF_7_3, gF_7_4, gF_7_5, gF_7_6, gF_7_7, aS_n, aS_l, aL_n, aL_l, ln_add, nl_add, ln_mul, nl_mul, nI_add, nI_1, i32_nl, ite_not, lt_nn, lt_nl, lt_ln, eq_nn, eq_nl, eq_ln, if_true, if_false, kil_i, kil_r, kil_l, kil_u, rl_s, rl_n, Nat.zero_add, Nat.lt_irrefl, not_true_eq_false, not_false_eq_true, true_and, dp_1, dp_2, dp_3, dp_4, dp_5, dp_6, dp_7, dp_8, dp_9, dp_10, dp_11, dp_12, dp_13, dp_14, dp_15, dp_16, dp_17, dp_18, dp_19, dp_20, dp_21, dp_22, dp_23, dp_24, dp_25, dp_26, dp_27, dp_28, dp_29, dp_30, dp_31, dp_32, dp_33, dp_34, dp_35, dp_36, dp_37, dp_38, dp_39, gF_7_8, q1, show ¬ a < n by omega]
      exact k _ _ _
    · rw [if_neg q] at k
      have e41 : T (d + 9) 150 26 [.ref 58, .int dg, .int (nI it), u] [] (hm (md h ab be (nI n) (nI a) (nI b) (nI g2) (nI h2) dg) R) Q ↔ T (d + 9) 150 41 [.ref 58, .int dg, .int (nI it), u] [] (hm (md h ab be (nI n) (nI a) (nI b) (nI g2) (nI h2) dg) R) Q := by
        by_cases q1 : it = 0
        · subst q1
          simp (disch := first | assumption | omega | decide) only [t150_26, t150_27, hm_58, hm_59, hm_up, e1, MO, gF_7_0, gF_7_1, gF_7_2, gF_7_3, gF_7_4, gF_7_5, gF_7_6, gF_7_7, aS_n, aS_l, aL_n, aL_l, ln_add, nl_add, ln_mul, nl_mul, nI_add, nI_1, i32_nl, ite_not, lt_nn, lt_nl, lt_ln, eq_nn, eq_nl, eq_ln, if_true, if_false, kil_i, kil_r, kil_l, kil_u, rl_s, rl_n, Nat.zero_add, Nat.lt_irrefl, not_true_eq_false, not_false_eq_true, true_and, dp_1, dp_2, dp_3, dp_4, dp_5, dp_6, dp_7, dp_8, dp_9, dp_10, dp_11, dp_12, dp_13, dp_14, dp_15, dp_16, dp_17, dp_18, dp_19, dp_20, dp_21, dp_22, dp_23, dp_24, dp_25, dp_26, dp_27, dp_28, dp_29, dp_30, dp_31, dp_32, dp_33, dp_34, dp_35, dp_36, dp_37, dp_38, dp_39, show nI 0 = 0 from rfl]
        · have q2 : a < n := by
            by_cases z : a < n
            · exact z
            · exact absurd ⟨q1, by omega⟩ q
          simp (disch := first | assumption | omega | decide) only [t150_26, t150_27, t150_30, t150_31, t150_34, t150_35, t150_38, hm_58, hm_59, hm_up, e1, MO, gF_7_0, gF_7_1, gF_7_2, gF_7_3, gF_7_4, gF_7_5, gF_7_6, gF_7_7, aS_n, aS_l, aL_n, aL_l, ln_add, nl_add, ln_mul, nl_mul, nI_add, nI_1, i32_nl, ite_not, lt_nn, lt_nl, lt_ln, eq_nn, eq_nl, eq_ln, if_true, if_false, kil_i, kil_r, kil_l, kil_u, rl_s, rl_n, Nat.zero_add, Nat.lt_irrefl, not_true_eq_false, not_false_eq_true, true_and, dp_1, dp_2, dp_3, dp_4, dp_5, dp_6, dp_7, dp_8, dp_9, dp_10, dp_11, dp_12, dp_13, dp_14, dp_15, dp_16, dp_17, dp_18, dp_19, dp_20, dp_21, dp_22, dp_23, dp_24, dp_25, dp_26, dp_27, dp_28, dp_29, dp_30, dp_31, dp_32, dp_33, dp_34, dp_35, dp_36, dp_37, dp_38, dp_39, gF_7_8, q1, q2]
      rw [e41]
      have W := @E_wordHere (d + 5) h (fun r h2 => T (d + 9) 150 45 [.ref 58, .int dg, .int (nI it), u] (rl r []) h2 Q) R X ab be n a b (nI g2) (nI h2) dg eX eW hn hab hb
      simp (disch := first | assumption | omega | decide) only [t150_41, t150_42, hm_58, hm_59, hm_up, e1, MO, gF_7_0, gF_7_1, gF_7_2, gF_7_3, gF_7_4, gF_7_5, gF_7_6, gF_7_7, aS_n, aS_l, aL_n, aL_l, ln_add, nl_add, ln_mul, nl_mul, nI_add, nI_1, i32_nl, ite_not, lt_nn, lt_nl, lt_ln, eq_nn, eq_nl, eq_ln, if_true, if_false, kil_i, kil_r, kil_l, kil_u, rl_s, rl_n, Nat.zero_add, Nat.lt_irrefl, not_true_eq_false, not_false_eq_true, true_and, dp_1, dp_2, dp_3, dp_4, dp_5, dp_6, dp_7, dp_8, dp_9, dp_10, dp_11, dp_12, dp_13, dp_14, dp_15, dp_16, dp_17, dp_18, dp_19, dp_20, dp_21, dp_22, dp_23, dp_24, dp_25, dp_26, dp_27, dp_28, dp_29, dp_30, dp_31, dp_32, dp_33, dp_34, dp_35, dp_36, dp_37, dp_38, dp_39]
      refine W.2 ?_
      cases hw : wdH X n a b with
      | none =>
        simp only [hw] at k
        simp (disch := first | assumption | omega | decide) only [t150_45, t150_46, t150_47, t150_48, t150_80, t150_81, hm_58, hm_59, hm_up, e1, MO, gF_7_0, gF_7_1, gF_7_2, gF_7_3, gF_7_4, gF_7_5, gF_7_6, gF_7_7, aS_n, aS_l, aL_n, aL_l, ln_add, nl_add, ln_mul, nl_mul, nI_add, nI_1, i32_nl, ite_not, lt_nn, lt_nl, lt_ln, eq_nn, eq_nl, eq_ln, if_true, if_false, kil_i, kil_r, kil_l, kil_u, rl_s, rl_n, Nat.zero_add, Nat.lt_irrefl, not_true_eq_false, not_false_eq_true, true_and, dp_1, dp_2, dp_3, dp_4, dp_5, dp_6, dp_7, dp_8, dp_9, dp_10, dp_11, dp_12, dp_13, dp_14, dp_15, dp_16, dp_17, dp_18, dp_19, dp_20, dp_21, dp_22, dp_23, dp_24, dp_25, dp_26, dp_27, dp_28, dp_29, dp_30, dp_31, dp_32, dp_33, dp_34, dp_35, dp_36, dp_37, dp_38, dp_39, not_true_eq_false, if_true]
        exact k _ _ _
      | some w =>
        simp only [hw] at k
        obtain ⟨hw6, han⟩ := wdH_lt hw
        have hw1 := nm1 (show w < 2 ^ 30 by omega)
        by_cases qs : w = 0 ↔ it = 0
        · rw [if_neg (not_not_intro qs)] at k
          have hRw : ¬ dg = 0 → ¬ w = 0 → R 12 = nI g2 ∧ R 25 = nI h2 := fun z1 z2 => hR (by rw [← dq]; exact z1) (fun z => z2 (qs.2 z))
          have C := @E_readsItem d h (fun r h2 => T (d + 9) 150 77 [.ref 58, .int dg, .int (nI it), .int (nI w)] (rl r []) h2 Q) R X ab be n a b w g2 h2 dg eX hn hb hw6 hg hh hRw
          have e74 : T (d + 9) 150 45 [.ref 58, .int dg, .int (nI it), u] (rl (some (.int (nI w))) []) (hm (md h ab be (nI n) (nI a) (nI b) (nI g2) (nI h2) dg) R) Q ↔ T (d + 9) 150 72 [.ref 58, .int dg, .int (nI it), .int (nI w)] [] (hm (md h ab be (nI n) (nI a) (nI b) (nI g2) (nI h2) dg) R) Q := by
            by_cases q1 : it = 0
            · have q2 := qs.2 q1
              subst q1
              subst q2
              simp (disch := first | assumption | omega | decide) only [t150_45, t150_46, t150_47, t150_48, t150_51, t150_52, t150_55, t150_56, t150_59, t150_60, t150_61, t150_64, t150_65, t150_68, t150_69, hm_58, hm_59, hm_up, e1, MO, gF_7_0, gF_7_1, gF_7_2, gF_7_3, gF_7_4, gF_7_5, gF_7_6, gF_7_7, aS_n, aS_l, aL_n, aL_l, ln_add, nl_add, ln_mul, nl_mul, nI_add, nI_1, i32_nl, ite_not, lt_nn, lt_nl, lt_ln, eq_nn, eq_nl, eq_ln, if_true, if_false, kil_i, kil_r, kil_l, kil_u, rl_s, rl_n, Nat.zero_add, Nat.lt_irrefl, not_true_eq_false, not_false_eq_true, true_and, dp_1, dp_2, dp_3, dp_4, dp_5, dp_6, dp_7, dp_8, dp_9, dp_10, dp_11, dp_12, dp_13, dp_14, dp_15, dp_16, dp_17, dp_18, dp_19, dp_20, dp_21, dp_22, dp_23, dp_24, dp_25, dp_26, dp_27, dp_28, dp_29, dp_30, dp_31, dp_32, dp_33, dp_34, dp_35, dp_36, dp_37, dp_38, dp_39, show nI 0 = 0 from rfl, show ¬ (0 : Int32) = -1 by decide]
            · have q2 : ¬ w = 0 := fun z => q1 (qs.1 z)
              simp (disch := first | assumption | omega | decide) only [t150_45, t150_46, t150_47, t150_48, t150_51, t150_52, t150_55, t150_56, t150_59, t150_60, t150_61, t150_64, t150_65, t150_68, t150_69, hm_58, hm_59, hm_up, e1, MO, gF_7_0, gF_7_1, gF_7_2, gF_7_3, gF_7_4, gF_7_5, gF_7_6, gF_7_7, aS_n, aS_l, aL_n, aL_l, ln_add, nl_add, ln_mul, nl_mul, nI_add, nI_1, i32_nl, ite_not, lt_nn, lt_nl, lt_ln, eq_nn, eq_nl, eq_ln, if_true, if_false, kil_i, kil_r, kil_l, kil_u, rl_s, rl_n, Nat.zero_add, Nat.lt_irrefl, not_true_eq_false, not_false_eq_true, true_and, dp_1, dp_2, dp_3, dp_4, dp_5, dp_6, dp_7, dp_8, dp_9, dp_10, dp_11, dp_12, dp_13, dp_14, dp_15, dp_16, dp_17, dp_18, dp_19, dp_20, dp_21, dp_22, dp_23, dp_24, dp_25, dp_26, dp_27, dp_28, dp_29, dp_30, dp_31, dp_32, dp_33, dp_34, dp_35, dp_36, dp_37, dp_38, dp_39, q1, q2, hw1]
          refine e74.2 ?_
          simp (disch := first | assumption | omega | decide) only [t150_72, t150_73, t150_74, hm_58, hm_59, hm_up, e1, MO, gF_7_0, gF_7_1, gF_7_2, gF_7_3, gF_7_4, gF_7_5, gF_7_6, gF_7_7, aS_n, aS_l, aL_n, aL_l, ln_add, nl_add, ln_mul, nl_mul, nI_add, nI_1, i32_nl, ite_not, lt_nn, lt_nl, lt_ln, eq_nn, eq_nl, eq_ln, if_true, if_false, kil_i, kil_r, kil_l, kil_u, rl_s, rl_n, Nat.zero_add, Nat.lt_irrefl, not_true_eq_false, not_false_eq_true, true_and, dp_1, dp_2, dp_3, dp_4, dp_5, dp_6, dp_7, dp_8, dp_9, dp_10, dp_11, dp_12, dp_13, dp_14, dp_15, dp_16, dp_17, dp_18, dp_19, dp_20, dp_21, dp_22, dp_23, dp_24, dp_25, dp_26, dp_27, dp_28, dp_29, dp_30, dp_31, dp_32, dp_33, dp_34, dp_35, dp_36, dp_37, dp_38, dp_39]
          refine C.2 ?_
          have ib := itm_b (X := X) (g2 := g2) (h2 := h2) hb (by omega : a ≤ n) w
          have ig := itG_le (X := X) (n := n) (a := a) (b := b) (g2 := g2) (h2 := h2) (w := w) hg rfl
          have ih2 := itH_le (X := X) (n := n) (a := a) (b := b) (g2 := g2) (h2 := h2) (w := w) hh rfl
          have ic := fun z => @cmd_ok X n a b w g2 h2 R hw6 hg hh (fun z => h0 (qs.1 z)) z
          by_cases qo : (itm X n a b g2 h2 w).1 = true
          · rw [if_pos qo] at k
            have e2 : (if ¬ dg = 0 ∧ (itm X n a b g2 h2 w).1 = true then cmdR w (itm X n a b g2 h2 w).2.1 (itm X n a b g2 h2 w).2.2.1 R else R) = (if dgb = true then cmdR w (itm X n a b g2 h2 w).2.1 (itm X n a b g2 h2 w).2.2.1 R else R) := by
              by_cases z : dgb = true
              · rw [if_pos ⟨by rw [dq]; exact z, qo⟩, if_pos z]
              · rw [if_neg (fun y => z (by rw [← dq]; exact y.1)), if_neg z]
            rw [e2]
            have ic2 : dgb = true → (if dgb = true then cmdR w (itm X n a b g2 h2 w).2.1 (itm X n a b g2 h2 w).2.2.1 R else R) 12 = nI (itG (itm X n a b g2 h2 w) w g2) ∧ (if dgb = true then cmdR w (itm X n a b g2 h2 w).2.1 (itm X n a b g2 h2 w).2.2.1 R else R) 25 = nI (itH (itm X n a b g2 h2 w) w h2) := by
              intro z
              rw [if_pos z]
              exact ic (fun y => hR z (fun x => y (qs.2 x))) qo
            generalize (if dgb = true then cmdR w (itm X n a b g2 h2 w).2.1 (itm X n a b g2 h2 w).2.2.1 R else R) = R2 at *
            generalize itG (itm X n a b g2 h2 w) w g2 = g3 at *
            generalize itH (itm X n a b g2 h2 w) w h2 = h3 at *
            generalize (itm X n a b g2 h2 w) = o at *
            obtain ⟨o1, o2, o3, oa, ob⟩ := o
            simp only [] at *
            subst qo
            have ha2 := tkA_le (X := X) ib.2.1
            have hb2 := tkE_le (X := X) ib.2.1
            have hg2 := tkA_ge (X := X) (n := n) (b := ob)
            have hy := ho (nI oa) (nI ob) (nI g3) (nI h3) R2
            have hz := ho (nI (tkA X n ob)) (nI (tkE X n ob)) (nI g3) (nI h3) R2
            simp (disch := first | assumption | omega | decide) only [t150_77, t150_80, t150_81, t150_82, t150_83, hm_58, hm_59, hm_up, e1, MO, gF_7_0, gF_7_1, gF_7_2, gF_7_3, gF_7_4, gF_7_5, gF_7_6, gF_7_7, aS_n, aS_l, aL_n, aL_l, ln_add, nl_add, ln_mul, nl_mul, nI_add, nI_1, i32_nl, ite_not, lt_nn, lt_nl, lt_ln, eq_nn, eq_nl, eq_ln, if_true, if_false, kil_i, kil_r, kil_l, kil_u, rl_s, rl_n, Nat.zero_add, Nat.lt_irrefl, not_true_eq_false, not_false_eq_true, true_and, dp_1, dp_2, dp_3, dp_4, dp_5, dp_6, dp_7, dp_8, dp_9, dp_10, dp_11, dp_12, dp_13, dp_14, dp_15, dp_16, dp_17, dp_18, dp_19, dp_20, dp_21, dp_22, dp_23, dp_24, dp_25, dp_26, dp_27, dp_28, dp_29, dp_30, dp_31, dp_32, dp_33, dp_34, dp_35, dp_36, dp_37, dp_38, dp_39, zI_0, E_next eX hn ib.2.1]
            by_cases q5 : tkA X n ob < n
            · have hlt := tkE_gt (X := X) (n := n) (b := ob) q5
              have hg4 := tkA_ge (X := X) (n := n) (b := tkE X n ob)
              have hle4 := tkE_le (X := X) hb2
              have hge4 := tkE_ge (X := X) (n := n) (b := tkE X n ob)
              by_cases q6 : X (tkA X n ob) = 59
              · rw [if_pos ⟨q5, q6⟩] at k
                simp (disch := first | assumption | omega | decide) only [t150_86, t150_87, t150_90, t150_91, t150_94, t150_97, t150_98, t150_101, t150_102, t150_105, t150_106, t150_108, t150_111, t150_112, t150_113, t150_116, t150_117, t150_120, hm_58, hm_59, hm_up, e1, MO, gF_7_0, gF_7_1, gF_7_2, gF_7_3, gF_7_4, gF_7_5, gF_7_6, gF_7_7, aS_n, aS_l, aL_n, aL_l, ln_add, nl_add, ln_mul, nl_mul, nI_add, nI_1, i32_nl, ite_not, lt_nn, lt_nl, lt_ln, eq_nn, eq_nl, eq_ln, if_true, if_false, kil_i, kil_r, kil_l, kil_u, rl_s, rl_n, Nat.zero_add, Nat.lt_irrefl, not_true_eq_false, not_false_eq_true, true_and, dp_1, dp_2, dp_3, dp_4, dp_5, dp_6, dp_7, dp_8, dp_9, dp_10, dp_11, dp_12, dp_13, dp_14, dp_15, dp_16, dp_17, dp_18, dp_19, dp_20, dp_21, dp_22, dp_23, dp_24, dp_25, dp_26, dp_27, dp_28, dp_29, dp_30, dp_31, dp_32, dp_33, dp_34, dp_35, dp_36, dp_37, dp_38, dp_39, gF_7_8, show ¬ tkA X n ob = n by omega, md_62, eX, q6, E_next eX hn hb2]
                exact ih _ _ _ _ _ _ _ hge4 hle4 (by omega) (by omega) ig ih2 (fun z => by omega) (fun z _ => ic2 z) k
              · rw [if_neg (fun z => q6 z.2)] at k
                simp (disch := first | assumption | omega | decide) only [t150_86, t150_87, t150_90, t150_91, t150_94, t150_97, t150_98, t150_101, t150_102, t150_105, t150_106, t150_108, t150_111, t150_112, hm_58, hm_59, hm_up, e1, MO, gF_7_0, gF_7_1, gF_7_2, gF_7_3, gF_7_4, gF_7_5, gF_7_6, gF_7_7, aS_n, aS_l, aL_n, aL_l, ln_add, nl_add, ln_mul, nl_mul, nI_add, nI_1, i32_nl, ite_not, lt_nn, lt_nl, lt_ln, eq_nn, eq_nl, eq_ln, if_true, if_false, kil_i, kil_r, kil_l, kil_u, rl_s, rl_n, Nat.zero_add, Nat.lt_irrefl, not_true_eq_false, not_false_eq_true, true_and, dp_1, dp_2, dp_3, dp_4, dp_5, dp_6, dp_7, dp_8, dp_9, dp_10, dp_11, dp_12, dp_13, dp_14, dp_15, dp_16, dp_17, dp_18, dp_19, dp_20, dp_21, dp_22, dp_23, dp_24, dp_25, dp_26, dp_27, dp_28, dp_29, dp_30, dp_31, dp_32, dp_33, dp_34, dp_35, dp_36, dp_37, dp_38, dp_39, gF_7_8, show ¬ tkA X n ob = n by omega, md_62, eX, q6]
                exact k _ _ _
            · rw [if_neg (fun z => q5 z.1)] at k
              simp (disch := first | assumption | omega | decide) only [t150_86, t150_87, t150_90, t150_91, t150_94, t150_97, t150_98, t150_101, t150_102, t150_105, t150_106, t150_108, t150_111, t150_112, hm_58, hm_59, hm_up, e1, MO, gF_7_0, gF_7_1, gF_7_2, gF_7_3, gF_7_4, gF_7_5, gF_7_6, gF_7_7, aS_n, aS_l, aL_n, aL_l, ln_add, nl_add, ln_mul, nl_mul, nI_add, nI_1, i32_nl, ite_not, lt_nn, lt_nl, lt_ln, eq_nn, eq_nl, eq_ln, if_true, if_false, kil_i, kil_r, kil_l, kil_u, rl_s, rl_n, Nat.zero_add, Nat.lt_irrefl, not_true_eq_false, not_false_eq_true, true_and, dp_1, dp_2, dp_3, dp_4, dp_5, dp_6, dp_7, dp_8, dp_9, dp_10, dp_11, dp_12, dp_13, dp_14, dp_15, dp_16, dp_17, dp_18, dp_19, dp_20, dp_21, dp_22, dp_23, dp_24, dp_25, dp_26, dp_27, dp_28, dp_29, dp_30, dp_31, dp_32, dp_33, dp_34, dp_35, dp_36, dp_37, dp_38, dp_39, gF_7_8, show tkA X n ob = n by omega]
              have e6 : tkA X n ob = n := by omega
              rw [e6] at k
              exact k _ _ _
          · rw [if_neg qo] at k
            rw [if_neg (fun z => qo z.2)]
            simp (disch := first | assumption | omega | decide) only [t150_77, t150_80, t150_81, hm_58, hm_59, hm_up, e1, MO, gF_7_0, gF_7_1, gF_7_2, gF_7_3, gF_7_4, gF_7_5, gF_7_6, gF_7_7, aS_n, aS_l, aL_n, aL_l, ln_add, nl_add, ln_mul, nl_mul, nI_add, nI_1, i32_nl, ite_not, lt_nn, lt_nl, lt_ln, eq_nn, eq_nl, eq_ln, if_true, if_false, kil_i, kil_r, kil_l, kil_u, rl_s, rl_n, Nat.zero_add, Nat.lt_irrefl, not_true_eq_false, not_false_eq_true, true_and, dp_1, dp_2, dp_3, dp_4, dp_5, dp_6, dp_7, dp_8, dp_9, dp_10, dp_11, dp_12, dp_13, dp_14, dp_15, dp_16, dp_17, dp_18, dp_19, dp_20, dp_21, dp_22, dp_23, dp_24, dp_25, dp_26, dp_27, dp_28, dp_29, dp_30, dp_31, dp_32, dp_33, dp_34, dp_35, dp_36, dp_37, dp_38, dp_39, zI_0, qo]
            exact k _ _ _
        · rw [if_pos qs] at k
          have e80 : T (d + 9) 150 45 [.ref 58, .int dg, .int (nI it), u] (rl (some (.int (nI w))) []) (hm (md h ab be (nI n) (nI a) (nI b) (nI g2) (nI h2) dg) R) Q ↔ T (d + 9) 150 80 [.ref 58, .int dg, .int (nI it), .int (nI w)] [] (hm (md h ab be (nI n) (nI a) (nI b) (nI g2) (nI h2) dg) R) Q := by
            by_cases q1 : it = 0
            · have q2 : ¬ w = 0 := fun z => qs ⟨fun _ => q1, fun _ => z⟩
              subst q1
              simp (disch := first | assumption | omega | decide) only [t150_45, t150_46, t150_47, t150_48, t150_51, t150_52, t150_55, t150_56, t150_59, t150_60, t150_61, t150_64, t150_65, t150_68, t150_69, hm_58, hm_59, hm_up, e1, MO, gF_7_0, gF_7_1, gF_7_2, gF_7_3, gF_7_4, gF_7_5, gF_7_6, gF_7_7, aS_n, aS_l, aL_n, aL_l, ln_add, nl_add, ln_mul, nl_mul, nI_add, nI_1, i32_nl, ite_not, lt_nn, lt_nl, lt_ln, eq_nn, eq_nl, eq_ln, if_true, if_false, kil_i, kil_r, kil_l, kil_u, rl_s, rl_n, Nat.zero_add, Nat.lt_irrefl, not_true_eq_false, not_false_eq_true, true_and, dp_1, dp_2, dp_3, dp_4, dp_5, dp_6, dp_7, dp_8, dp_9, dp_10, dp_11, dp_12, dp_13, dp_14, dp_15, dp_16, dp_17, dp_18, dp_19, dp_20, dp_21, dp_22, dp_23, dp_24, dp_25, dp_26, dp_27, dp_28, dp_29, dp_30, dp_31, dp_32, dp_33, dp_34, dp_35, dp_36, dp_37, dp_38, dp_39, q2, hw1, show nI 0 = 0 from rfl, z10, show ¬ (0 : Int32) = 1 by decide]
            · have q2 : w = 0 := by
                by_cases z : w = 0
                · exact z
                · exact absurd ⟨fun y => absurd y z, fun y => absurd y q1⟩ qs
              subst q2
              simp (disch := first | assumption | omega | decide) only [t150_45, t150_46, t150_47, t150_48, t150_51, t150_52, t150_55, t150_56, t150_59, t150_60, t150_61, t150_64, t150_65, t150_68, t150_69, hm_58, hm_59, hm_up, e1, MO, gF_7_0, gF_7_1, gF_7_2, gF_7_3, gF_7_4, gF_7_5, gF_7_6, gF_7_7, aS_n, aS_l, aL_n, aL_l, ln_add, nl_add, ln_mul, nl_mul, nI_add, nI_1, i32_nl, ite_not, lt_nn, lt_nl, lt_ln, eq_nn, eq_nl, eq_ln, if_true, if_false, kil_i, kil_r, kil_l, kil_u, rl_s, rl_n, Nat.zero_add, Nat.lt_irrefl, not_true_eq_false, not_false_eq_true, true_and, dp_1, dp_2, dp_3, dp_4, dp_5, dp_6, dp_7, dp_8, dp_9, dp_10, dp_11, dp_12, dp_13, dp_14, dp_15, dp_16, dp_17, dp_18, dp_19, dp_20, dp_21, dp_22, dp_23, dp_24, dp_25, dp_26, dp_27, dp_28, dp_29, dp_30, dp_31, dp_32, dp_33, dp_34, dp_35, dp_36, dp_37, dp_38, dp_39, q1, show ¬ nI 0 = -1 by decide, show nI 0 = 0 from rfl, show ¬ (1 : Int32) = 0 by decide, show ¬ (0 : Int32) = -1 by decide]
          refine e80.2 ?_
          simp (disch := first | assumption | omega | decide) only [t150_80, t150_81, hm_58, hm_59, hm_up, e1, MO, gF_7_0, gF_7_1, gF_7_2, gF_7_3, gF_7_4, gF_7_5, gF_7_6, gF_7_7, aS_n, aS_l, aL_n, aL_l, ln_add, nl_add, ln_mul, nl_mul, nI_add, nI_1, i32_nl, ite_not, lt_nn, lt_nl, lt_ln, eq_nn, eq_nl, eq_ln, if_true, if_false, kil_i, kil_r, kil_l, kil_u, rl_s, rl_n, Nat.zero_add, Nat.lt_irrefl, not_true_eq_false, not_false_eq_true, true_and, dp_1, dp_2, dp_3, dp_4, dp_5, dp_6, dp_7, dp_8, dp_9, dp_10, dp_11, dp_12, dp_13, dp_14, dp_15, dp_16, dp_17, dp_18, dp_19, dp_20, dp_21, dp_22, dp_23, dp_24, dp_25, dp_26, dp_27, dp_28, dp_29, dp_30, dp_31, dp_32, dp_33, dp_34, dp_35, dp_36, dp_37, dp_38, dp_39]
          exact k _ _ _
theorem E_readItems {dg : Int32} {dgb : Bool} {pa pb r5 r6 dg0 : Int32} {R : Nat → Int32} (hdb : dg = zI dgb) (eX : h.2.2 62 = oI 150 X) (eW : h.2.2 63 = oI 48 wtab) (hn : n ≤ 150)
    (k : ∀ z2 r5 r6, Q (some (.int (rdA (rdL X n dgb 152 (tkA X n 0) (tkE X n 0) 0 0 0 R).1))) (hm (md h ab be (nI n) (nI (rdL X n dgb 152 (tkA X n 0) (tkE X n 0) 0 0 0 R).2.1) z2 r5 r6 dg) (rdL X n dgb 152 (tkA X n 0) (tkE X n 0) 0 0 0 R).2.2)) :
    T (d + 9) 150 0 [.ref 58, .int dg, un, un] [] (hm (md h ab be (nI n) pa pb r5 r6 dg0) R) Q := by
  have e1 : ∀ z z2 r5 r6 dg, (md h ab be (nI n) z z2 r5 r6 dg).2.2 58 = MO ab be (nI n) z z2 r5 r6 dg := fun _ _ _ _ _ => rfl
  have ho : ∀ z z2 r5 r6 R, isO ((hm (md h ab be (nI n) z z2 r5 r6 dg) R).2.2 58) 7 := fun z z2 r5 r6 R => md_mo.o
  have hx := ho pa 0 0 0 R
  have hd : dg = 0 ∨ dg = 1 := by rw [hdb]; cases dgb <;> simp [zI]
  have en := @E_next (d + 6) h (fun r h2 => T (d + 9) 150 26 [.ref 58, .int dg, .int 0, un] (rl r []) h2 Q) R X ab be n 0 pa 0 0 dg eX hn (by omega)
  rw [show nI 0 = 0 from rfl] at en
  simp (disch := first | assumption | omega | decide) only [t150_0, t150_1, t150_2, t150_5, t150_6, t150_7, t150_10, t150_11, t150_12, t150_15, t150_16, t150_17, t150_20, t150_21, t150_22, t150_23, hm_58, hm_59, hm_up, e1, MO, gF_7_0, gF_7_1, gF_7_2, gF_7_3, gF_7_4, gF_7_5, gF_7_6, gF_7_7, aS_n, aS_l, aL_n, aL_l, ln_add, nl_add, ln_mul, nl_mul, nI_add, nI_1, i32_nl, ite_not, lt_nn, lt_nl, lt_ln, eq_nn, eq_nl, eq_ln, if_true, if_false, kil_i, kil_r, kil_l, kil_u, rl_s, rl_n, Nat.zero_add, Nat.lt_irrefl, not_true_eq_false, not_false_eq_true, true_and, dp_1, dp_2, dp_3, dp_4, dp_5, dp_6, dp_7, dp_8, dp_9, dp_10, dp_11, dp_12, dp_13, dp_14, dp_15, dp_16, dp_17, dp_18, dp_19, dp_20, dp_21, dp_22, dp_23, dp_24, dp_25, dp_26, dp_27, dp_28, dp_29, dp_30, dp_31, dp_32, dp_33, dp_34, dp_35, dp_36, dp_37, dp_38, dp_39, gF_7_8, gF_7_9, gF_7_10, gF_7_11, gF_7_12, pF_7_9, pF_7_10, pF_7_11, pF_7_12, hd, md_up]
  refine en.2 ?_
  exact L_items hdb eX eW hn 152 (tkA X n 0) (tkE X n 0) 0 0 0 R un tkE_ge (tkE_le (by omega)) (by omega) (by omega) (by omega) (by omega) (fun _ => ⟨rfl, rfl⟩) (fun _ z => absurd rfl z) k
/-- read: the text, its length -/
def sp_read (n : Nat) (S : St) : Int32 × St :=
  match (rdL (sT S) n false 152 (tkA (sT S) n 0) (tkE (sT S) n 0) 0 0 0 (sR S)).1 with
  | none => (-10 - nI (rdL (sT S) n false 152 (tkA (sT S) n 0) (tkE (sT S) n 0) 0 0 0 (sR S)).2.1, S)
  | some it => (nI it, stR S (upd (rdL (sT S) n true 152 (tkA (sT S) n 0) (tkE (sT S) n 0) 0 0 0 (sR S)).2.2 111 0))
theorem rdL_f : ∀ f a b it g2 h2 (R : Nat → Int32), (rdL X n false f a b it g2 h2 R).2.2 = R := by
  intro f
  induction f with
  | zero => intro a b it g2 h2 R; rfl
  | succ f ih =>
    intro a b it g2 h2 R
    unfold rdL
    split
    · rfl
    · split
      · rfl
      · split
        · rfl
        · split
          · split
            · simp only [Bool.false_eq_true, if_false]; exact ih _ _ _ _ _ _
            · simp only [Bool.false_eq_true, if_false]
          · rfl
end PN
theorem M_read {d : Nat} {h : Hp} {Q : Pst} {S : St} {n : Nat} (m : ModelAt h S) (hn0 : sL S = nI n) (hn : n ≤ 150) (k : ∀ h2, ModelAt h2 (sp_read n S).2 → frM h h2 → Q (some (.int (sp_read n S).1)) h2) : T (d + 10) 151 0 [.ref 58, un] [] h Q := by
  obtain ⟨⟨pa, pb, r5, r6, dg, e0⟩, ea1, ea2, ea3, ea4, ea5, fq1, fq2, fq3, fq4, fq5, e6, e7, e8, e9, e10⟩ := id m
  have hself : hm (md h (sA S) (sB S) (nI n) pa pb r5 r6 dg) (sR S) = h := by
    unfold md
    rw [← hn0, ← e0, hup_id, m.self]
  have e1 : ∀ z z2 r5 r6 dg, (md h (sA S) (sB S) (nI n) z z2 r5 r6 dg).2.2 58 = MO (sA S) (sB S) (nI n) z z2 r5 r6 dg := fun _ _ _ _ _ => rfl
  have ho : ∀ z z2 r5 r6 dg R, isO ((hm (md h (sA S) (sB S) (nI n) z z2 r5 r6 dg) R).2.2 58) 7 := fun z z2 r5 r6 dg R => md_mo.o
  have done : ∀ z z2 r5 r6 dg R, ModelAt (hm (md h (sA S) (sB S) (nI n) z z2 r5 r6 dg) R) (stR S R) := by
    intro z z2 r5 r6 dg R
    refine ⟨⟨z, z2, r5, r6, dg, ?_⟩, rfl, ea2, ea3, ea4, ea5, fq1, fq2, fq3, fq4, fq5, e6, e7, e8, e9, e10⟩
    show _ = MO (sA S) (sB S) (sL S) z z2 r5 r6 dg
    rw [hn0]; rfl
  have fr : ∀ z z2 r5 r6 dg R, frM h (hm (md h (sA S) (sB S) (nI n) z z2 r5 r6 dg) R) := fun z z2 r5 r6 dg R => (frM.rf.up (by decide) (by decide)).row
  refine T_eq hself ?_
  have hx := ho pa pb r5 r6 dg (sR S)
  have nm2 : ∀ it, it < 2 ^ 30 → ¬ nI it = -1 := fun it hi => nm1 hi
  simp (disch := first | assumption | omega | decide) only [t151_0, t151_1, t151_2, hm_58, hm_59, hm_up, e1, MO, gF_7_0, gF_7_1, gF_7_2, gF_7_3, gF_7_4, gF_7_5, gF_7_6, gF_7_7, aS_n, aS_l, aL_n, aL_l, ln_add, nl_add, ln_mul, nl_mul, nI_add, nI_1, i32_nl, ite_not, lt_nn, lt_nl, lt_ln, eq_nn, eq_nl, eq_ln, if_true, if_false, kil_i, kil_r, kil_l, kil_u, rl_s, rl_n, Nat.zero_add, Nat.lt_irrefl, not_true_eq_false, not_false_eq_true, true_and, dp_1, dp_2, dp_3, dp_4, dp_5, dp_6, dp_7, dp_8, dp_9, dp_10, dp_11, dp_12, dp_13, dp_14, dp_15, dp_16, dp_17, dp_18, dp_19, dp_20, dp_21, dp_22, dp_23, dp_24, dp_25, dp_26, dp_27, dp_28, dp_29, dp_30, dp_31, dp_32, dp_33, dp_34, dp_35, dp_36, dp_37, dp_38, dp_39]
  refine E_readItems (dg := 0) (dgb := false) rfl ea4 ea5 hn ?_
  intro z2 r5 r6
  rw [rdL_f]
  unfold sp_read at k
  have hlt : ∀ it, (rdL (sT S) n false 152 (tkA (sT S) n 0) (tkE (sT S) n 0) 0 0 0 (sR S)).1 = some it → it < 2 ^ 30 := by
    have key : ∀ f a b it g2 h2 (R : Nat → Int32) v, (rdL (sT S) n false f a b it g2 h2 R).1 = some v → v ≤ it + f := by
      intro f
      induction f with
      | zero => intro a b it g2 h2 R v z; cases z
      | succ f ih =>
        intro a b it g2 h2 R v z
        unfold rdL at z
        split at z
        · cases z; omega
        · split at z
          · cases z
          · split at z
            · cases z
            · split at z
              · split at z
                · have := ih _ _ _ _ _ _ _ z; omega
                · cases z
              · cases z
    intro it z
    have := key _ _ _ _ _ _ _ _ z
    omega
  generalize hv : rdL (sT S) n false 152 (tkA (sT S) n 0) (tkE (sT S) n 0) 0 0 0 (sR S) = v at k hlt ⊢
  obtain ⟨v1, va, vR⟩ := v
  cases v1 with
  | none =>
    simp only [] at k
    simp (disch := first | assumption | omega | decide) only [t151_5, t151_6, t151_7, t151_8, t151_11, t151_13, t151_14, t151_17, t151_18, hm_58, hm_59, hm_up, e1, MO, gF_7_0, gF_7_1, gF_7_2, gF_7_3, gF_7_4, gF_7_5, gF_7_6, gF_7_7, aS_n, aS_l, aL_n, aL_l, ln_add, nl_add, ln_mul, nl_mul, nI_add, nI_1, i32_nl, ite_not, lt_nn, lt_nl, lt_ln, eq_nn, eq_nl, eq_ln, if_true, if_false, kil_i, kil_r, kil_l, kil_u, rl_s, rl_n, Nat.zero_add, Nat.lt_irrefl, not_true_eq_false, not_false_eq_true, true_and, dp_1, dp_2, dp_3, dp_4, dp_5, dp_6, dp_7, dp_8, dp_9, dp_10, dp_11, dp_12, dp_13, dp_14, dp_15, dp_16, dp_17, dp_18, dp_19, dp_20, dp_21, dp_22, dp_23, dp_24, dp_25, dp_26, dp_27, dp_28, dp_29, dp_30, dp_31, dp_32, dp_33, dp_34, dp_35, dp_36, dp_37, dp_38, dp_39, gF_7_8, rdA]
    have := done (nI va) z2 r5 r6 0 (sR S)
    exact k _ this (fr _ _ _ _ _ _)
  | some it =>
    simp only [] at k
    have hi := hlt it rfl
    have h1 := nm2 it hi
    have hy := ho (nI va) z2 r5 r6 0 (sR S)
    simp (disch := first | assumption | omega | decide) only [t151_5, t151_6, t151_7, t151_8, t151_11, t151_13, t151_14, t151_17, t151_18, t151_19, t151_20, t151_21, hm_58, hm_59, hm_up, e1, MO, gF_7_0, gF_7_1, gF_7_2, gF_7_3, gF_7_4, gF_7_5, gF_7_6, gF_7_7, aS_n, aS_l, aL_n, aL_l, ln_add, nl_add, ln_mul, nl_mul, nI_add, nI_1, i32_nl, ite_not, lt_nn, lt_nl, lt_ln, eq_nn, eq_nl, eq_ln, if_true, if_false, kil_i, kil_r, kil_l, kil_u, rl_s, rl_n, Nat.zero_add, Nat.lt_irrefl, not_true_eq_false, not_false_eq_true, true_and, dp_1, dp_2, dp_3, dp_4, dp_5, dp_6, dp_7, dp_8, dp_9, dp_10, dp_11, dp_12, dp_13, dp_14, dp_15, dp_16, dp_17, dp_18, dp_19, dp_20, dp_21, dp_22, dp_23, dp_24, dp_25, dp_26, dp_27, dp_28, dp_29, dp_30, dp_31, dp_32, dp_33, dp_34, dp_35, dp_36, dp_37, dp_38, dp_39, gF_7_8, rdA, h1]
    refine E_readItems (dg := 1) (dgb := true) rfl ea4 ea5 hn ?_
    intro z3 r7 r8
    generalize rdL (sT S) n true 152 (tkA (sT S) n 0) (tkE (sT S) n 0) 0 0 0 (sR S) = v2 at k ⊢
    obtain ⟨w1, wa, wR⟩ := v2
    simp only [] at k ⊢
    simp (disch := first | assumption | omega | decide) only [t151_24, t151_25, t151_26, t151_29, t151_31, t151_32, t151_33, t151_34, hm_58, hm_59, hm_up, e1, MO, gF_7_0, gF_7_1, gF_7_2, gF_7_3, gF_7_4, gF_7_5, gF_7_6, gF_7_7, aS_n, aS_l, aL_n, aL_l, ln_add, nl_add, ln_mul, nl_mul, nI_add, nI_1, i32_nl, ite_not, lt_nn, lt_nl, lt_ln, eq_nn, eq_nl, eq_ln, if_true, if_false, kil_i, kil_r, kil_l, kil_u, rl_s, rl_n, Nat.zero_add, Nat.lt_irrefl, not_true_eq_false, not_false_eq_true, true_and, dp_1, dp_2, dp_3, dp_4, dp_5, dp_6, dp_7, dp_8, dp_9, dp_10, dp_11, dp_12, dp_13, dp_14, dp_15, dp_16, dp_17, dp_18, dp_19, dp_20, dp_21, dp_22, dp_23, dp_24, dp_25, dp_26, dp_27, dp_28, dp_29, dp_30, dp_31, dp_32, dp_33, dp_34, dp_35, dp_36, dp_37, dp_38, dp_39, gF_7_8]
    exact k _ (done (nI wa) z3 r7 r8 1 (upd wR 111 0)) (fr _ _ _ _ _ _)
