/-! the reference's public calls: place, all its lines -/
abbrev Pl : Type := Int32 × (Nat → Int32) × (Nat → Int32)
def cp6 (L B : Nat → Int32) : Nat → Int32 := itr (fun k B => upd B k (L k)) 6 0 B
/-- a line looked at -/
def vsM (g hh : Nat) (L : Nat → Int32) (s : Pl) : Pl :=
  let R2 := plR L g s.2.2
  let v := plV R2 g hh
  (if s.1 < v then v else s.1, if s.1 < v then cp6 L s.2.1 else s.2.1, R2)
/-- all lines whose last n places are free -/
def dfsM (g hh : Nat) : Nat → (Nat → Int32) → Pl → Pl
  | 0, L, s => vsM g hh L s
  | n + 1, L, s => itr (fun d s => dfsM g hh n (upd L (g - (n + 1)) (nI d)) s) (hh + 1) 0 s
section PI
variable {d : Nat} {h : Hp} {Q : Pst} {S : St} {g hh : Nat}
def plOk (g hh : Nat) (R : Nat → Int32) : Prop := R 12 = nI g ∧ R 25 = nI hh
theorem vsM_ok {L : Nat → Int32} {s : Pl} (e : plOk g hh s.2.2) : plOk g hh (vsM g hh L s).2.2 := by
  exact ⟨(plR_o (L := L) (g := g) (R := s.2.2) (by omega)).trans e.1, (plR_o (L := L) (g := g) (R := s.2.2) (by omega)).trans e.2⟩
theorem dfsM_ok : ∀ n (L : Nat → Int32) (s : Pl), plOk g hh s.2.2 → plOk g hh (dfsM g hh n L s).2.2 := by
  intro n
  induction n with
  | zero => intro L s e; exact vsM_ok e
  | succ n ih =>
    intro L s e
    exact itr_inv (F := fun d s => dfsM g hh n (upd L (g - (n + 1)) (nI d)) s) (I := fun _ s => plOk g hh s.2.2) (hh + 1) 0 s e (fun j s _ _ e => ih _ s e)
/-- the frame of place -/
def fPl (i : Int32) (s : Pl) (u : Value × Value) : List Value := [.ref 58, .int i, .int s.1, .int 1, u.1, u.2]
theorem L_visit {i : Int32} {L : Nat → Int32} {s : Pl} {u : Value × Value} (mo : isMO h) (ok : plOk g hh s.2.2) (h4 : hh ≤ 4) (h6 : g ≤ 6) : ∃ u', (T (d + 6) 182 45 (fPl i s u) [] (hm (bs h L s.2.1) s.2.2) Q ↔ T (d + 6) 182 94 (fPl i (vsM g hh L s) u') [] (hm (bs h L (vsM g hh L s).2.1) (vsM g hh L s).2.2) Q) := by
  obtain ⟨most, B, R⟩ := s
  have mb : ∀ B, isMO (bs h L B) := fun B => mo.bs
  obtain ⟨ab, be, ln, pa, pb, r5, r6, dg, e0⟩ := id mo
  have e1 : ∀ B, (bs h L B).2.2 58 = MO ab be ln pa pb r5 r6 dg := fun _ => e0
  have ho := (mb B).o (R := R)
  have G := @E_gainBy d h (fun r h2 => T (d + 6) 182 53 [.ref 58, .int i, .int most, .int 1, u.1, u.2] (rl r []) h2 Q) g hh L B R mo ok.1 h6 ok.2 h4
  have S0 : T (d + 6) 182 45 (fPl i (most, B, R) u) [] (hm (bs h L B) R) Q ↔ T (d + 6) 182 53 [.ref 58, .int i, .int most, .int 1, u.1, u.2] (rl (some (.int (plV (plR L g R) g hh))) []) (hm (bs h L B) (plR L g R)) Q := by
    unfold fPl
    simp (disch := first | assumption | omega | decide) only [t182_45, t182_46, t182_49, t182_50, hm_58, hm_59, hm_up, e1, MO, gF_7_0, gF_7_1, gF_7_2, gF_7_3, gF_7_4, gF_7_5, gF_7_6, gF_7_7, aS_n, aS_l, aL_n, aL_l, ln_add, nl_add, ln_mul, nl_mul, nI_add, nI_1, i32_nl, ite_not, lt_nn, lt_nl, lt_ln, eq_nn, eq_nl, eq_ln, if_true, if_false, kil_i, kil_r, kil_l, kil_u, rl_s, rl_n, Nat.zero_add, Nat.lt_irrefl, not_true_eq_false, not_false_eq_true, true_and, dp_1, dp_2, dp_3, dp_4, dp_5, dp_6, dp_7, dp_8, dp_9, dp_10, dp_11, dp_12, dp_13, dp_14, dp_15, dp_16, dp_17, dp_18, dp_19, dp_20, dp_21, dp_22, dp_23, dp_24, dp_25, dp_26, dp_27, dp_28, dp_29, dp_30, dp_31, dp_32, dp_33, dp_34, dp_35, dp_36, dp_37, dp_38, dp_39, e1, z10]
    exact G
  unfold vsM fPl
  simp only []
  by_cases q : most < plV (plR L g R) g hh
  · have Lc := loop_d (P := fun k (B : Nat → Int32) (_ : Unit) => T (d + 6) 182 67 [.ref 58, .int i, .int (plV (plR L g R) g hh), .int 1, .int (plV (plR L g R) g hh), .int (nI k)] [] (hm (bs h L B) (plR L g R)) Q) (F := fun k B => upd B k (L k)) (E := fun B => T (d + 6) 182 94 [.ref 58, .int i, .int (plV (plR L g R) g hh), .int 1, .int (plV (plR L g R) g hh), .int (nI 6)] [] (hm (bs h L B) (plR L g R)) Q) (g := 6) ?_ ?_
    · refine ⟨(.int (plV (plR L g R) g hh), .int (nI 6)), ?_⟩
      refine S0.trans ?_
      simp (disch := first | assumption | omega | decide) only [t182_53, t182_55, t182_57, t182_58, t182_61, t182_63, t182_64, t182_65, hm_58, hm_59, hm_up, e1, MO, gF_7_0, gF_7_1, gF_7_2, gF_7_3, gF_7_4, gF_7_5, gF_7_6, gF_7_7, aS_n, aS_l, aL_n, aL_l, ln_add, nl_add, ln_mul, nl_mul, nI_add, nI_1, i32_nl, ite_not, lt_nn, lt_nl, lt_ln, eq_nn, eq_nl, eq_ln, if_true, if_false, kil_i, kil_r, kil_l, kil_u, rl_s, rl_n, Nat.zero_add, Nat.lt_irrefl, not_true_eq_false, not_false_eq_true, true_and, dp_1, dp_2, dp_3, dp_4, dp_5, dp_6, dp_7, dp_8, dp_9, dp_10, dp_11, dp_12, dp_13, dp_14, dp_15, dp_16, dp_17, dp_18, dp_19, dp_20, dp_21, dp_22, dp_23, dp_24, dp_25, dp_26, dp_27, dp_28, dp_29, dp_30, dp_31, dp_32, dp_33, dp_34, dp_35, dp_36, dp_37, dp_38, dp_39, q]
      exact Lc B ()
    · intro k B _ hk
      refine ⟨(), ?_⟩
      rw [t182_67]
      simp (disch := first | assumption | omega | decide) only [t182_69, t182_71, t182_74, t182_75, t182_78, t182_80, t182_81, t182_84, t182_86, t182_87, t182_88, t182_91, kil_i, kil_u, nI_1, i32_nl, ite_not, lt_nl, hk, if_true, hm_58, e1, MO, gF_7_13, gF_7_14, bs_64, bs_65, bs_b, aL_n, aS_n]
    · intro B _
      rw [t182_67]
      simp (disch := first | assumption | omega | decide) only [t182_69, t182_71, hm_58, hm_59, hm_up, e1, MO, gF_7_0, gF_7_1, gF_7_2, gF_7_3, gF_7_4, gF_7_5, gF_7_6, gF_7_7, aS_n, aS_l, aL_n, aL_l, ln_add, nl_add, ln_mul, nl_mul, nI_add, nI_1, i32_nl, ite_not, lt_nn, lt_nl, lt_ln, eq_nn, eq_nl, eq_ln, if_true, if_false, kil_i, kil_r, kil_l, kil_u, rl_s, rl_n, Nat.zero_add, Nat.lt_irrefl, not_true_eq_false, not_false_eq_true, true_and, dp_1, dp_2, dp_3, dp_4, dp_5, dp_6, dp_7, dp_8, dp_9, dp_10, dp_11, dp_12, dp_13, dp_14, dp_15, dp_16, dp_17, dp_18, dp_19, dp_20, dp_21, dp_22, dp_23, dp_24, dp_25, dp_26, dp_27, dp_28, dp_29, dp_30, dp_31, dp_32, dp_33, dp_34, dp_35, dp_36, dp_37, dp_38, dp_39, e1]
  · refine ⟨(.int (plV (plR L g R) g hh), u.2), ?_⟩
    refine S0.trans ?_
    simp (disch := first | assumption | omega | decide) only [t182_53, t182_55, t182_57, t182_58, hm_58, hm_59, hm_up, e1, MO, gF_7_0, gF_7_1, gF_7_2, gF_7_3, gF_7_4, gF_7_5, gF_7_6, gF_7_7, aS_n, aS_l, aL_n, aL_l, ln_add, nl_add, ln_mul, nl_mul, nI_add, nI_1, i32_nl, ite_not, lt_nn, lt_nl, lt_ln, eq_nn, eq_nl, eq_ln, if_true, if_false, kil_i, kil_r, kil_l, kil_u, rl_s, rl_n, Nat.zero_add, Nat.lt_irrefl, not_true_eq_false, not_false_eq_true, true_and, dp_1, dp_2, dp_3, dp_4, dp_5, dp_6, dp_7, dp_8, dp_9, dp_10, dp_11, dp_12, dp_13, dp_14, dp_15, dp_16, dp_17, dp_18, dp_19, dp_20, dp_21, dp_22, dp_23, dp_24, dp_25, dp_26, dp_27, dp_28, dp_29, dp_30, dp_31, dp_32, dp_33, dp_34, dp_35, dp_36, dp_37, dp_38, dp_39, q]
theorem L_lines {i : Int32} (mo : isMO h) (h4 : hh ≤ 4) (h6 : g ≤ 6) : ∀ n, n ≤ g → ∀ (L : Nat → Int32) (s : Pl) (u : Value × Value), plOk g hh s.2.2 → (∀ k, g - n ≤ k → k < g → L k = 0) → (∀ k, k < g → ∃ x, x ≤ hh ∧ L k = nI x) →
    ∃ (L2 : Nat → Int32) (u' : Value × Value), (∀ k, (k < g - n ∨ g ≤ k) → L2 k = L k) ∧ (∀ k, g - n ≤ k → k < g → L2 k = nI hh) ∧
    (T (d + 6) 182 45 (fPl i s u) [] (hm (bs h L s.2.1) s.2.2) Q ↔ T (d + 6) 182 94 (fPl i (dfsM g hh n L s) u') [] (hm (bs h L2 (dfsM g hh n L s).2.1) (dfsM g hh n L s).2.2) Q) := by
  intro n
  induction n with
  | zero =>
    intro hn L s u ok _ _
    obtain ⟨u', e⟩ := @L_visit d h Q g hh i L s u mo ok h4 h6
    exact ⟨L, u', fun _ _ => rfl, fun k h1 h2 => absurd h1 (by omega), e⟩
  | succ n ih =>
    intro hn L s u ok hz hL
    obtain ⟨p, hp⟩ : ∃ p, p = g - (n + 1) := ⟨_, rfl⟩
    have inner : ∀ m c (s : Pl) (u : Value × Value), c + m = hh → plOk g hh s.2.2 → ∃ (L2 : Nat → Int32) (u' : Value × Value), (∀ k, (k < g - (n + 1) ∨ g ≤ k) → L2 k = L k) ∧ (∀ k, g - (n + 1) ≤ k → k < g → L2 k = nI hh) ∧
        (T (d + 6) 182 45 (fPl i s u) [] (hm (bs h (upd L p (nI c)) s.2.1) s.2.2) Q ↔ T (d + 6) 182 94 (fPl i (itr (fun d s => dfsM g hh n (upd L p (nI d)) s) (m + 1) c s) u') [] (hm (bs h L2 (itr (fun d s => dfsM g hh n (upd L p (nI d)) s) (m + 1) c s).2.1) (itr (fun d s => dfsM g hh n (upd L p (nI d)) s) (m + 1) c s).2.2) Q) := by
      intro m
      induction m with
      | zero =>
        intro c s u hc ok
        obtain ⟨L2, u', e1, e2, e3⟩ := ih (by omega) (upd L p (nI c)) s u ok (fun k h1 h2 => by rw [upd_ne (by omega)]; exact hz k (by omega) h2) (fun k hk => by
          by_cases e : k = p
          · subst e; exact ⟨c, by omega, upd_eq⟩
          · rw [upd_ne e]; exact hL k hk)
        refine ⟨L2, u', fun k hk => ?_, fun k h1 h2 => ?_, e3⟩
        · rw [e1 k (by omega), upd_ne (by omega)]
        · by_cases e : k = p
          · rw [e1 k (by omega), e, upd_eq, show c = hh by omega]
          · exact e2 k (by omega) h2
      | succ m ihm =>
        intro c s u hc ok
        obtain ⟨L2, u', e1, e2, e3⟩ := ih (by omega) (upd L p (nI c)) s u ok (fun k h1 h2 => by rw [upd_ne (by omega)]; exact hz k (by omega) h2) (fun k hk => by
          by_cases e : k = p
          · subst e; exact ⟨c, by omega, upd_eq⟩
          · rw [upd_ne e]; exact hL k hk)
        obtain ⟨s2, hs2⟩ : ∃ s2, s2 = dfsM g hh n (upd L p (nI c)) s := ⟨_, rfl⟩
        have ok2 : plOk g hh s2.2.2 := by rw [hs2]; exact dfsM_ok n _ _ ok
        obtain ⟨L3, u3, f1, f2, f3⟩ := ihm (c + 1) s2 u' (by omega) ok2
        refine ⟨L3, u3, f1, f2, ?_⟩
        rw [show itr (fun d s => dfsM g hh n (upd L p (nI d)) s) (m + 1 + 1) c s = itr (fun d s => dfsM g hh n (upd L p (nI d)) s) (m + 1) (c + 1) s2 from by rw [hs2]; rfl]
        refine Iff.trans ?_ f3
        refine e3.trans ?_
        rw [← hs2]
        have hL2 : ∀ k, k < g → ∃ x, x ≤ hh ∧ L2 k = nI x := fun k hk => by
          by_cases e : k < g - n
          · rw [e1 k (Or.inl e)]
            by_cases e4 : k = p
            · subst e4; exact ⟨c, by omega, upd_eq⟩
            · rw [upd_ne e4]; exact hL k hk
          · exact ⟨hh, Nat.le_refl _, e2 k (by omega) hk⟩
        have N := (@E_nextLine (d + 4) h (fun r h2 => T (d + 6) 182 98 (fPl i s2 u') (rl r []) h2 Q) g hh s2.2.2 s2.2.1 L2 mo ok2.1 ok2.2 h4 h6 hL2).1 p c (by omega) (by omega) (by rw [e1 p (by omega)]; exact upd_eq) (fun k h1 h2 => e2 k (by omega) h2)
        have eL : (fun k => if p < k ∧ k < g then 0 else if k = p then nI (c + 1) else L2 k) = upd L p (nI (c + 1)) := by
          funext k
          by_cases q1 : p < k ∧ k < g
          · rw [if_pos q1, upd_ne (by omega)]; exact (hz k (by omega) q1.2).symm
          · rw [if_neg q1]
            by_cases q2 : k = p
            · rw [if_pos q2, q2]; exact upd_eq.symm
            · rw [if_neg q2, upd_ne q2, e1 k (by omega), upd_ne q2]
        rw [eL] at N
        have ho : isO ((hm (bs h L2 s2.2.1) s2.2.2).2.2 58) 7 := (isMO.bs mo).o
        unfold fPl at N ⊢
        rw [t182_94, t182_95 ho]
        refine N.trans ?_
        simp (disch := first | assumption | omega | decide) only [t182_98, t182_99, hm_58, hm_59, hm_up, e1, MO, gF_7_0, gF_7_1, gF_7_2, gF_7_3, gF_7_4, gF_7_5, gF_7_6, gF_7_7, aS_n, aS_l, aL_n, aL_l, ln_add, nl_add, ln_mul, nl_mul, nI_add, nI_1, i32_nl, ite_not, lt_nn, lt_nl, lt_ln, eq_nn, eq_nl, eq_ln, if_true, if_false, kil_i, kil_r, kil_l, kil_u, rl_s, rl_n, Nat.zero_add, Nat.lt_irrefl, not_true_eq_false, not_false_eq_true, true_and, dp_1, dp_2, dp_3, dp_4, dp_5, dp_6, dp_7, dp_8, dp_9, dp_10, dp_11, dp_12, dp_13, dp_14, dp_15, dp_16, dp_17, dp_18, dp_19, dp_20, dp_21, dp_22, dp_23, dp_24, dp_25, dp_26, dp_27, dp_28, dp_29, dp_30, dp_31, dp_32, dp_33, dp_34, dp_35, dp_36, dp_37, dp_38, dp_39]
    have hp0 : upd L p (nI 0) = L := by
      funext k
      by_cases e : k = p
      · rw [e, upd_eq]; exact (hz p (by omega) (by omega)).symm
      · exact upd_ne e
    obtain ⟨L2, u', e1, e2, e3⟩ := inner hh 0 s u (by omega) ok
    rw [hp0] at e3
    subst hp
    exact ⟨L2, u', e1, e2, e3⟩
theorem dfsM_congr (h6 : g ≤ 6) : ∀ n (L L2 : Nat → Int32) (s : Pl), (∀ k, k < 6 → L k = L2 k) → dfsM g hh n L s = dfsM g hh n L2 s := by
  intro n
  induction n with
  | zero =>
    intro L L2 s e
    have e1 : plR L g s.2.2 = plR L2 g s.2.2 := itr_congr g 0 _ (fun j R _ hj => by rw [e j (by omega)])
    have e2 : cp6 L s.2.1 = cp6 L2 s.2.1 := itr_congr 6 0 _ (fun j R _ hj => by rw [e j (by omega)])
    show vsM g hh L s = vsM g hh L2 s
    unfold vsM
    rw [e1, e2]
  | succ n ih =>
    intro L L2 s e
    exact itr_congr (hh + 1) 0 s (fun j s _ _ => ih _ _ s (fun k hk => by
      by_cases q : k = g - (n + 1)
      · rw [q, upd_eq, upd_eq]
      · rw [upd_ne q, upd_ne q]; exact e k hk))
theorem kL {r : Option Value} {L B R : Nat → Int32} (m : ModelAt h S) (k : ∀ h2, ModelAt h2 (stR S R) → frM h h2 → Q r h2) : Q r (hm (bs h L B) R) := by
  refine k _ ?_ (((frM.rf.up (by decide) (by decide)).up (by decide) (by decide)).row)
  obtain ⟨e0, e1, e2, e3, e4, e5, f1, f2, f3, f4, f5, e6, e7, e8, e9, e10⟩ := m
  exact ⟨e0, rfl, e2, e3, e4, e5, L, B, f3, f4, f5, rfl, rfl, e8, e9, e10⟩
/-- what place finds; B0: what lay there -/
def plS (g hh : Nat) (R B0 : Nat → Int32) : Pl := dfsM g hh g (fun _ => 0) (-1, B0, R)
theorem M_place {i : Int32} (m : ModelAt h S) (hg : sR S 12 = nI g) (h6 : g ≤ 6) (hh0 : sR S 25 = nI hh) (h4 : hh ≤ 4)
    (k1 : ¬ i = -1 → ¬ rg i 0 (g - 1 : Int) = true → ∀ h2, ModelAt h2 (refu S 0) → frM h h2 → Q (some (.int (-10))) h2)
    (k2 : i = -1 → ∀ B0 h2, ModelAt h2 (stR S (plS g hh (sR S) B0).2.2) → frM h h2 → Q (some (.int (plS g hh (sR S) B0).1)) h2)
    (k3 : ¬ i = -1 → rg i 0 (g - 1 : Int) = true → ∀ B0 h2, ModelAt h2 (stR S (plS g hh (sR S) B0).2.2) → frM h h2 → Q (some (.int ((plS g hh (sR S) B0).2.1 i.toNatClampNeg - 1))) h2) :
    T (d + 6) 182 0 [.ref 58, .int i, un, un, un, un] [] h Q := by
  obtain ⟨e0, ea1, ea2, ea3, ea4, ea5, L0, B0, f3, f4, f5, e6, e7, e8, e9, e10⟩ := id m
  have hself0 : hm h (sR S) = hm (bs h L0 B0) (sR S) := by
    unfold bs; rw [← e6, hup_id, ← e7, hup_id]
  refine T_eq m.self ?_
  have mm := m.again
  have ho := m.mo.o (R := sR S)
  have key : (i = -1 ∨ (¬ i = -1 ∧ rg i 0 (g - 1 : Int) = true)) → T (d + 6) 182 20 [.ref 58, .int i, un, un, un, un] [] (hm h (sR S)) Q := by
    intro hi
    rw [hself0]
    obtain ⟨ab, be, ln, pa, pb, r5, r6, dg, e01⟩ := id m.mo
    have e1 : ∀ L, (bs h L B0).2.2 58 = MO ab be ln pa pb r5 r6 dg := fun _ => e01
    have L1 := loop_d (P := fun k (L : Nat → Int32) (_ : Unit) => T (d + 6) 182 22 [.ref 58, .int i, .int (nI k), un, un, un] [] (hm (bs h L B0) (sR S)) Q) (F := fun k L => upd L k 0) (E := fun L => T (d + 6) 182 41 [.ref 58, .int i, .int (nI 6), un, un, un] [] (hm (bs h L B0) (sR S)) Q) (g := 6) ?_ ?_
    · simp (disch := first | assumption | omega | decide) only [t182_20, t182_21, hm_58, hm_59, hm_up, e1, MO, gF_7_0, gF_7_1, gF_7_2, gF_7_3, gF_7_4, gF_7_5, gF_7_6, gF_7_7, aS_n, aS_l, aL_n, aL_l, ln_add, nl_add, ln_mul, nl_mul, nI_add, nI_1, i32_nl, ite_not, lt_nn, lt_nl, lt_ln, eq_nn, eq_nl, eq_ln, if_true, if_false, kil_i, kil_r, kil_l, kil_u, rl_s, rl_n, Nat.zero_add, Nat.lt_irrefl, not_true_eq_false, not_false_eq_true, true_and, dp_1, dp_2, dp_3, dp_4, dp_5, dp_6, dp_7, dp_8, dp_9, dp_10, dp_11, dp_12, dp_13, dp_14, dp_15, dp_16, dp_17, dp_18, dp_19, dp_20, dp_21, dp_22, dp_23, dp_24, dp_25, dp_26, dp_27, dp_28, dp_29, dp_30, dp_31, dp_32, dp_33, dp_34, dp_35, dp_36, dp_37, dp_38, dp_39]
      refine (L1 L0 ()).2 ?_
      have eL : ∀ k, k < 6 → itr (fun k L => upd L k 0) 6 0 L0 k = 0 := fun k hk => @itr_up (fun _ => 0) L0 6 k hk
      obtain ⟨L, hL⟩ : ∃ L, L = itr (fun k L => upd L k 0) 6 0 L0 := ⟨_, rfl⟩
      rw [← hL] at eL ⊢
      simp (disch := first | assumption | omega | decide) only [t182_41, t182_42, t182_43, t182_44, hm_58, hm_59, hm_up, e1, MO, gF_7_0, gF_7_1, gF_7_2, gF_7_3, gF_7_4, gF_7_5, gF_7_6, gF_7_7, aS_n, aS_l, aL_n, aL_l, ln_add, nl_add, ln_mul, nl_mul, nI_add, nI_1, i32_nl, ite_not, lt_nn, lt_nl, lt_ln, eq_nn, eq_nl, eq_ln, if_true, if_false, kil_i, kil_r, kil_l, kil_u, rl_s, rl_n, Nat.zero_add, Nat.lt_irrefl, not_true_eq_false, not_false_eq_true, true_and, dp_1, dp_2, dp_3, dp_4, dp_5, dp_6, dp_7, dp_8, dp_9, dp_10, dp_11, dp_12, dp_13, dp_14, dp_15, dp_16, dp_17, dp_18, dp_19, dp_20, dp_21, dp_22, dp_23, dp_24, dp_25, dp_26, dp_27, dp_28, dp_29, dp_30, dp_31, dp_32, dp_33, dp_34, dp_35, dp_36, dp_37, dp_38, dp_39]
      obtain ⟨L2, u', l1, l2, l3⟩ := @L_lines d h Q g hh i m.mo h4 h6 g (Nat.le_refl g) L (-1, B0, sR S) (un, un) ⟨hg, hh0⟩ (fun k _ hk => eL k (by omega)) (fun k hk => ⟨0, by omega, eL k (by omega)⟩)
      refine l3.2 ?_
      obtain ⟨s2, hs2⟩ : ∃ s2, s2 = plS g hh (sR S) B0 := ⟨_, rfl⟩
      have es : dfsM g hh g L (-1, B0, sR S) = s2 := by rw [hs2]; exact dfsM_congr h6 g _ _ _ eL
      have ok2 : plOk g hh s2.2.2 := by rw [← es]; exact dfsM_ok g _ _ ⟨hg, hh0⟩
      rw [es]
      have hL2 : ∀ k, k < g → L2 k = nI hh := fun k hk => l2 k (by omega) hk
      obtain ⟨L3, N⟩ := (@E_nextLine (d + 4) h (fun r h2 => T (d + 6) 182 98 (fPl i s2 u') (rl r []) h2 Q) g hh s2.2.2 s2.2.1 L2 m.mo ok2.1 ok2.2 h4 h6 (fun k hk => ⟨hh, Nat.le_refl _, hL2 k hk⟩)).2 hL2
      have hox : isO ((hm (bs h L2 s2.2.1) s2.2.2).2.2 58) 7 := (isMO.bs m.mo).o
      have e13 : (hm (bs h L3 s2.2.1) s2.2.2).2.2 58 = MO ab be ln pa pb r5 r6 dg := e01
      unfold fPl at N ⊢
      rw [t182_94, t182_95 hox]
      refine N.2 ?_
      rcases hi with hi | ⟨hi, hi2⟩
      · have := k2 hi B0
        rw [← hs2] at this
        simp (disch := first | assumption | omega | decide) only [t182_98, t182_99, t182_102, t182_103, t182_104, t182_107, t182_108, t182_111, t182_112, t182_115, t182_116, t182_117, t182_118, t182_119, t182_45, t182_46, hm_58, hm_59, hm_up, e1, MO, gF_7_0, gF_7_1, gF_7_2, gF_7_3, gF_7_4, gF_7_5, gF_7_6, gF_7_7, aS_n, aS_l, aL_n, aL_l, ln_add, nl_add, ln_mul, nl_mul, nI_add, nI_1, i32_nl, ite_not, lt_nn, lt_nl, lt_ln, eq_nn, eq_nl, eq_ln, if_true, if_false, kil_i, kil_r, kil_l, kil_u, rl_s, rl_n, Nat.zero_add, Nat.lt_irrefl, not_true_eq_false, not_false_eq_true, true_and, dp_1, dp_2, dp_3, dp_4, dp_5, dp_6, dp_7, dp_8, dp_9, dp_10, dp_11, dp_12, dp_13, dp_14, dp_15, dp_16, dp_17, dp_18, dp_19, dp_20, dp_21, dp_22, dp_23, dp_24, dp_25, dp_26, dp_27, dp_28, dp_29, dp_30, dp_31, dp_32, dp_33, dp_34, dp_35, dp_36, dp_37, dp_38, dp_39, hi]
        exact kL m this
      · have := k3 hi hi2 B0
        rw [← hs2] at this
        obtain ⟨a, ha, rfl⟩ := rg_n hi2
        simp (disch := first | assumption | omega | decide) only [nI_clamp] at this
        simp (disch := first | assumption | omega | decide) only [t182_98, t182_99, t182_102, t182_103, t182_104, t182_107, t182_108, t182_111, t182_112, t182_115, t182_116, t182_117, t182_118, t182_119, t182_45, t182_46, kil_i, kil_u, rl_s, hm_58, e13, bs_65, MO, gF_7_14, aL_n, if_true, hi, if_false, not_false_eq_true]
        exact kL m this
    · intro k L _ hk
      refine ⟨(), ?_⟩
      rw [t182_22]
      simp (disch := first | assumption | omega | decide) only [t182_23, t182_25, t182_28, t182_29, t182_32, t182_33, t182_34, t182_35, t182_38, kil_i, kil_u, nI_1, i32_nl, ite_not, lt_nl, hk, if_true, hm_58, e1, MO, gF_7_13, bs_64, bs_a, aS_n]
    · intro L _
      rw [t182_22]
      simp (disch := first | assumption | omega | decide) only [t182_23, t182_25, hm_58, hm_59, hm_up, e1, MO, gF_7_0, gF_7_1, gF_7_2, gF_7_3, gF_7_4, gF_7_5, gF_7_6, gF_7_7, aS_n, aS_l, aL_n, aL_l, ln_add, nl_add, ln_mul, nl_mul, nI_add, nI_1, i32_nl, ite_not, lt_nn, lt_nl, lt_ln, eq_nn, eq_nl, eq_ln, if_true, if_false, kil_i, kil_r, kil_l, kil_u, rl_s, rl_n, Nat.zero_add, Nat.lt_irrefl, not_true_eq_false, not_false_eq_true, true_and, dp_1, dp_2, dp_3, dp_4, dp_5, dp_6, dp_7, dp_8, dp_9, dp_10, dp_11, dp_12, dp_13, dp_14, dp_15, dp_16, dp_17, dp_18, dp_19, dp_20, dp_21, dp_22, dp_23, dp_24, dp_25, dp_26, dp_27, dp_28, dp_29, dp_30, dp_31, dp_32, dp_33, dp_34, dp_35, dp_36, dp_37, dp_38, dp_39, e1]
  obtain ⟨ab, be, ln, pa, pb, r5, r6, dg, e1⟩ := id m.mo
  by_cases q : i = -1
  · have K := key (Or.inl q)
    simp (disch := first | assumption | omega | decide) only [t182_0, t182_1, t182_2, hm_58, hm_59, hm_up, e1, MO, gF_7_0, gF_7_1, gF_7_2, gF_7_3, gF_7_4, gF_7_5, gF_7_6, gF_7_7, aS_n, aS_l, aL_n, aL_l, ln_add, nl_add, ln_mul, nl_mul, nI_add, nI_1, i32_nl, ite_not, lt_nn, lt_nl, lt_ln, eq_nn, eq_nl, eq_ln, if_true, if_false, kil_i, kil_r, kil_l, kil_u, rl_s, rl_n, Nat.zero_add, Nat.lt_irrefl, not_true_eq_false, not_false_eq_true, true_and, dp_1, dp_2, dp_3, dp_4, dp_5, dp_6, dp_7, dp_8, dp_9, dp_10, dp_11, dp_12, dp_13, dp_14, dp_15, dp_16, dp_17, dp_18, dp_19, dp_20, dp_21, dp_22, dp_23, dp_24, dp_25, dp_26, dp_27, dp_28, dp_29, dp_30, dp_31, dp_32, dp_33, dp_34, dp_35, dp_36, dp_37, dp_38, dp_39, q] at K ⊢
    exact K
  · by_cases q2 : rg i 0 (g - 1 : Int) = true
    · have K := key (Or.inr ⟨q, q2⟩)
      simp (disch := first | assumption | omega | decide) only [t182_0, t182_1, t182_2, t182_5, t182_6, t182_7, t182_10, hm_58, hm_59, hm_up, e1, MO, gF_7_0, gF_7_1, gF_7_2, gF_7_3, gF_7_4, gF_7_5, gF_7_6, gF_7_7, aS_n, aS_l, aL_n, aL_l, ln_add, nl_add, ln_mul, nl_mul, nI_add, nI_1, i32_nl, ite_not, lt_nn, lt_nl, lt_ln, eq_nn, eq_nl, eq_ln, if_true, if_false, kil_i, kil_r, kil_l, kil_u, rl_s, rl_n, Nat.zero_add, Nat.lt_irrefl, not_true_eq_false, not_false_eq_true, true_and, dp_1, dp_2, dp_3, dp_4, dp_5, dp_6, dp_7, dp_8, dp_9, dp_10, dp_11, dp_12, dp_13, dp_14, dp_15, dp_16, dp_17, dp_18, dp_19, dp_20, dp_21, dp_22, dp_23, dp_24, dp_25, dp_26, dp_27, dp_28, dp_29, dp_30, dp_31, dp_32, dp_33, dp_34, dp_35, dp_36, dp_37, dp_38, dp_39, E_isGuest m.mo hg h6, zb_0, q, q2]
      exact K
    · have k1 := k1 q q2
      simp (disch := first | assumption | omega | decide) only [t182_0, t182_1, t182_2, t182_5, t182_6, t182_7, t182_10, t182_13, t182_14, t182_16, t182_19, hm_58, hm_59, hm_up, e1, MO, gF_7_0, gF_7_1, gF_7_2, gF_7_3, gF_7_4, gF_7_5, gF_7_6, gF_7_7, aS_n, aS_l, aL_n, aL_l, ln_add, nl_add, ln_mul, nl_mul, nI_add, nI_1, i32_nl, ite_not, lt_nn, lt_nl, lt_ln, eq_nn, eq_nl, eq_ln, if_true, if_false, kil_i, kil_r, kil_l, kil_u, rl_s, rl_n, Nat.zero_add, Nat.lt_irrefl, not_true_eq_false, not_false_eq_true, true_and, dp_1, dp_2, dp_3, dp_4, dp_5, dp_6, dp_7, dp_8, dp_9, dp_10, dp_11, dp_12, dp_13, dp_14, dp_15, dp_16, dp_17, dp_18, dp_19, dp_20, dp_21, dp_22, dp_23, dp_24, dp_25, dp_26, dp_27, dp_28, dp_29, dp_30, dp_31, dp_32, dp_33, dp_34, dp_35, dp_36, dp_37, dp_38, dp_39, E_isGuest m.mo hg h6, zb_0, q, q2, E_badAs mm]
      exact kR m 0 k1
end PI
