/-! the reference's public calls: look, ask -/
def hc (h : Hp) (R C : Nat → Int32) : Hp := hup (hm h R) 66 (oI 6 C)
theorem hc_58 {h : Hp} {R C : Nat → Int32} : (hc h R C).2.2 58 = h.2.2 58 := rfl
theorem hc_59 {h : Hp} {R C : Nat → Int32} : (hc h R C).2.2 59 = oI 636 R := rfl
theorem hc_66 {h : Hp} {R C : Nat → Int32} : (hc h R C).2.2 66 = oI 6 C := rfl
theorem hc_up {h : Hp} {R C C2 : Nat → Int32} : hup (hc h R C) 66 (oI 6 C2) = hc h R C2 := hup_same
theorem itr_up {f : Nat → Int32} {C : Nat → Int32} : ∀ n j, j < n → itr (fun k C => upd C k (f k)) n 0 C j = f j := by
  have key : ∀ n i (C : Nat → Int32) j, (i ≤ j → j < i + n → itr (fun k C => upd C k (f k)) n i C j = f j) ∧ ((j < i) → itr (fun k C => upd C k (f k)) n i C j = C j) := by
    intro n
    induction n with
    | zero => intro i C j; exact ⟨fun h1 h2 => absurd h1 (by omega), fun _ => rfl⟩
    | succ n ih =>
      intro i C j
      refine ⟨fun h1 h2 => ?_, fun h1 => ?_⟩
      · unfold itr
        by_cases q : j = i
        · subst q
          rw [((ih (j + 1) _ j).2 (by omega)), upd_eq]
        · exact (ih (i + 1) _ j).1 (by omega) (by omega)
      · unfold itr
        rw [((ih (i + 1) _ j).2 (by omega)), upd_ne (by omega)]
  intro n j hj
  exact (key n 0 C j).1 (by omega) (by omega)
theorem loop_w {σ τ : Type} {P : Nat → σ → τ → Prop} {F : Nat → σ → σ} {g : Nat} (hs : ∀ i s u, i < g → (∀ u', P (i + 1) (F i s) u') → P i s u) : ∀ s, (∀ u, P g (itr F g 0 s) u) → ∀ u, P 0 s u := by
  have key : ∀ n i s, i + n = g → (∀ u, P g (itr F n i s) u) → ∀ u, P i s u := by
    intro n
    induction n with
    | zero => intro i s h hx u; have := hx u; rwa [show g = i by omega] at this
    | succ n ih => intro i s h hx u; exact hs i s u (by omega) (ih (i + 1) (F i s) (by omega) hx)
  exact fun s => key g 0 s (by omega)
section PA
variable {d : Nat} {h : Hp} {Q : Pst} {S : St} {g hh nn mn : Nat}
theorem kC {r : Option Value} {C : Nat → Int32} (m : ModelAt h S) (k : ∀ h2, ModelAt h2 S → frM h h2 → Q r h2) : Q r (hc h (sR S) C) := by
  refine k _ ?_ (frM.rf.row.up (by decide) (by decide))
  unfold hc
  rw [m.self]
  obtain ⟨e0, e1, e2, e3, e4, e5, f1, f2, f3, f4, f5, e6, e7, e8, e9, e10⟩ := m
  exact ⟨e0, e1, e2, e3, e4, e5, f1, f2, C, f4, f5, e6, e7, rfl, e9, e10⟩
def lkC (R : Nat → Int32) (i p : Nat) (kd : Nat) : Int32 := gr (nI kd) (R (19 + i)) (nI p)
def lkF (R : Nat → Int32) (i : Nat) (set : Int32) (p : Nat) (s : Int32 × Int32) : Int32 × Int32 :=
  (if malk (lkC R i p) set < s.2 then nI p else s.1, if malk (lkC R i p) set < s.2 then malk (lkC R i p) set else s.2)
def lkV (R : Nat → Int32) (i : Nat) (set : Int32) : Int32 := if set = 0 then -1 else (itr (lkF R i set) 5 0 (-1, 99)).1
def sp_look (g nn : Nat) (S : St) (i : Int32) : Int32 × St := if rg i 0 (g - 1 : Int) = true then (lkV (sR S) i.toNatClampNeg (kdS (sR S) i.toNatClampNeg nn), S) else (-2, refu S 0)
theorem M_look {i : Int32} (m : ModelAt h S) (hg : sR S 12 = nI g) (h6 : g ≤ 6) (hn : sR S 55 = nI nn) (h5 : nn ≤ 6) (k : ∀ h2, ModelAt h2 (sp_look g nn S i).2 → frM h h2 → Q (some (.int (sp_look g nn S i).1)) h2) : T (d + 6) 194 0 [.ref 58, .int i, un, un, un, un, un] [] h Q := by
  have m0 := m
  obtain ⟨e0, ea1, ea2, ea3, ea4, ea5, f1, f2, C0, f4, f5, e6, e7, e8, e9, e10⟩ := id m
  have hself0 : hm h (sR S) = hc h (sR S) C0 := by
    unfold hc; rw [m.self, ← e8]; exact hup_id.symm
  refine T_eq m.self ?_
  have mm := m.again
  have ho := m.mo.o (R := sR S)
  obtain ⟨ab, be, ln, pa, pb, r5, r6, dg, e1⟩ := id m.mo
  unfold sp_look at k
  by_cases q : rg i 0 (g - 1 : Int) = true
  · obtain ⟨a, ha, rfl⟩ := rg_n q
    rw [if_pos q] at k
    simp (disch := first | assumption | omega | decide) only [nI_clamp] at k
    simp (disch := first | assumption | omega | decide) only [t194_0, t194_1, t194_2, t194_5, t194_8, t194_9, t194_11, t194_14, t194_15, t194_16, t194_17, t194_20, t194_21, t194_22, t194_23, t194_25, t194_27, t194_28, hm_58, hm_59, hm_up, e1, MO, gF_7_0, gF_7_1, gF_7_2, gF_7_3, gF_7_4, gF_7_5, gF_7_6, gF_7_7, aS_n, aS_l, aL_n, aL_l, ln_add, nl_add, ln_mul, nl_mul, nI_add, nI_1, i32_nl, ite_not, lt_nn, lt_nl, lt_ln, eq_nn, eq_nl, eq_ln, if_true, if_false, kil_i, kil_r, kil_l, kil_u, rl_s, rl_n, Nat.zero_add, Nat.lt_irrefl, not_true_eq_false, not_false_eq_true, true_and, dp_1, dp_2, dp_3, dp_4, dp_5, dp_6, dp_7, dp_8, dp_9, dp_10, dp_11, dp_12, dp_13, dp_14, dp_15, dp_16, dp_17, dp_18, dp_19, dp_20, dp_21, dp_22, dp_23, dp_24, dp_25, dp_26, dp_27, dp_28, dp_29, dp_30, dp_31, dp_32, dp_33, dp_34, dp_35, dp_36, dp_37, dp_38, dp_39, E_isGuest m.mo hg h6, zb_0, q, E_kindsOf m.mo (show a < 6 by omega) hn h5]
    obtain ⟨set, hset⟩ : ∃ set, set = kdS (sR S) a nn := ⟨_, rfl⟩
    rw [← hset] at k ⊢
    by_cases q0 : set = 0
    · subst q0
      rw [show lkV (sR S) a 0 = -1 from rfl] at k
      simp (disch := first | assumption | omega | decide) only [t194_30, t194_32, t194_33, t194_36, t194_37, t194_122, t194_123, hm_58, hm_59, hm_up, e1, MO, gF_7_0, gF_7_1, gF_7_2, gF_7_3, gF_7_4, gF_7_5, gF_7_6, gF_7_7, aS_n, aS_l, aL_n, aL_l, ln_add, nl_add, ln_mul, nl_mul, nI_add, nI_1, i32_nl, ite_not, lt_nn, lt_nl, lt_ln, eq_nn, eq_nl, eq_ln, if_true, if_false, kil_i, kil_r, kil_l, kil_u, rl_s, rl_n, Nat.zero_add, Nat.lt_irrefl, not_true_eq_false, not_false_eq_true, true_and, dp_1, dp_2, dp_3, dp_4, dp_5, dp_6, dp_7, dp_8, dp_9, dp_10, dp_11, dp_12, dp_13, dp_14, dp_15, dp_16, dp_17, dp_18, dp_19, dp_20, dp_21, dp_22, dp_23, dp_24, dp_25, dp_26, dp_27, dp_28, dp_29, dp_30, dp_31, dp_32, dp_33, dp_34, dp_35, dp_36, dp_37, dp_38, dp_39]
      exact kN m k
    · have hV : lkV (sR S) a set = (itr (lkF (sR S) a set) 5 0 (-1, 99)).1 := by unfold lkV; rw [if_neg q0]
      rw [hV] at k
      have L := loop_w (P := fun p (s : Int32 × Int32) (u : (Nat → Int32) × Value) => T (d + 6) 194 30 [.ref 58, .int (nI a), .int set, .int s.1, .int s.2, .int (nI p), u.2] [] (hc h (sR S) u.1) Q) (F := lkF (sR S) a set) (g := 5) ?_ (-1, 99) ?_ (C0, un)
      · rw [← hself0] at L
        exact L
      · intro p s u hp hk
        have hox : isO ((hc h (sR S) u.1).2.2 58) 7 := ho
        have L2 := loop_d (P := fun kd (C : Nat → Int32) (_ : Unit) => T (d + 6) 194 43 [.ref 58, .int (nI a), .int set, .int s.1, .int s.2, .int (nI p), .int (nI kd)] [] (hc h (sR S) C) Q) (F := fun kd C => upd C kd (lkC (sR S) a p kd)) (E := fun C => T (d + 6) 194 79 [.ref 58, .int (nI a), .int set, .int s.1, .int s.2, .int (nI p), .int (nI 6)] [] (hc h (sR S) C) Q) (g := 6) ?_ ?_
        · rw [t194_30]
          simp (disch := first | assumption | omega | decide) only [t194_32, t194_33, t194_36, t194_37, t194_40, t194_41, hm_58, hm_59, hm_up, e1, MO, gF_7_0, gF_7_1, gF_7_2, gF_7_3, gF_7_4, gF_7_5, gF_7_6, gF_7_7, aS_n, aS_l, aL_n, aL_l, ln_add, nl_add, ln_mul, nl_mul, nI_add, nI_1, i32_nl, ite_not, lt_nn, lt_nl, lt_ln, eq_nn, eq_nl, eq_ln, if_true, if_false, kil_i, kil_r, kil_l, kil_u, rl_s, rl_n, Nat.zero_add, Nat.lt_irrefl, not_true_eq_false, not_false_eq_true, true_and, dp_1, dp_2, dp_3, dp_4, dp_5, dp_6, dp_7, dp_8, dp_9, dp_10, dp_11, dp_12, dp_13, dp_14, dp_15, dp_16, dp_17, dp_18, dp_19, dp_20, dp_21, dp_22, dp_23, dp_24, dp_25, dp_26, dp_27, dp_28, dp_29, dp_30, dp_31, dp_32, dp_33, dp_34, dp_35, dp_36, dp_37, dp_38, dp_39, hp, q0]
          refine (L2 u.1 ()).2 ?_
          have eC := @itr_up (lkC (sR S) a p) u.1 6
          obtain ⟨C2, hC2⟩ : ∃ C2, C2 = itr (fun kd C => upd C kd (lkC (sR S) a p kd)) 6 0 u.1 := ⟨_, rfl⟩
          rw [← hC2] at eC ⊢
          have hk2 := hk (C2, .int (malk (lkC (sR S) a p) set))
          have hoy : isO ((hc h (sR S) C2).2.2 58) 7 := ho
          have A := @E_mostAlike (d + 2) (hc h (sR S) C2) (fun r h2 => T (d + 6) 194 84 [.ref 58, .int (nI a), .int set, .int s.1, .int s.2, .int (nI p), .int (nI 6)] (rl r []) h2 Q) ab be ln pa pb r5 r6 dg set C2 (by rw [hc_58]; exact e1) hc_66
          simp (disch := first | assumption | omega | decide) only [t194_79, t194_80, t194_81, hm_58, hm_59, hm_up, e1, MO, gF_7_0, gF_7_1, gF_7_2, gF_7_3, gF_7_4, gF_7_5, gF_7_6, gF_7_7, aS_n, aS_l, aL_n, aL_l, ln_add, nl_add, ln_mul, nl_mul, nI_add, nI_1, i32_nl, ite_not, lt_nn, lt_nl, lt_ln, eq_nn, eq_nl, eq_ln, if_true, if_false, kil_i, kil_r, kil_l, kil_u, rl_s, rl_n, Nat.zero_add, Nat.lt_irrefl, not_true_eq_false, not_false_eq_true, true_and, dp_1, dp_2, dp_3, dp_4, dp_5, dp_6, dp_7, dp_8, dp_9, dp_10, dp_11, dp_12, dp_13, dp_14, dp_15, dp_16, dp_17, dp_18, dp_19, dp_20, dp_21, dp_22, dp_23, dp_24, dp_25, dp_26, dp_27, dp_28, dp_29, dp_30, dp_31, dp_32, dp_33, dp_34, dp_35, dp_36, dp_37, dp_38, dp_39]
          refine A.2 ?_
          rw [malk_congr (C2 := lkC (sR S) a p) eC]
          unfold lkF at hk2
          by_cases r1 : malk (lkC (sR S) a p) set < s.2 <;> simp (disch := first | assumption | omega | decide) only [r1, t194_84, t194_86, t194_88, t194_90, t194_93, t194_95, t194_98, t194_99, t194_100, t194_102, t194_104, t194_107, t194_109, t194_112, t194_114, t194_116, t194_119, hm_58, hm_59, hm_up, e1, MO, gF_7_0, gF_7_1, gF_7_2, gF_7_3, gF_7_4, gF_7_5, gF_7_6, gF_7_7, aS_n, aS_l, aL_n, aL_l, ln_add, nl_add, ln_mul, nl_mul, nI_add, nI_1, i32_nl, ite_not, lt_nn, lt_nl, lt_ln, eq_nn, eq_nl, eq_ln, if_true, if_false, kil_i, kil_r, kil_l, kil_u, rl_s, rl_n, Nat.zero_add, Nat.lt_irrefl, not_true_eq_false, not_false_eq_true, true_and, dp_1, dp_2, dp_3, dp_4, dp_5, dp_6, dp_7, dp_8, dp_9, dp_10, dp_11, dp_12, dp_13, dp_14, dp_15, dp_16, dp_17, dp_18, dp_19, dp_20, dp_21, dp_22, dp_23, dp_24, dp_25, dp_26, dp_27, dp_28, dp_29, dp_30, dp_31, dp_32, dp_33, dp_34, dp_35, dp_36, dp_37, dp_38, dp_39] at hk2 ⊢ <;> exact hk2
        · intro kd C _ hkd
          refine ⟨(), ?_⟩
          rw [t194_43]
          simp (disch := first | assumption | omega | decide) only [t194_45, t194_47, t194_50, t194_51, t194_54, t194_56, t194_58, t194_59, t194_62, t194_64, t194_65, t194_66, t194_67, t194_69, t194_72, t194_73, t194_76, kil_i, kil_r, rl_s, i32_nl, ite_not, lt_nl, hkd, if_true, hc_58, hc_59, hc_66, hc_up, e1, MO_0, MO_15, aL_n, aS_n, ln_add, nI_1, E_greatBy, lkC, dp_1, dp_2, dp_3, dp_4, dp_5]
        · intro C _
          rw [t194_43]
          simp (disch := first | assumption | omega | decide) only [t194_45, t194_47, hm_58, hm_59, hm_up, e1, MO, gF_7_0, gF_7_1, gF_7_2, gF_7_3, gF_7_4, gF_7_5, gF_7_6, gF_7_7, aS_n, aS_l, aL_n, aL_l, ln_add, nl_add, ln_mul, nl_mul, nI_add, nI_1, i32_nl, ite_not, lt_nn, lt_nl, lt_ln, eq_nn, eq_nl, eq_ln, if_true, if_false, kil_i, kil_r, kil_l, kil_u, rl_s, rl_n, Nat.zero_add, Nat.lt_irrefl, not_true_eq_false, not_false_eq_true, true_and, dp_1, dp_2, dp_3, dp_4, dp_5, dp_6, dp_7, dp_8, dp_9, dp_10, dp_11, dp_12, dp_13, dp_14, dp_15, dp_16, dp_17, dp_18, dp_19, dp_20, dp_21, dp_22, dp_23, dp_24, dp_25, dp_26, dp_27, dp_28, dp_29, dp_30, dp_31, dp_32, dp_33, dp_34, dp_35, dp_36, dp_37, dp_38, dp_39]
      · intro u
        rw [t194_30]
        simp (disch := first | assumption | omega | decide) only [t194_32, t194_33, t194_122, t194_123, hm_58, hm_59, hm_up, e1, MO, gF_7_0, gF_7_1, gF_7_2, gF_7_3, gF_7_4, gF_7_5, gF_7_6, gF_7_7, aS_n, aS_l, aL_n, aL_l, ln_add, nl_add, ln_mul, nl_mul, nI_add, nI_1, i32_nl, ite_not, lt_nn, lt_nl, lt_ln, eq_nn, eq_nl, eq_ln, if_true, if_false, kil_i, kil_r, kil_l, kil_u, rl_s, rl_n, Nat.zero_add, Nat.lt_irrefl, not_true_eq_false, not_false_eq_true, true_and, dp_1, dp_2, dp_3, dp_4, dp_5, dp_6, dp_7, dp_8, dp_9, dp_10, dp_11, dp_12, dp_13, dp_14, dp_15, dp_16, dp_17, dp_18, dp_19, dp_20, dp_21, dp_22, dp_23, dp_24, dp_25, dp_26, dp_27, dp_28, dp_29, dp_30, dp_31, dp_32, dp_33, dp_34, dp_35, dp_36, dp_37, dp_38, dp_39]
        exact kC m k
  · rw [if_neg q] at k
    simp (disch := first | assumption | omega | decide) only [t194_0, t194_1, t194_2, t194_5, t194_8, t194_9, t194_11, t194_14, hm_58, hm_59, hm_up, e1, MO, gF_7_0, gF_7_1, gF_7_2, gF_7_3, gF_7_4, gF_7_5, gF_7_6, gF_7_7, aS_n, aS_l, aL_n, aL_l, ln_add, nl_add, ln_mul, nl_mul, nI_add, nI_1, i32_nl, ite_not, lt_nn, lt_nl, lt_ln, eq_nn, eq_nl, eq_ln, if_true, if_false, kil_i, kil_r, kil_l, kil_u, rl_s, rl_n, Nat.zero_add, Nat.lt_irrefl, not_true_eq_false, not_false_eq_true, true_and, dp_1, dp_2, dp_3, dp_4, dp_5, dp_6, dp_7, dp_8, dp_9, dp_10, dp_11, dp_12, dp_13, dp_14, dp_15, dp_16, dp_17, dp_18, dp_19, dp_20, dp_21, dp_22, dp_23, dp_24, dp_25, dp_26, dp_27, dp_28, dp_29, dp_30, dp_31, dp_32, dp_33, dp_34, dp_35, dp_36, dp_37, dp_38, dp_39, E_isGuest m.mo hg h6, zb_0, q, E_refB mm]
    exact kR m 0 k
end PA
