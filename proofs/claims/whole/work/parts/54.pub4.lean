/-! the reference's public calls: what stays, what will be -/
/-- a loop that may end before its time -/
def fnd {σ : Type} (c : Nat → σ → Bool) (F : Nat → σ → σ) : Nat → Nat → σ → Option Nat × σ
  | 0, _, s => (none, s)
  | n + 1, i, s => if c i s then (some i, s) else fnd c F n (i + 1) (F i s)
theorem loop_f {σ τ : Type} {P : Nat → σ → τ → Prop} {c : Nat → σ → Bool} {F : Nat → σ → σ} {E : Option Nat → σ → Prop} {I : Nat → σ → Prop} {g : Nat} (hc : ∀ i s u, i < g → I i s → c i s = true → (P i s u ↔ E (some i) s)) (hs : ∀ i s u, i < g → I i s → ¬ c i s = true → I (i + 1) (F i s) ∧ ∃ u', (P i s u ↔ P (i + 1) (F i s) u')) (hx : ∀ s u, I g s → (P g s u ↔ E none s)) : ∀ s u, I 0 s → (P 0 s u ↔ E (fnd c F g 0 s).1 (fnd c F g 0 s).2) := by
  have key : ∀ n i s u, i + n = g → I i s → (P i s u ↔ E (fnd c F n i s).1 (fnd c F n i s).2) := by
    intro n
    induction n with
    | zero => intro i s u h hI; rw [show i = g by omega] at hI ⊢; exact hx s u hI
    | succ n ih =>
      intro i s u h hI
      unfold fnd
      by_cases q : c i s = true
      · rw [if_pos q]; exact hc i s u (by omega) hI q
      · rw [if_neg q]
        obtain ⟨hI2, u', e⟩ := hs i s u (by omega) hI q
        rw [e]
        exact ih (i + 1) (F i s) u' (by omega) hI2
  exact fun s u hI => key g 0 s u (by omega) hI
section P4
variable {d : Nat} {h : Hp} {Q : Pst} {S : St} {g hh un0 : Nat}
def sp_great (g : Nat) (S : St) (i p : Int32) : Int32 × St :=
  if rg i 0 (g - 1 : Int) = true ∧ rg p 0 4 = true then (gr (sR S (13 + i.toNatClampNeg)) (sR S (19 + i.toNatClampNeg)) p, S) else (-2, refu S 0)
theorem M_great {i p : Int32} (m : ModelAt h S) (hg : sR S 12 = nI g) (h6 : g ≤ 6) (k : ∀ h2, ModelAt h2 (sp_great g S i p).2 → frM h h2 → Q (some (.int (sp_great g S i p).1)) h2) : T (d + 4) 172 0 [.ref 58, .int i, .int p] [] h Q := by
  refine T_eq m.self ?_
  have mm := m.again
  have ho := m.mo.o (R := sR S)
  obtain ⟨ab, be, ln, pa, pb, r5, r6, dg, e1⟩ := id m.mo
  unfold sp_great at k
  by_cases q : rg i 0 (g - 1 : Int) = true
  · by_cases q2 : rg p 0 4 = true
    · obtain ⟨a, ha, rfl⟩ := rg_n q
      rw [if_pos ⟨q, q2⟩] at k
      simp (disch := first | assumption | omega | decide) only [nI_clamp] at k
      simp (disch := first | assumption | omega | decide) only [t172_0, t172_1, t172_2, t172_5, t172_8, t172_9, t172_10, t172_11, t172_14, t172_17, t172_18, t172_21, t172_23, t172_24, t172_25, t172_26, t172_27, t172_30, t172_32, t172_33, t172_34, t172_35, t172_36, t172_39, t172_42, t172_43, t172_45, t172_48, hm_58, hm_59, hm_up, e1, MO, gF_7_0, gF_7_1, gF_7_2, gF_7_3, gF_7_4, gF_7_5, gF_7_6, gF_7_7, aS_n, aS_l, aL_n, aL_l, ln_add, nl_add, ln_mul, nl_mul, nI_add, nI_1, i32_nl, ite_not, lt_nn, lt_nl, lt_ln, eq_nn, eq_nl, eq_ln, if_true, if_false, kil_i, kil_r, kil_l, kil_u, rl_s, rl_n, Nat.zero_add, Nat.lt_irrefl, not_true_eq_false, not_false_eq_true, true_and, dp_1, dp_2, dp_3, dp_4, dp_5, dp_6, dp_7, dp_8, dp_9, dp_10, dp_11, dp_12, dp_13, dp_14, dp_15, dp_16, dp_17, dp_18, dp_19, dp_20, dp_21, dp_22, dp_23, dp_24, dp_25, dp_26, dp_27, dp_28, dp_29, dp_30, dp_31, dp_32, dp_33, dp_34, dp_35, dp_36, dp_37, dp_38, dp_39, E_isGuest m.mo hg h6, E_inL, zb_0, q, q2, E_greatBy]
      exact kN m k
    · rw [if_neg (fun z => q2 z.2)] at k
      simp (disch := first | assumption | omega | decide) only [t172_0, t172_1, t172_2, t172_5, t172_8, t172_9, t172_10, t172_11, t172_14, t172_17, t172_18, t172_21, t172_23, t172_24, t172_25, t172_26, t172_27, t172_30, t172_32, t172_33, t172_34, t172_35, t172_36, t172_39, t172_42, t172_43, t172_45, t172_48, hm_58, hm_59, hm_up, e1, MO, gF_7_0, gF_7_1, gF_7_2, gF_7_3, gF_7_4, gF_7_5, gF_7_6, gF_7_7, aS_n, aS_l, aL_n, aL_l, ln_add, nl_add, ln_mul, nl_mul, nI_add, nI_1, i32_nl, ite_not, lt_nn, lt_nl, lt_ln, eq_nn, eq_nl, eq_ln, if_true, if_false, kil_i, kil_r, kil_l, kil_u, rl_s, rl_n, Nat.zero_add, Nat.lt_irrefl, not_true_eq_false, not_false_eq_true, true_and, dp_1, dp_2, dp_3, dp_4, dp_5, dp_6, dp_7, dp_8, dp_9, dp_10, dp_11, dp_12, dp_13, dp_14, dp_15, dp_16, dp_17, dp_18, dp_19, dp_20, dp_21, dp_22, dp_23, dp_24, dp_25, dp_26, dp_27, dp_28, dp_29, dp_30, dp_31, dp_32, dp_33, dp_34, dp_35, dp_36, dp_37, dp_38, dp_39, E_isGuest m.mo hg h6, E_inL, zb_0, q, q2, E_refB mm]
      exact kR m 0 k
  · rw [if_neg (fun z => q z.1)] at k
    simp (disch := first | assumption | omega | decide) only [t172_0, t172_1, t172_2, t172_5, t172_8, t172_9, t172_10, t172_11, t172_14, t172_17, t172_18, t172_21, t172_23, t172_24, t172_25, t172_26, t172_27, t172_30, t172_32, t172_33, t172_34, t172_35, t172_36, t172_39, t172_42, t172_43, t172_45, t172_48, hm_58, hm_59, hm_up, e1, MO, gF_7_0, gF_7_1, gF_7_2, gF_7_3, gF_7_4, gF_7_5, gF_7_6, gF_7_7, aS_n, aS_l, aL_n, aL_l, ln_add, nl_add, ln_mul, nl_mul, nI_add, nI_1, i32_nl, ite_not, lt_nn, lt_nl, lt_ln, eq_nn, eq_nl, eq_ln, if_true, if_false, kil_i, kil_r, kil_l, kil_u, rl_s, rl_n, Nat.zero_add, Nat.lt_irrefl, not_true_eq_false, not_false_eq_true, true_and, dp_1, dp_2, dp_3, dp_4, dp_5, dp_6, dp_7, dp_8, dp_9, dp_10, dp_11, dp_12, dp_13, dp_14, dp_15, dp_16, dp_17, dp_18, dp_19, dp_20, dp_21, dp_22, dp_23, dp_24, dp_25, dp_26, dp_27, dp_28, dp_29, dp_30, dp_31, dp_32, dp_33, dp_34, dp_35, dp_36, dp_37, dp_38, dp_39, E_isGuest m.mo hg h6, zb_0, q, E_refB mm]
    exact kR m 0 k
def sp_stays (g hh : Nat) (S : St) (i j : Int32) : Int32 × St :=
  if rg i 0 (g - 1 : Int) = true ∧ rg j 0 (hh - 1 : Int) = true then (sts (sR S) i.toNatClampNeg j.toNatClampNeg (sR S 10), S) else (-2, refu S 0)
theorem M_stays {i j : Int32} (m : ModelAt h S) (hg : sR S 12 = nI g) (h6 : g ≤ 6) (hh0 : sR S 25 = nI hh) (h4 : hh ≤ 4) (k : ∀ h2, ModelAt h2 (sp_stays g hh S i j).2 → frM h h2 → Q (some (.int (sp_stays g hh S i j).1)) h2) : T (d + 4) 173 0 [.ref 58, .int i, .int j] [] h Q := by
  refine T_eq m.self ?_
  have mm := m.again
  have ho := m.mo.o (R := sR S)
  obtain ⟨ab, be, ln, pa, pb, r5, r6, dg, e1⟩ := id m.mo
  unfold sp_stays at k
  by_cases q : rg i 0 (g - 1 : Int) = true
  · by_cases q2 : rg j 0 (hh - 1 : Int) = true
    · obtain ⟨a, ha, rfl⟩ := rg_n q
      obtain ⟨b, hb, rfl⟩ := rg_n q2
      rw [if_pos ⟨q, q2⟩] at k
      simp (disch := first | assumption | omega | decide) only [nI_clamp] at k
      simp (disch := first | assumption | omega | decide) only [t173_0, t173_1, t173_2, t173_5, t173_8, t173_9, t173_10, t173_13, t173_16, t173_17, t173_18, t173_19, t173_20, t173_23, t173_25, t173_26, t173_29, t173_32, t173_33, t173_35, t173_38, hm_58, hm_59, hm_up, e1, MO, gF_7_0, gF_7_1, gF_7_2, gF_7_3, gF_7_4, gF_7_5, gF_7_6, gF_7_7, aS_n, aS_l, aL_n, aL_l, ln_add, nl_add, ln_mul, nl_mul, nI_add, nI_1, i32_nl, ite_not, lt_nn, lt_nl, lt_ln, eq_nn, eq_nl, eq_ln, if_true, if_false, kil_i, kil_r, kil_l, kil_u, rl_s, rl_n, Nat.zero_add, Nat.lt_irrefl, not_true_eq_false, not_false_eq_true, true_and, dp_1, dp_2, dp_3, dp_4, dp_5, dp_6, dp_7, dp_8, dp_9, dp_10, dp_11, dp_12, dp_13, dp_14, dp_15, dp_16, dp_17, dp_18, dp_19, dp_20, dp_21, dp_22, dp_23, dp_24, dp_25, dp_26, dp_27, dp_28, dp_29, dp_30, dp_31, dp_32, dp_33, dp_34, dp_35, dp_36, dp_37, dp_38, dp_39, E_isGuest m.mo hg h6, E_isHouse m.mo hh0 h4, zb_0, q, q2, E_staysOf m.mo.mr (show a < 6 by omega) (show b < 4 by omega)]
      exact kN m k
    · rw [if_neg (fun z => q2 z.2)] at k
      simp (disch := first | assumption | omega | decide) only [t173_0, t173_1, t173_2, t173_5, t173_8, t173_9, t173_10, t173_13, t173_16, t173_17, t173_18, t173_19, t173_20, t173_23, t173_25, t173_26, t173_29, t173_32, t173_33, t173_35, t173_38, hm_58, hm_59, hm_up, e1, MO, gF_7_0, gF_7_1, gF_7_2, gF_7_3, gF_7_4, gF_7_5, gF_7_6, gF_7_7, aS_n, aS_l, aL_n, aL_l, ln_add, nl_add, ln_mul, nl_mul, nI_add, nI_1, i32_nl, ite_not, lt_nn, lt_nl, lt_ln, eq_nn, eq_nl, eq_ln, if_true, if_false, kil_i, kil_r, kil_l, kil_u, rl_s, rl_n, Nat.zero_add, Nat.lt_irrefl, not_true_eq_false, not_false_eq_true, true_and, dp_1, dp_2, dp_3, dp_4, dp_5, dp_6, dp_7, dp_8, dp_9, dp_10, dp_11, dp_12, dp_13, dp_14, dp_15, dp_16, dp_17, dp_18, dp_19, dp_20, dp_21, dp_22, dp_23, dp_24, dp_25, dp_26, dp_27, dp_28, dp_29, dp_30, dp_31, dp_32, dp_33, dp_34, dp_35, dp_36, dp_37, dp_38, dp_39, E_isGuest m.mo hg h6, E_isHouse m.mo hh0 h4, zb_0, q, q2, E_refB mm]
      exact kR m 0 k
  · rw [if_neg (fun z => q z.1)] at k
    simp (disch := first | assumption | omega | decide) only [t173_0, t173_1, t173_2, t173_5, t173_8, t173_9, t173_10, t173_13, t173_16, t173_17, t173_18, t173_19, t173_20, t173_23, t173_25, t173_26, t173_29, t173_32, t173_33, t173_35, t173_38, hm_58, hm_59, hm_up, e1, MO, gF_7_0, gF_7_1, gF_7_2, gF_7_3, gF_7_4, gF_7_5, gF_7_6, gF_7_7, aS_n, aS_l, aL_n, aL_l, ln_add, nl_add, ln_mul, nl_mul, nI_add, nI_1, i32_nl, ite_not, lt_nn, lt_nl, lt_ln, eq_nn, eq_nl, eq_ln, if_true, if_false, kil_i, kil_r, kil_l, kil_u, rl_s, rl_n, Nat.zero_add, Nat.lt_irrefl, not_true_eq_false, not_false_eq_true, true_and, dp_1, dp_2, dp_3, dp_4, dp_5, dp_6, dp_7, dp_8, dp_9, dp_10, dp_11, dp_12, dp_13, dp_14, dp_15, dp_16, dp_17, dp_18, dp_19, dp_20, dp_21, dp_22, dp_23, dp_24, dp_25, dp_26, dp_27, dp_28, dp_29, dp_30, dp_31, dp_32, dp_33, dp_34, dp_35, dp_36, dp_37, dp_38, dp_39, E_isGuest m.mo hg h6, zb_0, q, E_refB mm]
    exact kR m 0 k
/-- so many evenings tried -/
def tryN (g hh n : Nat) (R : Nat → Int32) : Nat → Int32 := itr (fun _ S => psR S g hh 624) n 0 R
theorem psR_c {R : Nat → Int32} (h4 : hh ≤ 4) {k : Nat} (hk : k < 624) : psR R g hh 624 k = R k := psR_o R (by omega) (by omega)
def sp_then (g hh : Nat) (S : St) (i n : Int32) : Int32 × St :=
  if rg i 0 (hh - 1 : Int) = true ∧ rg n 0 60 = true then (tryN g hh n.toNatClampNeg (cpR (sR S) 0 624 12) (630 + i.toNatClampNeg), stR S (tryN g hh n.toNatClampNeg (cpR (sR S) 0 624 12))) else (-2, refu S 0)
theorem M_then {i n : Int32} (m : ModelAt h S) (hg : sR S 12 = nI g) (h6 : g ≤ 6) (hh0 : sR S 25 = nI hh) (h4 : hh ≤ 4) (k : ∀ h2, ModelAt h2 (sp_then g hh S i n).2 → frM h h2 → Q (some (.int (sp_then g hh S i n).1)) h2) : T (d + 6) 175 0 [.ref 58, .int i, .int n, un] [] h Q := by
  refine T_eq m.self ?_
  have mm := m.again
  have ho := m.mo.o (R := sR S)
  obtain ⟨ab, be, ln, pa, pb, r5, r6, dg, e1⟩ := id m.mo
  unfold sp_then at k
  by_cases q : rg i 0 (hh - 1 : Int) = true
  · by_cases q2 : rg n 0 60 = true
    · obtain ⟨a, ha, rfl⟩ := rg_n q
      obtain ⟨b, hb, rfl⟩ := rg_l (b := 60) q2
      rw [if_pos ⟨q, q2⟩] at k
      simp (disch := first | assumption | omega | decide) only [nI_clamp] at k
      have L := loop_j (P := fun j (R : Nat → Int32) (u : Value) => T (d + 6) 175 31 [.ref 58, .int (nI a), .int (nI b), .int (nI j)] [] (hm h R) Q) (F := fun _ R => psR R g hh 624) (I := fun _ R => R 12 = nI g ∧ R 25 = nI hh) (E := fun R => Q (some (.int (R (630 + a)))) (hm h R)) (g := b) ?_ ?_
      · simp (disch := first | assumption | omega | decide) only [t175_0, t175_1, t175_2, t175_5, t175_8, t175_9, t175_10, t175_12, t175_15, t175_18, t175_19, t175_21, t175_24, t175_25, t175_26, t175_29, t175_30, hm_58, hm_59, hm_up, e1, MO, gF_7_0, gF_7_1, gF_7_2, gF_7_3, gF_7_4, gF_7_5, gF_7_6, gF_7_7, aS_n, aS_l, aL_n, aL_l, ln_add, nl_add, ln_mul, nl_mul, nI_add, nI_1, i32_nl, ite_not, lt_nn, lt_nl, lt_ln, eq_nn, eq_nl, eq_ln, if_true, if_false, kil_i, kil_r, kil_l, kil_u, rl_s, rl_n, Nat.zero_add, Nat.lt_irrefl, not_true_eq_false, not_false_eq_true, true_and, dp_1, dp_2, dp_3, dp_4, dp_5, dp_6, dp_7, dp_8, dp_9, dp_10, dp_11, dp_12, dp_13, dp_14, dp_15, dp_16, dp_17, dp_18, dp_19, dp_20, dp_21, dp_22, dp_23, dp_24, dp_25, dp_26, dp_27, dp_28, dp_29, dp_30, dp_31, dp_32, dp_33, dp_34, dp_35, dp_36, dp_37, dp_38, dp_39, E_isHouse m.mo hh0 h4, E_inL, zb_0, q, q2, E_layTried m.mo]
        exact (L (cpR (sR S) 0 624 12) un ⟨by rw [cpR_o (by omega)]; exact hg, by rw [cpR_o (by omega)]; exact hh0⟩).2 (kW m k)
      · intro j R u hj ⟨hI1, hI2⟩
        refine ⟨⟨by rw [psR_c h4 (by omega)]; exact hI1, by rw [psR_c h4 (by omega)]; exact hI2⟩, un, ?_⟩
        have ho := m.mo.o (R := R)
        rw [t175_31]
        have C := @E_passes d R h (fun r h2 => T (d + 6) 175 43 [.ref 58, .int (nI a), .int (nI b), .int (nI j)] (rl r []) h2 Q) g hh 624 m.mo hI1 h6 hI2 h4 (by omega)
        simp (disch := first | assumption | omega | decide) only [t175_32, t175_33, t175_36, t175_37, t175_40, hm_58, hm_59, hm_up, e1, MO, gF_7_0, gF_7_1, gF_7_2, gF_7_3, gF_7_4, gF_7_5, gF_7_6, gF_7_7, aS_n, aS_l, aL_n, aL_l, ln_add, nl_add, ln_mul, nl_mul, nI_add, nI_1, i32_nl, ite_not, lt_nn, lt_nl, lt_ln, eq_nn, eq_nl, eq_ln, if_true, if_false, kil_i, kil_r, kil_l, kil_u, rl_s, rl_n, Nat.zero_add, Nat.lt_irrefl, not_true_eq_false, not_false_eq_true, true_and, dp_1, dp_2, dp_3, dp_4, dp_5, dp_6, dp_7, dp_8, dp_9, dp_10, dp_11, dp_12, dp_13, dp_14, dp_15, dp_16, dp_17, dp_18, dp_19, dp_20, dp_21, dp_22, dp_23, dp_24, dp_25, dp_26, dp_27, dp_28, dp_29, dp_30, dp_31, dp_32, dp_33, dp_34, dp_35, dp_36, dp_37, dp_38, dp_39, hj]
        refine C.trans ?_
        simp (disch := first | assumption | omega | decide) only [t175_43, t175_46, hm_58, hm_59, hm_up, e1, MO, gF_7_0, gF_7_1, gF_7_2, gF_7_3, gF_7_4, gF_7_5, gF_7_6, gF_7_7, aS_n, aS_l, aL_n, aL_l, ln_add, nl_add, ln_mul, nl_mul, nI_add, nI_1, i32_nl, ite_not, lt_nn, lt_nl, lt_ln, eq_nn, eq_nl, eq_ln, if_true, if_false, kil_i, kil_r, kil_l, kil_u, rl_s, rl_n, Nat.zero_add, Nat.lt_irrefl, not_true_eq_false, not_false_eq_true, true_and, dp_1, dp_2, dp_3, dp_4, dp_5, dp_6, dp_7, dp_8, dp_9, dp_10, dp_11, dp_12, dp_13, dp_14, dp_15, dp_16, dp_17, dp_18, dp_19, dp_20, dp_21, dp_22, dp_23, dp_24, dp_25, dp_26, dp_27, dp_28, dp_29, dp_30, dp_31, dp_32, dp_33, dp_34, dp_35, dp_36, dp_37, dp_38, dp_39]
      · intro R u ⟨hI1, hI2⟩
        rw [t175_31]
        simp (disch := first | assumption | omega | decide) only [t175_32, t175_33, t175_49, t175_50, t175_53, t175_56, t175_57, t175_58, t175_59, hm_58, hm_59, hm_up, e1, MO, gF_7_0, gF_7_1, gF_7_2, gF_7_3, gF_7_4, gF_7_5, gF_7_6, gF_7_7, aS_n, aS_l, aL_n, aL_l, ln_add, nl_add, ln_mul, nl_mul, nI_add, nI_1, i32_nl, ite_not, lt_nn, lt_nl, lt_ln, eq_nn, eq_nl, eq_ln, if_true, if_false, kil_i, kil_r, kil_l, kil_u, rl_s, rl_n, Nat.zero_add, Nat.lt_irrefl, not_true_eq_false, not_false_eq_true, true_and, dp_1, dp_2, dp_3, dp_4, dp_5, dp_6, dp_7, dp_8, dp_9, dp_10, dp_11, dp_12, dp_13, dp_14, dp_15, dp_16, dp_17, dp_18, dp_19, dp_20, dp_21, dp_22, dp_23, dp_24, dp_25, dp_26, dp_27, dp_28, dp_29, dp_30, dp_31, dp_32, dp_33, dp_34, dp_35, dp_36, dp_37, dp_38, dp_39]
    · rw [if_neg (fun z => q2 z.2)] at k
      simp (disch := first | assumption | omega | decide) only [t175_0, t175_1, t175_2, t175_5, t175_8, t175_9, t175_10, t175_12, t175_15, t175_18, t175_19, t175_21, t175_24, t175_25, t175_26, t175_29, t175_30, t175_31, t175_32, t175_33, t175_36, t175_37, t175_40, t175_43, t175_46, t175_49, t175_50, t175_53, t175_56, t175_57, t175_58, t175_59, hm_58, hm_59, hm_up, e1, MO, gF_7_0, gF_7_1, gF_7_2, gF_7_3, gF_7_4, gF_7_5, gF_7_6, gF_7_7, aS_n, aS_l, aL_n, aL_l, ln_add, nl_add, ln_mul, nl_mul, nI_add, nI_1, i32_nl, ite_not, lt_nn, lt_nl, lt_ln, eq_nn, eq_nl, eq_ln, if_true, if_false, kil_i, kil_r, kil_l, kil_u, rl_s, rl_n, Nat.zero_add, Nat.lt_irrefl, not_true_eq_false, not_false_eq_true, true_and, dp_1, dp_2, dp_3, dp_4, dp_5, dp_6, dp_7, dp_8, dp_9, dp_10, dp_11, dp_12, dp_13, dp_14, dp_15, dp_16, dp_17, dp_18, dp_19, dp_20, dp_21, dp_22, dp_23, dp_24, dp_25, dp_26, dp_27, dp_28, dp_29, dp_30, dp_31, dp_32, dp_33, dp_34, dp_35, dp_36, dp_37, dp_38, dp_39, E_isHouse m.mo hh0 h4, E_inL, zb_0, q, q2, E_refB mm]
      exact kR m 0 k
  · rw [if_neg (fun z => q z.1)] at k
    simp (disch := first | assumption | omega | decide) only [t175_0, t175_1, t175_2, t175_5, t175_8, t175_9, t175_10, t175_12, t175_15, t175_18, t175_19, t175_21, t175_24, t175_25, t175_26, t175_29, t175_30, t175_31, t175_32, t175_33, t175_36, t175_37, t175_40, t175_43, t175_46, t175_49, t175_50, t175_53, t175_56, t175_57, t175_58, t175_59, hm_58, hm_59, hm_up, e1, MO, gF_7_0, gF_7_1, gF_7_2, gF_7_3, gF_7_4, gF_7_5, gF_7_6, gF_7_7, aS_n, aS_l, aL_n, aL_l, ln_add, nl_add, ln_mul, nl_mul, nI_add, nI_1, i32_nl, ite_not, lt_nn, lt_nl, lt_ln, eq_nn, eq_nl, eq_ln, if_true, if_false, kil_i, kil_r, kil_l, kil_u, rl_s, rl_n, Nat.zero_add, Nat.lt_irrefl, not_true_eq_false, not_false_eq_true, true_and, dp_1, dp_2, dp_3, dp_4, dp_5, dp_6, dp_7, dp_8, dp_9, dp_10, dp_11, dp_12, dp_13, dp_14, dp_15, dp_16, dp_17, dp_18, dp_19, dp_20, dp_21, dp_22, dp_23, dp_24, dp_25, dp_26, dp_27, dp_28, dp_29, dp_30, dp_31, dp_32, dp_33, dp_34, dp_35, dp_36, dp_37, dp_38, dp_39, E_isHouse m.mo hh0 h4, zb_0, q, E_refB mm]
    exact kR m 0 k
def whn (g hh a : Nat) (x : Int32) (R : Nat → Int32) : Option Nat × (Nat → Int32) := fnd (fun _ R => decide (x ≤ R (630 + a))) (fun _ R => psR R g hh 624) 61 0 R
def sp_when (g hh : Nat) (S : St) (i x : Int32) : Int32 × St :=
  if rg i 0 (hh - 1 : Int) = true ∧ rg x 1 999 = true then
    ((match (whn g hh i.toNatClampNeg x (cpR (sR S) 0 624 12)).1 with | some j => nI j | none => -1), stR S (whn g hh i.toNatClampNeg x (cpR (sR S) 0 624 12)).2)
  else (-2, refu S 0)
theorem M_when {i x : Int32} (m : ModelAt h S) (hg : sR S 12 = nI g) (h6 : g ≤ 6) (hh0 : sR S 25 = nI hh) (h4 : hh ≤ 4) (k : ∀ h2, ModelAt h2 (sp_when g hh S i x).2 → frM h h2 → Q (some (.int (sp_when g hh S i x).1)) h2) : T (d + 6) 176 0 [.ref 58, .int i, .int x, un] [] h Q := by
  refine T_eq m.self ?_
  have mm := m.again
  have ho := m.mo.o (R := sR S)
  obtain ⟨ab, be, ln, pa, pb, r5, r6, dg, e1⟩ := id m.mo
  unfold sp_when at k
  by_cases q : rg i 0 (hh - 1 : Int) = true
  · by_cases q2 : rg x 1 999 = true
    · obtain ⟨a, ha, rfl⟩ := rg_n q
      rw [if_pos ⟨q, q2⟩] at k
      simp (disch := first | assumption | omega | decide) only [nI_clamp] at k
      have L := loop_f (P := fun j (R : Nat → Int32) (u : Value) => T (d + 6) 176 32 [.ref 58, .int (nI a), .int x, .int (nI j)] [] (hm h R) Q) (c := fun _ R => decide (x ≤ R (630 + a))) (F := fun _ R => psR R g hh 624) (I := fun _ R => R 12 = nI g ∧ R 25 = nI hh) (E := fun o R => Q (some (.int (match o with | some j => nI j | none => -1))) (hm h R)) (g := 61) ?_ ?_ ?_
      · simp (disch := first | assumption | omega | decide) only [t176_0, t176_1, t176_2, t176_5, t176_8, t176_9, t176_10, t176_13, t176_16, t176_19, t176_20, t176_22, t176_25, t176_26, t176_27, t176_30, t176_31, hm_58, hm_59, hm_up, e1, MO, gF_7_0, gF_7_1, gF_7_2, gF_7_3, gF_7_4, gF_7_5, gF_7_6, gF_7_7, aS_n, aS_l, aL_n, aL_l, ln_add, nl_add, ln_mul, nl_mul, nI_add, nI_1, i32_nl, ite_not, lt_nn, lt_nl, lt_ln, eq_nn, eq_nl, eq_ln, if_true, if_false, kil_i, kil_r, kil_l, kil_u, rl_s, rl_n, Nat.zero_add, Nat.lt_irrefl, not_true_eq_false, not_false_eq_true, true_and, dp_1, dp_2, dp_3, dp_4, dp_5, dp_6, dp_7, dp_8, dp_9, dp_10, dp_11, dp_12, dp_13, dp_14, dp_15, dp_16, dp_17, dp_18, dp_19, dp_20, dp_21, dp_22, dp_23, dp_24, dp_25, dp_26, dp_27, dp_28, dp_29, dp_30, dp_31, dp_32, dp_33, dp_34, dp_35, dp_36, dp_37, dp_38, dp_39, E_isHouse m.mo hh0 h4, E_inL, zb_0, q, q2, E_layTried m.mo]
        exact (L (cpR (sR S) 0 624 12) un ⟨by rw [cpR_o (by omega)]; exact hg, by rw [cpR_o (by omega)]; exact hh0⟩).2 (kW m k)
      · intro j R u hj _ hc
        rw [decide_eq_true_iff, i32_nl] at hc
        rw [t176_32]
        simp (disch := first | assumption | omega | decide) only [t176_33, t176_35, t176_38, t176_39, t176_42, t176_45, t176_46, t176_47, t176_48, t176_49, t176_52, t176_53, hm_58, hm_59, hm_up, e1, MO, gF_7_0, gF_7_1, gF_7_2, gF_7_3, gF_7_4, gF_7_5, gF_7_6, gF_7_7, aS_n, aS_l, aL_n, aL_l, ln_add, nl_add, ln_mul, nl_mul, nI_add, nI_1, i32_nl, ite_not, lt_nn, lt_nl, lt_ln, eq_nn, eq_nl, eq_ln, if_true, if_false, kil_i, kil_r, kil_l, kil_u, rl_s, rl_n, Nat.zero_add, Nat.lt_irrefl, not_true_eq_false, not_false_eq_true, true_and, dp_1, dp_2, dp_3, dp_4, dp_5, dp_6, dp_7, dp_8, dp_9, dp_10, dp_11, dp_12, dp_13, dp_14, dp_15, dp_16, dp_17, dp_18, dp_19, dp_20, dp_21, dp_22, dp_23, dp_24, dp_25, dp_26, dp_27, dp_28, dp_29, dp_30, dp_31, dp_32, dp_33, dp_34, dp_35, dp_36, dp_37, dp_38, dp_39, hj, hc]
      · intro j R u hj ⟨hI1, hI2⟩ hc
        refine ⟨⟨by rw [psR_c h4 (by omega)]; exact hI1, by rw [psR_c h4 (by omega)]; exact hI2⟩, un, ?_⟩
        have ho := m.mo.o (R := R)
        rw [decide_eq_true_iff, i32_nl, Classical.not_not] at hc
        rw [t176_32]
        have C := @E_passes d R h (fun r h2 => T (d + 6) 176 61 [.ref 58, .int (nI a), .int x, .int (nI j)] (rl r []) h2 Q) g hh 624 m.mo hI1 h6 hI2 h4 (by omega)
        simp (disch := first | assumption | omega | decide) only [t176_33, t176_35, t176_38, t176_39, t176_42, t176_45, t176_46, t176_47, t176_48, t176_49, t176_52, t176_53, t176_54, t176_55, t176_58, hm_58, hm_59, hm_up, e1, MO, gF_7_0, gF_7_1, gF_7_2, gF_7_3, gF_7_4, gF_7_5, gF_7_6, gF_7_7, aS_n, aS_l, aL_n, aL_l, ln_add, nl_add, ln_mul, nl_mul, nI_add, nI_1, i32_nl, ite_not, lt_nn, lt_nl, lt_ln, eq_nn, eq_nl, eq_ln, if_true, if_false, kil_i, kil_r, kil_l, kil_u, rl_s, rl_n, Nat.zero_add, Nat.lt_irrefl, not_true_eq_false, not_false_eq_true, true_and, dp_1, dp_2, dp_3, dp_4, dp_5, dp_6, dp_7, dp_8, dp_9, dp_10, dp_11, dp_12, dp_13, dp_14, dp_15, dp_16, dp_17, dp_18, dp_19, dp_20, dp_21, dp_22, dp_23, dp_24, dp_25, dp_26, dp_27, dp_28, dp_29, dp_30, dp_31, dp_32, dp_33, dp_34, dp_35, dp_36, dp_37, dp_38, dp_39, hj, hc]
        refine C.trans ?_
        simp (disch := first | assumption | omega | decide) only [t176_61, t176_64, hm_58, hm_59, hm_up, e1, MO, gF_7_0, gF_7_1, gF_7_2, gF_7_3, gF_7_4, gF_7_5, gF_7_6, gF_7_7, aS_n, aS_l, aL_n, aL_l, ln_add, nl_add, ln_mul, nl_mul, nI_add, nI_1, i32_nl, ite_not, lt_nn, lt_nl, lt_ln, eq_nn, eq_nl, eq_ln, if_true, if_false, kil_i, kil_r, kil_l, kil_u, rl_s, rl_n, Nat.zero_add, Nat.lt_irrefl, not_true_eq_false, not_false_eq_true, true_and, dp_1, dp_2, dp_3, dp_4, dp_5, dp_6, dp_7, dp_8, dp_9, dp_10, dp_11, dp_12, dp_13, dp_14, dp_15, dp_16, dp_17, dp_18, dp_19, dp_20, dp_21, dp_22, dp_23, dp_24, dp_25, dp_26, dp_27, dp_28, dp_29, dp_30, dp_31, dp_32, dp_33, dp_34, dp_35, dp_36, dp_37, dp_38, dp_39]
      · intro R u _
        rw [t176_32]
        simp (disch := first | assumption | omega | decide) only [t176_33, t176_35, t176_67, t176_68, hm_58, hm_59, hm_up, e1, MO, gF_7_0, gF_7_1, gF_7_2, gF_7_3, gF_7_4, gF_7_5, gF_7_6, gF_7_7, aS_n, aS_l, aL_n, aL_l, ln_add, nl_add, ln_mul, nl_mul, nI_add, nI_1, i32_nl, ite_not, lt_nn, lt_nl, lt_ln, eq_nn, eq_nl, eq_ln, if_true, if_false, kil_i, kil_r, kil_l, kil_u, rl_s, rl_n, Nat.zero_add, Nat.lt_irrefl, not_true_eq_false, not_false_eq_true, true_and, dp_1, dp_2, dp_3, dp_4, dp_5, dp_6, dp_7, dp_8, dp_9, dp_10, dp_11, dp_12, dp_13, dp_14, dp_15, dp_16, dp_17, dp_18, dp_19, dp_20, dp_21, dp_22, dp_23, dp_24, dp_25, dp_26, dp_27, dp_28, dp_29, dp_30, dp_31, dp_32, dp_33, dp_34, dp_35, dp_36, dp_37, dp_38, dp_39]
    · rw [if_neg (fun z => q2 z.2)] at k
      simp (disch := first | assumption | omega | decide) only [t176_0, t176_1, t176_2, t176_5, t176_8, t176_9, t176_10, t176_13, t176_16, t176_19, t176_20, t176_22, t176_25, t176_26, t176_27, t176_30, t176_31, t176_32, t176_33, t176_35, t176_38, t176_39, t176_42, t176_45, t176_46, t176_47, t176_48, t176_49, t176_52, t176_53, t176_54, t176_55, t176_58, t176_61, t176_64, t176_67, t176_68, hm_58, hm_59, hm_up, e1, MO, gF_7_0, gF_7_1, gF_7_2, gF_7_3, gF_7_4, gF_7_5, gF_7_6, gF_7_7, aS_n, aS_l, aL_n, aL_l, ln_add, nl_add, ln_mul, nl_mul, nI_add, nI_1, i32_nl, ite_not, lt_nn, lt_nl, lt_ln, eq_nn, eq_nl, eq_ln, if_true, if_false, kil_i, kil_r, kil_l, kil_u, rl_s, rl_n, Nat.zero_add, Nat.lt_irrefl, not_true_eq_false, not_false_eq_true, true_and, dp_1, dp_2, dp_3, dp_4, dp_5, dp_6, dp_7, dp_8, dp_9, dp_10, dp_11, dp_12, dp_13, dp_14, dp_15, dp_16, dp_17, dp_18, dp_19, dp_20, dp_21, dp_22, dp_23, dp_24, dp_25, dp_26, dp_27, dp_28, dp_29, dp_30, dp_31, dp_32, dp_33, dp_34, dp_35, dp_36, dp_37, dp_38, dp_39, E_isHouse m.mo hh0 h4, E_inL, zb_0, q, q2, E_refB mm]
      exact kR m 0 k
  · rw [if_neg (fun z => q z.1)] at k
    simp (disch := first | assumption | omega | decide) only [t176_0, t176_1, t176_2, t176_5, t176_8, t176_9, t176_10, t176_13, t176_16, t176_19, t176_20, t176_22, t176_25, t176_26, t176_27, t176_30, t176_31, t176_32, t176_33, t176_35, t176_38, t176_39, t176_42, t176_45, t176_46, t176_47, t176_48, t176_49, t176_52, t176_53, t176_54, t176_55, t176_58, t176_61, t176_64, t176_67, t176_68, hm_58, hm_59, hm_up, e1, MO, gF_7_0, gF_7_1, gF_7_2, gF_7_3, gF_7_4, gF_7_5, gF_7_6, gF_7_7, aS_n, aS_l, aL_n, aL_l, ln_add, nl_add, ln_mul, nl_mul, nI_add, nI_1, i32_nl, ite_not, lt_nn, lt_nl, lt_ln, eq_nn, eq_nl, eq_ln, if_true, if_false, kil_i, kil_r, kil_l, kil_u, rl_s, rl_n, Nat.zero_add, Nat.lt_irrefl, not_true_eq_false, not_false_eq_true, true_and, dp_1, dp_2, dp_3, dp_4, dp_5, dp_6, dp_7, dp_8, dp_9, dp_10, dp_11, dp_12, dp_13, dp_14, dp_15, dp_16, dp_17, dp_18, dp_19, dp_20, dp_21, dp_22, dp_23, dp_24, dp_25, dp_26, dp_27, dp_28, dp_29, dp_30, dp_31, dp_32, dp_33, dp_34, dp_35, dp_36, dp_37, dp_38, dp_39, E_isHouse m.mo hh0 h4, zb_0, q, E_refB mm]
    exact kR m 0 k
end P4
