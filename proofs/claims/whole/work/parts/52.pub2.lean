/-! the reference's public calls: who goes where; what stays -/
theorem rwP_o {R : Nat → Int32} {n k : Nat} (hn : n ≤ 8) (hk : k < 111) : rwP R n k = R k := by
  unfold rwP rwK rwS
  split
  · simp only [upd]; rw [if_neg (by omega), cpR_o (by omega)]; simp only [upd]; rw [if_neg (by omega), cpR_o (by omega)]
  · simp only [upd]; rw [if_neg (by omega), cpR_o (by omega)]
theorem sts_congr {R R2 : Nat → Int32} {i j : Nat} {w : Int32} (h1 : R2 (13 + i) = R (13 + i)) (h2 : R2 (19 + i) = R (19 + i)) (h3 : R2 (26 + j) = R (26 + j)) (h4 : R2 (30 + j) = R (30 + j)) : sts R2 i j w = sts R i j w := by
  unfold sts; rw [h1, h2, h3, h4]
section P2
variable {d : Nat} {h : Hp} {Q : Pst} {S : St} {g hh un0 : Nat}
def isGH (g hh : Nat) (i j : Int32) : Prop := rg i 0 (g - 1 : Int) = true ∧ rg j 0 (hh - 1 : Int) = true
theorem andI {a b : Prop} (h1 : a) (h2 : b) : (a ∧ b) = True := by simp [h1, h2]
theorem and1 {a b : Prop} (h1 : ¬ a) : (a ∧ b) = False := by simp [h1]
theorem and2 {a b : Prop} (h2 : ¬ b) : (a ∧ b) = False := by simp [h2]
def sp_calls (g hh un0 : Nat) (S : St) (i j : Int32) : Int32 × St :=
  if rg i 0 (g - 1 : Int) = true ∧ rg j 0 (hh - 1 : Int) = true then
    if sR S (0 + i.toNatClampNeg) = j then (-3, refu S 1)
    else (sts (sR S) i.toNatClampNeg j.toNatClampNeg (sR S 10), stR S (upd (rwP (sR S) un0) (0 + i.toNatClampNeg) j))
  else (-2, refu S 0)
theorem M_calls {i j : Int32} (m : ModelAt h S) (hg : sR S 12 = nI g) (h6 : g ≤ 6) (hh0 : sR S 25 = nI hh) (h4 : hh ≤ 4) (hu : sR S 111 = nI un0) (h8 : un0 ≤ 8) (k : ∀ h2, ModelAt h2 (sp_calls g hh un0 S i j).2 → frM h h2 → Q (some (.int (sp_calls g hh un0 S i j).1)) h2) : T (d + 4) 165 0 [.ref 58, .int i, .int j] [] h Q := by
  refine T_eq m.self ?_
  have mm := m.again
  have ho := m.mo.o (R := sR S)
  obtain ⟨ab, be, ln, pa, pb, r5, r6, dg, e1⟩ := id m.mo
  unfold sp_calls at k
  by_cases q : rg i 0 (g - 1 : Int) = true
  · by_cases q2 : rg j 0 (hh - 1 : Int) = true
    · obtain ⟨a, ha, rfl⟩ := rg_n q
      obtain ⟨b, hb, rfl⟩ := rg_n q2
      rw [if_pos ⟨q, q2⟩] at k
      simp (disch := first | assumption | omega | decide) only [nI_clamp, Nat.zero_add] at k
      by_cases q3 : sR S a = nI b
      · simp only [q3, if_true] at k
        simp (disch := first | assumption | omega | decide) only [t165_0, t165_1, t165_2, t165_5, t165_8, t165_9, t165_10, t165_13, t165_16, t165_17, t165_19, t165_22, t165_23, t165_24, t165_27, t165_28, t165_29, t165_30, t165_31, t165_32, t165_35, t165_36, t165_38, t165_41, t165_42, t165_43, t165_46, t165_47, t165_50, t165_51, t165_52, t165_53, t165_54, t165_55, t165_56, t165_57, t165_58, t165_59, t165_62, t165_64, t165_65, t165_68, hm_58, hm_59, hm_up, e1, MO, gF_7_0, gF_7_1, gF_7_2, gF_7_3, gF_7_4, gF_7_5, gF_7_6, gF_7_7, aS_n, aS_l, aL_n, aL_l, ln_add, nl_add, ln_mul, nl_mul, nI_add, nI_1, i32_nl, ite_not, lt_nn, lt_nl, lt_ln, eq_nn, eq_nl, eq_ln, if_true, if_false, kil_i, kil_r, kil_l, kil_u, rl_s, rl_n, Nat.zero_add, Nat.lt_irrefl, not_true_eq_false, not_false_eq_true, true_and, dp_1, dp_2, dp_3, dp_4, dp_5, dp_6, dp_7, dp_8, dp_9, dp_10, dp_11, dp_12, dp_13, dp_14, dp_15, dp_16, dp_17, dp_18, dp_19, dp_20, dp_21, dp_22, dp_23, dp_24, dp_25, dp_26, dp_27, dp_28, dp_29, dp_30, dp_31, dp_32, dp_33, dp_34, dp_35, dp_36, dp_37, dp_38, dp_39, E_isGuest m.mo hg h6, E_isHouse m.mo hh0 h4, zb_0, q, q2, E_refN mm, q3]
        exact kR m 1 k
      · simp only [q3, if_false] at k
        have ho2 := m.mo.o (R := rwP (sR S) un0)
        have ho3 := m.mo.o (R := upd (rwP (sR S) un0) a (nI b))
        simp (disch := first | assumption | omega | decide) only [t165_0, t165_1, t165_2, t165_5, t165_8, t165_9, t165_10, t165_13, t165_16, t165_17, t165_19, t165_22, t165_23, t165_24, t165_27, t165_28, t165_29, t165_30, t165_31, t165_32, t165_35, t165_36, t165_38, t165_41, t165_42, t165_43, t165_46, t165_47, t165_50, t165_51, t165_52, t165_53, t165_54, t165_55, t165_56, t165_57, t165_58, t165_59, t165_62, t165_64, t165_65, t165_68, hm_58, hm_59, hm_up, e1, MO, gF_7_0, gF_7_1, gF_7_2, gF_7_3, gF_7_4, gF_7_5, gF_7_6, gF_7_7, aS_n, aS_l, aL_n, aL_l, ln_add, nl_add, ln_mul, nl_mul, nI_add, nI_1, i32_nl, ite_not, lt_nn, lt_nl, lt_ln, eq_nn, eq_nl, eq_ln, if_true, if_false, kil_i, kil_r, kil_l, kil_u, rl_s, rl_n, Nat.zero_add, Nat.lt_irrefl, not_true_eq_false, not_false_eq_true, true_and, dp_1, dp_2, dp_3, dp_4, dp_5, dp_6, dp_7, dp_8, dp_9, dp_10, dp_11, dp_12, dp_13, dp_14, dp_15, dp_16, dp_17, dp_18, dp_19, dp_20, dp_21, dp_22, dp_23, dp_24, dp_25, dp_26, dp_27, dp_28, dp_29, dp_30, dp_31, dp_32, dp_33, dp_34, dp_35, dp_36, dp_37, dp_38, dp_39, E_isGuest m.mo hg h6, E_isHouse m.mo hh0 h4, zb_0, q, q2, E_keepPast m.mo hu h8, q3]
        simp (disch := first | assumption | omega | decide) only [E_staysOf m.mo.mr (show a < 6 by omega) (show b < 4 by omega), hm_58, hm_59, hm_up, e1, MO, gF_7_0, gF_7_1, gF_7_2, gF_7_3, gF_7_4, gF_7_5, gF_7_6, gF_7_7, aS_n, aS_l, aL_n, aL_l, ln_add, nl_add, ln_mul, nl_mul, nI_add, nI_1, i32_nl, ite_not, lt_nn, lt_nl, lt_ln, eq_nn, eq_nl, eq_ln, if_true, if_false, kil_i, kil_r, kil_l, kil_u, rl_s, rl_n, Nat.zero_add, Nat.lt_irrefl, not_true_eq_false, not_false_eq_true, true_and, dp_1, dp_2, dp_3, dp_4, dp_5, dp_6, dp_7, dp_8, dp_9, dp_10, dp_11, dp_12, dp_13, dp_14, dp_15, dp_16, dp_17, dp_18, dp_19, dp_20, dp_21, dp_22, dp_23, dp_24, dp_25, dp_26, dp_27, dp_28, dp_29, dp_30, dp_31, dp_32, dp_33, dp_34, dp_35, dp_36, dp_37, dp_38, dp_39]
        have e : upd (rwP (sR S) un0) a (nI b) 10 = sR S 10 := by simp only [upd]; rw [if_neg (by omega), rwP_o h8 (by omega)]
        have oo : ∀ x, 10 ≤ x → x < 111 → upd (rwP (sR S) un0) a (nI b) x = sR S x := fun x h1 h2 => by simp only [upd]; rw [if_neg (by omega), rwP_o h8 h2]
        rw [e, sts_congr (oo _ (by omega) (by omega)) (oo _ (by omega) (by omega)) (oo _ (by omega) (by omega)) (oo _ (by omega) (by omega)), t165_68]
        exact kW m k
    · rw [if_neg (fun z => q2 z.2)] at k
      simp (disch := first | assumption | omega | decide) only [t165_0, t165_1, t165_2, t165_5, t165_8, t165_9, t165_10, t165_13, t165_16, t165_17, t165_19, t165_22, t165_23, t165_24, t165_27, t165_28, t165_29, t165_30, t165_31, t165_32, t165_35, t165_36, t165_38, t165_41, t165_42, t165_43, t165_46, t165_47, t165_50, t165_51, t165_52, t165_53, t165_54, t165_55, t165_56, t165_57, t165_58, t165_59, t165_62, t165_64, t165_65, t165_68, hm_58, hm_59, hm_up, e1, MO, gF_7_0, gF_7_1, gF_7_2, gF_7_3, gF_7_4, gF_7_5, gF_7_6, gF_7_7, aS_n, aS_l, aL_n, aL_l, ln_add, nl_add, ln_mul, nl_mul, nI_add, nI_1, i32_nl, ite_not, lt_nn, lt_nl, lt_ln, eq_nn, eq_nl, eq_ln, if_true, if_false, kil_i, kil_r, kil_l, kil_u, rl_s, rl_n, Nat.zero_add, Nat.lt_irrefl, not_true_eq_false, not_false_eq_true, true_and, dp_1, dp_2, dp_3, dp_4, dp_5, dp_6, dp_7, dp_8, dp_9, dp_10, dp_11, dp_12, dp_13, dp_14, dp_15, dp_16, dp_17, dp_18, dp_19, dp_20, dp_21, dp_22, dp_23, dp_24, dp_25, dp_26, dp_27, dp_28, dp_29, dp_30, dp_31, dp_32, dp_33, dp_34, dp_35, dp_36, dp_37, dp_38, dp_39, E_isGuest m.mo hg h6, E_isHouse m.mo hh0 h4, zb_0, q, q2, E_refB mm]
      exact kR m 0 k
  · rw [if_neg (fun z => q z.1)] at k
    simp (disch := first | assumption | omega | decide) only [t165_0, t165_1, t165_2, t165_5, t165_8, t165_9, t165_10, t165_13, t165_16, t165_17, t165_19, t165_22, t165_23, t165_24, t165_27, t165_28, t165_29, t165_30, t165_31, t165_32, t165_35, t165_36, t165_38, t165_41, t165_42, t165_43, t165_46, t165_47, t165_50, t165_51, t165_52, t165_53, t165_54, t165_55, t165_56, t165_57, t165_58, t165_59, t165_62, t165_64, t165_65, t165_68, hm_58, hm_59, hm_up, e1, MO, gF_7_0, gF_7_1, gF_7_2, gF_7_3, gF_7_4, gF_7_5, gF_7_6, gF_7_7, aS_n, aS_l, aL_n, aL_l, ln_add, nl_add, ln_mul, nl_mul, nI_add, nI_1, i32_nl, ite_not, lt_nn, lt_nl, lt_ln, eq_nn, eq_nl, eq_ln, if_true, if_false, kil_i, kil_r, kil_l, kil_u, rl_s, rl_n, Nat.zero_add, Nat.lt_irrefl, not_true_eq_false, not_false_eq_true, true_and, dp_1, dp_2, dp_3, dp_4, dp_5, dp_6, dp_7, dp_8, dp_9, dp_10, dp_11, dp_12, dp_13, dp_14, dp_15, dp_16, dp_17, dp_18, dp_19, dp_20, dp_21, dp_22, dp_23, dp_24, dp_25, dp_26, dp_27, dp_28, dp_29, dp_30, dp_31, dp_32, dp_33, dp_34, dp_35, dp_36, dp_37, dp_38, dp_39, E_isGuest m.mo hg h6, zb_0, q, E_refB mm]
    exact kR m 0 k
def sp_leaves (g un0 : Nat) (S : St) (i : Int32) : Int32 × St :=
  if rg i 0 (g - 1 : Int) = true then
    if sR S (0 + i.toNatClampNeg) = -1 then (-3, refu S 1)
    else (sR S (0 + i.toNatClampNeg), stR S (upd (rwP (sR S) un0) (0 + i.toNatClampNeg) (-1)))
  else (-2, refu S 0)
theorem M_leaves {i : Int32} (m : ModelAt h S) (hg : sR S 12 = nI g) (h6 : g ≤ 6) (hu : sR S 111 = nI un0) (h8 : un0 ≤ 8) (k : ∀ h2, ModelAt h2 (sp_leaves g un0 S i).2 → frM h h2 → Q (some (.int (sp_leaves g un0 S i).1)) h2) : T (d + 4) 166 0 [.ref 58, .int i, un] [] h Q := by
  refine T_eq m.self ?_
  have mm := m.again
  have ho := m.mo.o (R := sR S)
  obtain ⟨ab, be, ln, pa, pb, r5, r6, dg, e1⟩ := id m.mo
  unfold sp_leaves at k
  by_cases q : rg i 0 (g - 1 : Int) = true
  · obtain ⟨a, ha, rfl⟩ := rg_n q
    rw [if_pos q] at k
    simp (disch := first | assumption | omega | decide) only [nI_clamp, Nat.zero_add] at k
    by_cases q3 : sR S a = -1
    · simp only [q3, if_true] at k
      simp (disch := first | assumption | omega | decide) only [t166_0, t166_1, t166_2, t166_5, t166_8, t166_9, t166_11, t166_14, t166_15, t166_16, t166_19, t166_20, t166_21, t166_22, t166_23, t166_24, t166_25, t166_26, t166_29, t166_30, t166_32, t166_35, t166_36, t166_37, t166_40, t166_41, t166_44, t166_45, t166_46, t166_47, t166_48, t166_49, t166_50, hm_58, hm_59, hm_up, e1, MO, gF_7_0, gF_7_1, gF_7_2, gF_7_3, gF_7_4, gF_7_5, gF_7_6, gF_7_7, aS_n, aS_l, aL_n, aL_l, ln_add, nl_add, ln_mul, nl_mul, nI_add, nI_1, i32_nl, ite_not, lt_nn, lt_nl, lt_ln, eq_nn, eq_nl, eq_ln, if_true, if_false, kil_i, kil_r, kil_l, kil_u, rl_s, rl_n, Nat.zero_add, Nat.lt_irrefl, not_true_eq_false, not_false_eq_true, true_and, dp_1, dp_2, dp_3, dp_4, dp_5, dp_6, dp_7, dp_8, dp_9, dp_10, dp_11, dp_12, dp_13, dp_14, dp_15, dp_16, dp_17, dp_18, dp_19, dp_20, dp_21, dp_22, dp_23, dp_24, dp_25, dp_26, dp_27, dp_28, dp_29, dp_30, dp_31, dp_32, dp_33, dp_34, dp_35, dp_36, dp_37, dp_38, dp_39, E_isGuest m.mo hg h6, zb_0, q, E_refN mm, q3]
      exact kR m 1 k
    · simp only [q3, if_false] at k
      have ho2 := m.mo.o (R := rwP (sR S) un0)
      simp (disch := first | assumption | omega | decide) only [t166_0, t166_1, t166_2, t166_5, t166_8, t166_9, t166_11, t166_14, t166_15, t166_16, t166_19, t166_20, t166_21, t166_22, t166_23, t166_24, t166_25, t166_26, t166_29, t166_30, t166_32, t166_35, t166_36, t166_37, t166_40, t166_41, t166_44, t166_45, t166_46, t166_47, t166_48, t166_49, t166_50, hm_58, hm_59, hm_up, e1, MO, gF_7_0, gF_7_1, gF_7_2, gF_7_3, gF_7_4, gF_7_5, gF_7_6, gF_7_7, aS_n, aS_l, aL_n, aL_l, ln_add, nl_add, ln_mul, nl_mul, nI_add, nI_1, i32_nl, ite_not, lt_nn, lt_nl, lt_ln, eq_nn, eq_nl, eq_ln, if_true, if_false, kil_i, kil_r, kil_l, kil_u, rl_s, rl_n, Nat.zero_add, Nat.lt_irrefl, not_true_eq_false, not_false_eq_true, true_and, dp_1, dp_2, dp_3, dp_4, dp_5, dp_6, dp_7, dp_8, dp_9, dp_10, dp_11, dp_12, dp_13, dp_14, dp_15, dp_16, dp_17, dp_18, dp_19, dp_20, dp_21, dp_22, dp_23, dp_24, dp_25, dp_26, dp_27, dp_28, dp_29, dp_30, dp_31, dp_32, dp_33, dp_34, dp_35, dp_36, dp_37, dp_38, dp_39, E_isGuest m.mo hg h6, zb_0, q, E_keepPast m.mo hu h8, q3]
      exact kW m k
  · rw [if_neg q] at k
    simp (disch := first | assumption | omega | decide) only [t166_0, t166_1, t166_2, t166_5, t166_8, t166_9, t166_11, t166_14, t166_15, t166_16, t166_19, t166_20, t166_21, t166_22, t166_23, t166_24, t166_25, t166_26, t166_29, t166_30, t166_32, t166_35, t166_36, t166_37, t166_40, t166_41, t166_44, t166_45, t166_46, t166_47, t166_48, t166_49, t166_50, hm_58, hm_59, hm_up, e1, MO, gF_7_0, gF_7_1, gF_7_2, gF_7_3, gF_7_4, gF_7_5, gF_7_6, gF_7_7, aS_n, aS_l, aL_n, aL_l, ln_add, nl_add, ln_mul, nl_mul, nI_add, nI_1, i32_nl, ite_not, lt_nn, lt_nl, lt_ln, eq_nn, eq_nl, eq_ln, if_true, if_false, kil_i, kil_r, kil_l, kil_u, rl_s, rl_n, Nat.zero_add, Nat.lt_irrefl, not_true_eq_false, not_false_eq_true, true_and, dp_1, dp_2, dp_3, dp_4, dp_5, dp_6, dp_7, dp_8, dp_9, dp_10, dp_11, dp_12, dp_13, dp_14, dp_15, dp_16, dp_17, dp_18, dp_19, dp_20, dp_21, dp_22, dp_23, dp_24, dp_25, dp_26, dp_27, dp_28, dp_29, dp_30, dp_31, dp_32, dp_33, dp_34, dp_35, dp_36, dp_37, dp_38, dp_39, E_isGuest m.mo hg h6, zb_0, q, E_refB mm]
    exact kR m 0 k
def sp_wets (un0 : Nat) (S : St) (w : Int32) : Int32 × St :=
  if rg w 0 4 = true then
    if sR S 10 = w then (-3, refu S 1)
    else (sR S 10, stR S (upd (rwP (sR S) un0) 10 w))
  else (-2, refu S 0)
theorem M_wets {w : Int32} (m : ModelAt h S) (hu : sR S 111 = nI un0) (h8 : un0 ≤ 8) (k : ∀ h2, ModelAt h2 (sp_wets un0 S w).2 → frM h h2 → Q (some (.int (sp_wets un0 S w).1)) h2) : T (d + 4) 167 0 [.ref 58, .int w, un] [] h Q := by
  refine T_eq m.self ?_
  have mm := m.again
  have ho := m.mo.o (R := sR S)
  obtain ⟨ab, be, ln, pa, pb, r5, r6, dg, e1⟩ := id m.mo
  unfold sp_wets at k
  by_cases q : rg w 0 4 = true
  · rw [if_pos q] at k
    by_cases q3 : sR S 10 = w
    · rw [if_pos q3] at k
      simp (disch := first | assumption | omega | decide) only [t167_0, t167_1, t167_2, t167_3, t167_6, t167_9, t167_10, t167_12, t167_15, t167_16, t167_17, t167_20, t167_22, t167_23, t167_24, t167_25, t167_26, t167_29, t167_30, t167_32, t167_35, t167_36, t167_37, t167_40, t167_41, t167_44, t167_46, t167_47, t167_48, t167_49, hm_58, hm_59, hm_up, e1, MO, gF_7_0, gF_7_1, gF_7_2, gF_7_3, gF_7_4, gF_7_5, gF_7_6, gF_7_7, aS_n, aS_l, aL_n, aL_l, ln_add, nl_add, ln_mul, nl_mul, nI_add, nI_1, i32_nl, ite_not, lt_nn, lt_nl, lt_ln, eq_nn, eq_nl, eq_ln, if_true, if_false, kil_i, kil_r, kil_l, kil_u, rl_s, rl_n, Nat.zero_add, Nat.lt_irrefl, not_true_eq_false, not_false_eq_true, true_and, dp_1, dp_2, dp_3, dp_4, dp_5, dp_6, dp_7, dp_8, dp_9, dp_10, dp_11, dp_12, dp_13, dp_14, dp_15, dp_16, dp_17, dp_18, dp_19, dp_20, dp_21, dp_22, dp_23, dp_24, dp_25, dp_26, dp_27, dp_28, dp_29, dp_30, dp_31, dp_32, dp_33, dp_34, dp_35, dp_36, dp_37, dp_38, dp_39, E_inL, zb_0, q, E_refN mm, q3]
      exact kR m 1 k
    · rw [if_neg q3] at k
      have ho2 := m.mo.o (R := rwP (sR S) un0)
      simp (disch := first | assumption | omega | decide) only [t167_0, t167_1, t167_2, t167_3, t167_6, t167_9, t167_10, t167_12, t167_15, t167_16, t167_17, t167_20, t167_22, t167_23, t167_24, t167_25, t167_26, t167_29, t167_30, t167_32, t167_35, t167_36, t167_37, t167_40, t167_41, t167_44, t167_46, t167_47, t167_48, t167_49, hm_58, hm_59, hm_up, e1, MO, gF_7_0, gF_7_1, gF_7_2, gF_7_3, gF_7_4, gF_7_5, gF_7_6, gF_7_7, aS_n, aS_l, aL_n, aL_l, ln_add, nl_add, ln_mul, nl_mul, nI_add, nI_1, i32_nl, ite_not, lt_nn, lt_nl, lt_ln, eq_nn, eq_nl, eq_ln, if_true, if_false, kil_i, kil_r, kil_l, kil_u, rl_s, rl_n, Nat.zero_add, Nat.lt_irrefl, not_true_eq_false, not_false_eq_true, true_and, dp_1, dp_2, dp_3, dp_4, dp_5, dp_6, dp_7, dp_8, dp_9, dp_10, dp_11, dp_12, dp_13, dp_14, dp_15, dp_16, dp_17, dp_18, dp_19, dp_20, dp_21, dp_22, dp_23, dp_24, dp_25, dp_26, dp_27, dp_28, dp_29, dp_30, dp_31, dp_32, dp_33, dp_34, dp_35, dp_36, dp_37, dp_38, dp_39, E_inL, zb_0, q, E_keepPast m.mo hu h8, q3]
      exact kW m k
  · rw [if_neg q] at k
    simp (disch := first | assumption | omega | decide) only [t167_0, t167_1, t167_2, t167_3, t167_6, t167_9, t167_10, t167_12, t167_15, t167_16, t167_17, t167_20, t167_22, t167_23, t167_24, t167_25, t167_26, t167_29, t167_30, t167_32, t167_35, t167_36, t167_37, t167_40, t167_41, t167_44, t167_46, t167_47, t167_48, t167_49, hm_58, hm_59, hm_up, e1, MO, gF_7_0, gF_7_1, gF_7_2, gF_7_3, gF_7_4, gF_7_5, gF_7_6, gF_7_7, aS_n, aS_l, aL_n, aL_l, ln_add, nl_add, ln_mul, nl_mul, nI_add, nI_1, i32_nl, ite_not, lt_nn, lt_nl, lt_ln, eq_nn, eq_nl, eq_ln, if_true, if_false, kil_i, kil_r, kil_l, kil_u, rl_s, rl_n, Nat.zero_add, Nat.lt_irrefl, not_true_eq_false, not_false_eq_true, true_and, dp_1, dp_2, dp_3, dp_4, dp_5, dp_6, dp_7, dp_8, dp_9, dp_10, dp_11, dp_12, dp_13, dp_14, dp_15, dp_16, dp_17, dp_18, dp_19, dp_20, dp_21, dp_22, dp_23, dp_24, dp_25, dp_26, dp_27, dp_28, dp_29, dp_30, dp_31, dp_32, dp_33, dp_34, dp_35, dp_36, dp_37, dp_38, dp_39, E_inL, zb_0, q, E_refB mm]
    exact kR m 0 k
end P2
