/-! the reference's public calls: kinds, and what to ask -/
theorem MO_13 {ab be : Int64} {ln pa pb rg rh dg : Int32} {K : Value → Prop} : gF (MO ab be ln pa pb rg rh dg) 7 13 K ↔ K (.ref 64) := by unfold MO; exact gF_7_13
theorem MO_14 {ab be : Int64} {ln pa pb rg rh dg : Int32} {K : Value → Prop} : gF (MO ab be ln pa pb rg rh dg) 7 14 K ↔ K (.ref 65) := by unfold MO; exact gF_7_14
theorem MO_15 {ab be : Int64} {ln pa pb rg rh dg : Int32} {K : Value → Prop} : gF (MO ab be ln pa pb rg rh dg) 7 15 K ↔ K (.ref 66) := by unfold MO; exact gF_7_15
theorem MO_16 {ab be : Int64} {ln pa pb rg rh dg : Int32} {K : Value → Prop} : gF (MO ab be ln pa pb rg rh dg) 7 16 K ↔ K (.ref 67) := by unfold MO; exact gF_7_16
theorem MO_17 {ab be : Int64} {ln pa pb rg rh dg : Int32} {K : Value → Prop} : gF (MO ab be ln pa pb rg rh dg) 7 17 K ↔ K (.ref 68) := by unfold MO; exact gF_7_17
theorem MO_0 {ab be : Int64} {ln pa pb rg rh dg : Int32} {K : Value → Prop} : gF (MO ab be ln pa pb rg rh dg) 7 0 K ↔ K (.ref 59) := by unfold MO; exact gF_7_0
theorem aN_6 {k : Int32} {S : List Nat} : True := trivial
section P9
variable {d : Nat} {h : Hp} {Q : Pst} {S : St} {g hh nn mn : Nat}
def sp_is (g nn : Nat) (S : St) (i : Int32) : Int32 × St := if rg i 0 (g - 1 : Int) = true then (kdS (sR S) i.toNatClampNeg nn, S) else (-2, refu S 0)
theorem M_is {i : Int32} (m : ModelAt h S) (hg : sR S 12 = nI g) (h6 : g ≤ 6) (hn : sR S 55 = nI nn) (h5 : nn ≤ 6) (k : ∀ h2, ModelAt h2 (sp_is g nn S i).2 → frM h h2 → Q (some (.int (sp_is g nn S i).1)) h2) : T (d + 6) 192 0 [.ref 58, .int i] [] h Q := by
  refine T_eq m.self ?_
  have mm := m.again
  have ho := m.mo.o (R := sR S)
  obtain ⟨ab, be, ln, pa, pb, r5, r6, dg, e1⟩ := id m.mo
  unfold sp_is at k
  by_cases q : rg i 0 (g - 1 : Int) = true
  · obtain ⟨a, ha, rfl⟩ := rg_n q
    rw [if_pos q] at k
    simp (disch := first | assumption | omega | decide) only [nI_clamp] at k
    simp (disch := first | assumption | omega | decide) only [t192_0, t192_1, t192_2, t192_5, t192_8, t192_9, t192_10, t192_13, t192_16, t192_17, t192_19, t192_22, hm_58, hm_59, hm_up, e1, MO, gF_7_0, gF_7_1, gF_7_2, gF_7_3, gF_7_4, gF_7_5, gF_7_6, gF_7_7, aS_n, aS_l, aL_n, aL_l, ln_add, nl_add, ln_mul, nl_mul, nI_add, nI_1, i32_nl, ite_not, lt_nn, lt_nl, lt_ln, eq_nn, eq_nl, eq_ln, if_true, if_false, kil_i, kil_r, kil_l, kil_u, rl_s, rl_n, Nat.zero_add, Nat.lt_irrefl, not_true_eq_false, not_false_eq_true, true_and, dp_1, dp_2, dp_3, dp_4, dp_5, dp_6, dp_7, dp_8, dp_9, dp_10, dp_11, dp_12, dp_13, dp_14, dp_15, dp_16, dp_17, dp_18, dp_19, dp_20, dp_21, dp_22, dp_23, dp_24, dp_25, dp_26, dp_27, dp_28, dp_29, dp_30, dp_31, dp_32, dp_33, dp_34, dp_35, dp_36, dp_37, dp_38, dp_39, E_isGuest m.mo hg h6, zb_0, q, E_kindsOf m.mo (show a < 6 by omega) hn h5]
    exact kN m k
  · rw [if_neg q] at k
    simp (disch := first | assumption | omega | decide) only [t192_0, t192_1, t192_2, t192_5, t192_8, t192_9, t192_10, t192_13, t192_16, t192_17, t192_19, t192_22, hm_58, hm_59, hm_up, e1, MO, gF_7_0, gF_7_1, gF_7_2, gF_7_3, gF_7_4, gF_7_5, gF_7_6, gF_7_7, aS_n, aS_l, aL_n, aL_l, ln_add, nl_add, ln_mul, nl_mul, nI_add, nI_1, i32_nl, ite_not, lt_nn, lt_nl, lt_ln, eq_nn, eq_nl, eq_ln, if_true, if_false, kil_i, kil_r, kil_l, kil_u, rl_s, rl_n, Nat.zero_add, Nat.lt_irrefl, not_true_eq_false, not_false_eq_true, true_and, dp_1, dp_2, dp_3, dp_4, dp_5, dp_6, dp_7, dp_8, dp_9, dp_10, dp_11, dp_12, dp_13, dp_14, dp_15, dp_16, dp_17, dp_18, dp_19, dp_20, dp_21, dp_22, dp_23, dp_24, dp_25, dp_26, dp_27, dp_28, dp_29, dp_30, dp_31, dp_32, dp_33, dp_34, dp_35, dp_36, dp_37, dp_38, dp_39, E_isGuest m.mo hg h6, zb_0, q, E_refB mm]
    exact kR m 0 k
/-- sieves that keep what was marked -/
def svC (R : Nat → Int32) (j r kd : Nat) : Bool := decide (R (81 + 5 * r) ≠ nI j) || (decide (nd (nI kd) (R (82 + 5 * r)) (R (83 + 5 * r)) ≤ R (84 + 5 * r)) == decide (R (85 + 5 * r) = 1))
def svF (R : Nat → Int32) (j r kd : Nat) (set : Int32) : Int32 := set &&& (if svC R j r kd = true then (63 : Int32) else ((1 : Int32) <<< (nI kd &&& 31)) ^^^ (-1))
def svS (R : Nat → Int32) (j mn : Nat) : Int32 := itr (fun r set => itr (svF R j r) 6 0 set) mn 0 63
theorem E_sievesOf {j : Nat} {R : Nat → Int32} (mo : isMO h) (hj : j < 4) (hn : R 80 = nI mn) (h5 : mn ≤ 6) : T (d + 3) 195 0 [.ref 58, .int (nI j), un, un, un, un] [] (hm h R) Q ↔ Q (some (.int (svS R j mn))) (hm h R) := by
  have ho := mo.o (R := R)
  obtain ⟨ab, be, ln, pa, pb, r5, r6, dg, e1⟩ := id mo
  have L := loop_d (P := fun r (s : Int32) (u : Value × Value) => T (d + 3) 195 6 [.ref 58, .int (nI j), .int s, .int (nI (81 + 5 * r)), u.1, u.2] [] (hm h R) Q) (F := fun r set => itr (svF R j r) 6 0 set) (E := fun s => Q (some (.int s)) (hm h R)) (g := mn) ?_ ?_
  · simp (disch := first | assumption | omega | decide) only [t195_0, t195_2, t195_3, t195_5, hm_58, hm_59, hm_up, e1, MO, gF_7_0, gF_7_1, gF_7_2, gF_7_3, gF_7_4, gF_7_5, gF_7_6, gF_7_7, aS_n, aS_l, aL_n, aL_l, ln_add, nl_add, ln_mul, nl_mul, nI_add, nI_1, i32_nl, ite_not, lt_nn, lt_nl, lt_ln, eq_nn, eq_nl, eq_ln, if_true, if_false, kil_i, kil_r, kil_l, kil_u, rl_s, rl_n, Nat.zero_add, Nat.lt_irrefl, not_true_eq_false, not_false_eq_true, true_and, dp_1, dp_2, dp_3, dp_4, dp_5, dp_6, dp_7, dp_8, dp_9, dp_10, dp_11, dp_12, dp_13, dp_14, dp_15, dp_16, dp_17, dp_18, dp_19, dp_20, dp_21, dp_22, dp_23, dp_24, dp_25, dp_26, dp_27, dp_28, dp_29, dp_30, dp_31, dp_32, dp_33, dp_34, dp_35, dp_36, dp_37, dp_38, dp_39]
    exact L 63 (un, un)
  · intro r s u hr
    have e57 : 81 + 5 * r + 1 = 82 + 5 * r := by omega
    have e58 : 81 + 5 * r + 2 = 83 + 5 * r := by omega
    have e59 : 81 + 5 * r + 3 = 84 + 5 * r := by omega
    have e60 : 81 + 5 * r + 4 = 85 + 5 * r := by omega
    have e61 : 81 + 5 * r + 5 = 81 + 5 * (r + 1) := by omega
    have L2 := loop_u (P := fun kd (s : Int32) (u : Value) => T (d + 3) 195 25 [.ref 58, .int (nI j), .int s, .int (nI (81 + 5 * r)), .int (nI kd), u] [] (hm h R) Q) (F := svF R j r) (g := 6) ?_
    · obtain ⟨u', e⟩ := L2 s u.2
      refine ⟨(.int (nI 6), u'), ?_⟩
      rw [t195_6]
      simp (disch := first | assumption | omega | decide) only [t195_7, t195_9, t195_10, t195_11, t195_14, t195_16, t195_17, t195_18, t195_19, t195_22, t195_23, hm_58, hm_59, hm_up, e1, MO, gF_7_0, gF_7_1, gF_7_2, gF_7_3, gF_7_4, gF_7_5, gF_7_6, gF_7_7, aS_n, aS_l, aL_n, aL_l, ln_add, nl_add, ln_mul, nl_mul, nI_add, nI_1, i32_nl, ite_not, lt_nn, lt_nl, lt_ln, eq_nn, eq_nl, eq_ln, if_true, if_false, kil_i, kil_r, kil_l, kil_u, rl_s, rl_n, Nat.zero_add, Nat.lt_irrefl, not_true_eq_false, not_false_eq_true, true_and, dp_1, dp_2, dp_3, dp_4, dp_5, dp_6, dp_7, dp_8, dp_9, dp_10, dp_11, dp_12, dp_13, dp_14, dp_15, dp_16, dp_17, dp_18, dp_19, dp_20, dp_21, dp_22, dp_23, dp_24, dp_25, dp_26, dp_27, dp_28, dp_29, dp_30, dp_31, dp_32, dp_33, dp_34, dp_35, dp_36, dp_37, dp_38, dp_39, hn, show 81 + 5 * r < 81 + 5 * mn by omega]
      refine e.trans ?_
      rw [t195_25]
      simp (disch := first | assumption | omega | decide) only [t195_27, t195_29, t195_131, t195_134, hm_58, hm_59, hm_up, e1, MO, gF_7_0, gF_7_1, gF_7_2, gF_7_3, gF_7_4, gF_7_5, gF_7_6, gF_7_7, aS_n, aS_l, aL_n, aL_l, ln_add, nl_add, ln_mul, nl_mul, nI_add, nI_1, i32_nl, ite_not, lt_nn, lt_nl, lt_ln, eq_nn, eq_nl, eq_ln, if_true, if_false, kil_i, kil_r, kil_l, kil_u, rl_s, rl_n, Nat.zero_add, Nat.lt_irrefl, not_true_eq_false, not_false_eq_true, true_and, dp_1, dp_2, dp_3, dp_4, dp_5, dp_6, dp_7, dp_8, dp_9, dp_10, dp_11, dp_12, dp_13, dp_14, dp_15, dp_16, dp_17, dp_18, dp_19, dp_20, dp_21, dp_22, dp_23, dp_24, dp_25, dp_26, dp_27, dp_28, dp_29, dp_30, dp_31, dp_32, dp_33, dp_34, dp_35, dp_36, dp_37, dp_38, dp_39, e61]
    · intro kd s u hk
      refine ⟨.int (zI (svC R j r kd)), ?_⟩
      rw [t195_25]
      unfold svF
      by_cases r1 : R (81 + 5 * r) = nI j
      · by_cases r2 : R (84 + 5 * r) < nd (nI kd) (R (82 + 5 * r)) (R (83 + 5 * r))
        · by_cases r4 : R (85 + 5 * r) = 1
          · have r3 : svC R j r kd = false := by simp [svC, r1, i32_nl, r2, r4]
            simp (disch := first | assumption | omega | decide) only [t195_27, t195_29, t195_32, t195_33, t195_36, t195_37, t195_38, t195_39, t195_42, t195_43, t195_46, t195_47, t195_48, t195_49, t195_50, t195_52, t195_53, t195_56, t195_57, t195_58, t195_59, t195_60, t195_61, t195_64, t195_65, t195_66, t195_67, t195_68, t195_71, t195_74, t195_75, t195_78, t195_79, t195_80, t195_83, t195_84, t195_85, t195_86, t195_87, t195_88, t195_91, t195_92, t195_95, t195_96, t195_99, t195_100, t195_103, t195_104, t195_106, t195_107, t195_109, t195_112, t195_114, t195_117, t195_118, t195_120, t195_121, t195_122, t195_123, t195_124, t195_125, t195_128, hm_58, hm_59, hm_up, e1, MO, gF_7_0, gF_7_1, gF_7_2, gF_7_3, gF_7_4, gF_7_5, gF_7_6, gF_7_7, aS_n, aS_l, aL_n, aL_l, ln_add, nl_add, ln_mul, nl_mul, nI_add, nI_1, i32_nl, ite_not, lt_nn, lt_nl, lt_ln, eq_nn, eq_nl, eq_ln, if_true, if_false, kil_i, kil_r, kil_l, kil_u, rl_s, rl_n, Nat.zero_add, Nat.lt_irrefl, not_true_eq_false, not_false_eq_true, true_and, dp_1, dp_2, dp_3, dp_4, dp_5, dp_6, dp_7, dp_8, dp_9, dp_10, dp_11, dp_12, dp_13, dp_14, dp_15, dp_16, dp_17, dp_18, dp_19, dp_20, dp_21, dp_22, dp_23, dp_24, dp_25, dp_26, dp_27, dp_28, dp_29, dp_30, dp_31, dp_32, dp_33, dp_34, dp_35, dp_36, dp_37, dp_38, dp_39, hk, r1, r2, r3, r4, e57, e58, e59, e60, E_needBy, zI, z10, show ¬ (0 : Int32) = 1 from by decide, Bool.false_eq_true]
          · have r3 : svC R j r kd = true := by simp [svC, r1, i32_nl, r2, r4]
            simp (disch := first | assumption | omega | decide) only [t195_27, t195_29, t195_32, t195_33, t195_36, t195_37, t195_38, t195_39, t195_42, t195_43, t195_46, t195_47, t195_48, t195_49, t195_50, t195_52, t195_53, t195_56, t195_57, t195_58, t195_59, t195_60, t195_61, t195_64, t195_65, t195_66, t195_67, t195_68, t195_71, t195_74, t195_75, t195_78, t195_79, t195_80, t195_83, t195_84, t195_85, t195_86, t195_87, t195_88, t195_91, t195_92, t195_95, t195_96, t195_99, t195_100, t195_103, t195_104, t195_106, t195_107, t195_109, t195_112, t195_114, t195_117, t195_118, t195_120, t195_121, t195_122, t195_123, t195_124, t195_125, t195_128, hm_58, hm_59, hm_up, e1, MO, gF_7_0, gF_7_1, gF_7_2, gF_7_3, gF_7_4, gF_7_5, gF_7_6, gF_7_7, aS_n, aS_l, aL_n, aL_l, ln_add, nl_add, ln_mul, nl_mul, nI_add, nI_1, i32_nl, ite_not, lt_nn, lt_nl, lt_ln, eq_nn, eq_nl, eq_ln, if_true, if_false, kil_i, kil_r, kil_l, kil_u, rl_s, rl_n, Nat.zero_add, Nat.lt_irrefl, not_true_eq_false, not_false_eq_true, true_and, dp_1, dp_2, dp_3, dp_4, dp_5, dp_6, dp_7, dp_8, dp_9, dp_10, dp_11, dp_12, dp_13, dp_14, dp_15, dp_16, dp_17, dp_18, dp_19, dp_20, dp_21, dp_22, dp_23, dp_24, dp_25, dp_26, dp_27, dp_28, dp_29, dp_30, dp_31, dp_32, dp_33, dp_34, dp_35, dp_36, dp_37, dp_38, dp_39, hk, r1, r2, r3, r4, e57, e58, e59, e60, E_needBy, zI, z10, Bool.false_eq_true]
        · by_cases r4 : R (85 + 5 * r) = 1
          · have r3 : svC R j r kd = true := by simp [svC, r1, i32_nl, r2, r4]
            simp (disch := first | assumption | omega | decide) only [t195_27, t195_29, t195_32, t195_33, t195_36, t195_37, t195_38, t195_39, t195_42, t195_43, t195_46, t195_47, t195_48, t195_49, t195_50, t195_52, t195_53, t195_56, t195_57, t195_58, t195_59, t195_60, t195_61, t195_64, t195_65, t195_66, t195_67, t195_68, t195_71, t195_74, t195_75, t195_78, t195_79, t195_80, t195_83, t195_84, t195_85, t195_86, t195_87, t195_88, t195_91, t195_92, t195_95, t195_96, t195_99, t195_100, t195_103, t195_104, t195_106, t195_107, t195_109, t195_112, t195_114, t195_117, t195_118, t195_120, t195_121, t195_122, t195_123, t195_124, t195_125, t195_128, hm_58, hm_59, hm_up, e1, MO, gF_7_0, gF_7_1, gF_7_2, gF_7_3, gF_7_4, gF_7_5, gF_7_6, gF_7_7, aS_n, aS_l, aL_n, aL_l, ln_add, nl_add, ln_mul, nl_mul, nI_add, nI_1, i32_nl, ite_not, lt_nn, lt_nl, lt_ln, eq_nn, eq_nl, eq_ln, if_true, if_false, kil_i, kil_r, kil_l, kil_u, rl_s, rl_n, Nat.zero_add, Nat.lt_irrefl, not_true_eq_false, not_false_eq_true, true_and, dp_1, dp_2, dp_3, dp_4, dp_5, dp_6, dp_7, dp_8, dp_9, dp_10, dp_11, dp_12, dp_13, dp_14, dp_15, dp_16, dp_17, dp_18, dp_19, dp_20, dp_21, dp_22, dp_23, dp_24, dp_25, dp_26, dp_27, dp_28, dp_29, dp_30, dp_31, dp_32, dp_33, dp_34, dp_35, dp_36, dp_37, dp_38, dp_39, hk, r1, r2, r3, r4, e57, e58, e59, e60, E_needBy, zI, z10, Bool.false_eq_true]
          · have r3 : svC R j r kd = false := by simp [svC, r1, i32_nl, r2, r4]
            simp (disch := first | assumption | omega | decide) only [t195_27, t195_29, t195_32, t195_33, t195_36, t195_37, t195_38, t195_39, t195_42, t195_43, t195_46, t195_47, t195_48, t195_49, t195_50, t195_52, t195_53, t195_56, t195_57, t195_58, t195_59, t195_60, t195_61, t195_64, t195_65, t195_66, t195_67, t195_68, t195_71, t195_74, t195_75, t195_78, t195_79, t195_80, t195_83, t195_84, t195_85, t195_86, t195_87, t195_88, t195_91, t195_92, t195_95, t195_96, t195_99, t195_100, t195_103, t195_104, t195_106, t195_107, t195_109, t195_112, t195_114, t195_117, t195_118, t195_120, t195_121, t195_122, t195_123, t195_124, t195_125, t195_128, hm_58, hm_59, hm_up, e1, MO, gF_7_0, gF_7_1, gF_7_2, gF_7_3, gF_7_4, gF_7_5, gF_7_6, gF_7_7, aS_n, aS_l, aL_n, aL_l, ln_add, nl_add, ln_mul, nl_mul, nI_add, nI_1, i32_nl, ite_not, lt_nn, lt_nl, lt_ln, eq_nn, eq_nl, eq_ln, if_true, if_false, kil_i, kil_r, kil_l, kil_u, rl_s, rl_n, Nat.zero_add, Nat.lt_irrefl, not_true_eq_false, not_false_eq_true, true_and, dp_1, dp_2, dp_3, dp_4, dp_5, dp_6, dp_7, dp_8, dp_9, dp_10, dp_11, dp_12, dp_13, dp_14, dp_15, dp_16, dp_17, dp_18, dp_19, dp_20, dp_21, dp_22, dp_23, dp_24, dp_25, dp_26, dp_27, dp_28, dp_29, dp_30, dp_31, dp_32, dp_33, dp_34, dp_35, dp_36, dp_37, dp_38, dp_39, hk, r1, r2, r3, r4, e57, e58, e59, e60, E_needBy, zI, z10, Bool.false_eq_true]
      · have r3 : svC R j r kd = true := by simp [svC, r1]
        simp (disch := first | assumption | omega | decide) only [t195_27, t195_29, t195_32, t195_33, t195_36, t195_37, t195_38, t195_39, t195_42, t195_43, t195_46, t195_47, t195_48, t195_49, t195_50, t195_52, t195_53, t195_56, t195_57, t195_58, t195_59, t195_60, t195_61, t195_64, t195_65, t195_66, t195_67, t195_68, t195_71, t195_74, t195_75, t195_78, t195_79, t195_80, t195_83, t195_84, t195_85, t195_86, t195_87, t195_88, t195_91, t195_92, t195_95, t195_96, t195_99, t195_100, t195_103, t195_104, t195_106, t195_107, t195_109, t195_112, t195_114, t195_117, t195_118, t195_120, t195_121, t195_122, t195_123, t195_124, t195_125, t195_128, hm_58, hm_59, hm_up, e1, MO, gF_7_0, gF_7_1, gF_7_2, gF_7_3, gF_7_4, gF_7_5, gF_7_6, gF_7_7, aS_n, aS_l, aL_n, aL_l, ln_add, nl_add, ln_mul, nl_mul, nI_add, nI_1, i32_nl, ite_not, lt_nn, lt_nl, lt_ln, eq_nn, eq_nl, eq_ln, if_true, if_false, kil_i, kil_r, kil_l, kil_u, rl_s, rl_n, Nat.zero_add, Nat.lt_irrefl, not_true_eq_false, not_false_eq_true, true_and, dp_1, dp_2, dp_3, dp_4, dp_5, dp_6, dp_7, dp_8, dp_9, dp_10, dp_11, dp_12, dp_13, dp_14, dp_15, dp_16, dp_17, dp_18, dp_19, dp_20, dp_21, dp_22, dp_23, dp_24, dp_25, dp_26, dp_27, dp_28, dp_29, dp_30, dp_31, dp_32, dp_33, dp_34, dp_35, dp_36, dp_37, dp_38, dp_39, hk, r1, r3, e57, e58, e59, e60, zI, z10]
  · intro s u
    rw [t195_6]
    simp (disch := first | assumption | omega | decide) only [t195_7, t195_9, t195_10, t195_11, t195_14, t195_16, t195_17, t195_18, t195_19, t195_137, t195_138, hm_58, hm_59, hm_up, e1, MO, gF_7_0, gF_7_1, gF_7_2, gF_7_3, gF_7_4, gF_7_5, gF_7_6, gF_7_7, aS_n, aS_l, aL_n, aL_l, ln_add, nl_add, ln_mul, nl_mul, nI_add, nI_1, i32_nl, ite_not, lt_nn, lt_nl, lt_ln, eq_nn, eq_nl, eq_ln, if_true, if_false, kil_i, kil_r, kil_l, kil_u, rl_s, rl_n, Nat.zero_add, Nat.lt_irrefl, not_true_eq_false, not_false_eq_true, true_and, dp_1, dp_2, dp_3, dp_4, dp_5, dp_6, dp_7, dp_8, dp_9, dp_10, dp_11, dp_12, dp_13, dp_14, dp_15, dp_16, dp_17, dp_18, dp_19, dp_20, dp_21, dp_22, dp_23, dp_24, dp_25, dp_26, dp_27, dp_28, dp_29, dp_30, dp_31, dp_32, dp_33, dp_34, dp_35, dp_36, dp_37, dp_38, dp_39, hn]
def sp_kinds (hh mn : Nat) (S : St) (j : Int32) : Int32 × St := if rg j 0 (hh - 1 : Int) = true then (svS (sR S) j.toNatClampNeg mn, S) else (-2, refu S 0)
theorem M_kinds {j : Int32} (m : ModelAt h S) (hh0 : sR S 25 = nI hh) (h4 : hh ≤ 4) (hn : sR S 80 = nI mn) (h5 : mn ≤ 6) (k : ∀ h2, ModelAt h2 (sp_kinds hh mn S j).2 → frM h h2 → Q (some (.int (sp_kinds hh mn S j).1)) h2) : T (d + 6) 196 0 [.ref 58, .int j] [] h Q := by
  refine T_eq m.self ?_
  have mm := m.again
  have ho := m.mo.o (R := sR S)
  obtain ⟨ab, be, ln, pa, pb, r5, r6, dg, e1⟩ := id m.mo
  unfold sp_kinds at k
  by_cases q : rg j 0 (hh - 1 : Int) = true
  · obtain ⟨a, ha, rfl⟩ := rg_n q
    rw [if_pos q] at k
    simp (disch := first | assumption | omega | decide) only [nI_clamp] at k
    simp (disch := first | assumption | omega | decide) only [t196_0, t196_1, t196_2, t196_5, t196_8, t196_9, t196_10, t196_13, t196_16, t196_17, t196_19, t196_22, hm_58, hm_59, hm_up, e1, MO, gF_7_0, gF_7_1, gF_7_2, gF_7_3, gF_7_4, gF_7_5, gF_7_6, gF_7_7, aS_n, aS_l, aL_n, aL_l, ln_add, nl_add, ln_mul, nl_mul, nI_add, nI_1, i32_nl, ite_not, lt_nn, lt_nl, lt_ln, eq_nn, eq_nl, eq_ln, if_true, if_false, kil_i, kil_r, kil_l, kil_u, rl_s, rl_n, Nat.zero_add, Nat.lt_irrefl, not_true_eq_false, not_false_eq_true, true_and, dp_1, dp_2, dp_3, dp_4, dp_5, dp_6, dp_7, dp_8, dp_9, dp_10, dp_11, dp_12, dp_13, dp_14, dp_15, dp_16, dp_17, dp_18, dp_19, dp_20, dp_21, dp_22, dp_23, dp_24, dp_25, dp_26, dp_27, dp_28, dp_29, dp_30, dp_31, dp_32, dp_33, dp_34, dp_35, dp_36, dp_37, dp_38, dp_39, E_isHouse m.mo hh0 h4, zb_0, q, E_sievesOf m.mo (show a < 4 by omega) hn h5]
    exact kN m k
  · rw [if_neg q] at k
    simp (disch := first | assumption | omega | decide) only [t196_0, t196_1, t196_2, t196_5, t196_8, t196_9, t196_10, t196_13, t196_16, t196_17, t196_19, t196_22, hm_58, hm_59, hm_up, e1, MO, gF_7_0, gF_7_1, gF_7_2, gF_7_3, gF_7_4, gF_7_5, gF_7_6, gF_7_7, aS_n, aS_l, aL_n, aL_l, ln_add, nl_add, ln_mul, nl_mul, nI_add, nI_1, i32_nl, ite_not, lt_nn, lt_nl, lt_ln, eq_nn, eq_nl, eq_ln, if_true, if_false, kil_i, kil_r, kil_l, kil_u, rl_s, rl_n, Nat.zero_add, Nat.lt_irrefl, not_true_eq_false, not_false_eq_true, true_and, dp_1, dp_2, dp_3, dp_4, dp_5, dp_6, dp_7, dp_8, dp_9, dp_10, dp_11, dp_12, dp_13, dp_14, dp_15, dp_16, dp_17, dp_18, dp_19, dp_20, dp_21, dp_22, dp_23, dp_24, dp_25, dp_26, dp_27, dp_28, dp_29, dp_30, dp_31, dp_32, dp_33, dp_34, dp_35, dp_36, dp_37, dp_38, dp_39, E_isHouse m.mo hh0 h4, zb_0, q, E_refB mm]
    exact kR m 0 k
-- what comes to the same
def alkF (C : Nat → Int32) (set : Int32) (k q : Nat) (s : Int32) : Int32 := s + if ¬ hb set (nI k) = 0 ∧ ¬ hb set (nI q) = 0 ∧ C k = C q then 1 else 0
def alkS (C : Nat → Int32) (set : Int32) (k : Nat) : Int32 := itr (alkF C set k) 6 0 0
def malkF (C : Nat → Int32) (set : Int32) (k : Nat) (most : Int32) : Int32 := if most < alkS C set k then alkS C set k else most
def malk (C : Nat → Int32) (set : Int32) : Int32 := itr (malkF C set) 6 0 0
theorem malk_congr {C C2 : Nat → Int32} {set : Int32} (e : ∀ k, k < 6 → C k = C2 k) : malk C set = malk C2 set := by
  have e2 : ∀ k, k < 6 → alkS C set k = alkS C2 set k := fun k hk => itr_congr 6 0 0 (fun j s _ hj => by unfold alkF; rw [e k hk, e j (by omega)])
  exact itr_congr 6 0 0 (fun k s _ hk => by unfold malkF; rw [e2 k (by omega)])
theorem E_mostAlike {ab be : Int64} {ln pa pb r5 r6 dg set : Int32} {C : Nat → Int32} (e1 : h.2.2 58 = MO ab be ln pa pb r5 r6 dg) (e2 : h.2.2 66 = oI 6 C) : T (d + 3) 193 0 [.ref 58, .int set, un, un, un, un] [] h Q ↔ Q (some (.int (malk C set))) h := by
  have L := loop_d (P := fun k (s : Int32) (u : Value × Value) => T (d + 3) 193 4 [.ref 58, .int set, .int s, .int (nI k), u.1, u.2] [] h Q) (F := malkF C set) (E := fun s => Q (some (.int s)) h) (g := 6) ?_ ?_
  · simp (disch := first | assumption | omega | decide) only [t193_0, t193_1, t193_2, t193_3, hm_58, hm_59, hm_up, e1, MO, gF_7_0, gF_7_1, gF_7_2, gF_7_3, gF_7_4, gF_7_5, gF_7_6, gF_7_7, aS_n, aS_l, aL_n, aL_l, ln_add, nl_add, ln_mul, nl_mul, nI_add, nI_1, i32_nl, ite_not, lt_nn, lt_nl, lt_ln, eq_nn, eq_nl, eq_ln, if_true, if_false, kil_i, kil_r, kil_l, kil_u, rl_s, rl_n, Nat.zero_add, Nat.lt_irrefl, not_true_eq_false, not_false_eq_true, true_and, dp_1, dp_2, dp_3, dp_4, dp_5, dp_6, dp_7, dp_8, dp_9, dp_10, dp_11, dp_12, dp_13, dp_14, dp_15, dp_16, dp_17, dp_18, dp_19, dp_20, dp_21, dp_22, dp_23, dp_24, dp_25, dp_26, dp_27, dp_28, dp_29, dp_30, dp_31, dp_32, dp_33, dp_34, dp_35, dp_36, dp_37, dp_38, dp_39]
    exact L 0 (un, un)
  · intro k s u hk
    refine ⟨(.int (alkS C set k), .int (nI 6)), ?_⟩
    have L2 := loop_d (P := fun q (n : Int32) (_ : Unit) => T (d + 3) 193 16 [.ref 58, .int set, .int s, .int (nI k), .int n, .int (nI q)] [] h Q) (F := alkF C set k) (E := fun n => T (d + 3) 193 72 [.ref 58, .int set, .int s, .int (nI k), .int n, .int (nI 6)] [] h Q) (g := 6) ?_ ?_
    · rw [t193_4]
      simp (disch := first | assumption | omega | decide) only [t193_5, t193_7, t193_10, t193_11, t193_13, t193_14, hm_58, hm_59, hm_up, e1, MO, gF_7_0, gF_7_1, gF_7_2, gF_7_3, gF_7_4, gF_7_5, gF_7_6, gF_7_7, aS_n, aS_l, aL_n, aL_l, ln_add, nl_add, ln_mul, nl_mul, nI_add, nI_1, i32_nl, ite_not, lt_nn, lt_nl, lt_ln, eq_nn, eq_nl, eq_ln, if_true, if_false, kil_i, kil_r, kil_l, kil_u, rl_s, rl_n, Nat.zero_add, Nat.lt_irrefl, not_true_eq_false, not_false_eq_true, true_and, dp_1, dp_2, dp_3, dp_4, dp_5, dp_6, dp_7, dp_8, dp_9, dp_10, dp_11, dp_12, dp_13, dp_14, dp_15, dp_16, dp_17, dp_18, dp_19, dp_20, dp_21, dp_22, dp_23, dp_24, dp_25, dp_26, dp_27, dp_28, dp_29, dp_30, dp_31, dp_32, dp_33, dp_34, dp_35, dp_36, dp_37, dp_38, dp_39, hk]
      refine (L2 0 ()).trans ?_
      rw [show itr (alkF C set k) 6 0 0 = alkS C set k from rfl]
      unfold malkF
      by_cases r1 : s < alkS C set k <;> simp (disch := first | assumption | omega | decide) only [r1, t193_72, t193_74, t193_75, t193_78, t193_80, t193_83, t193_84, t193_85, t193_88, hm_58, hm_59, hm_up, e1, MO, gF_7_0, gF_7_1, gF_7_2, gF_7_3, gF_7_4, gF_7_5, gF_7_6, gF_7_7, aS_n, aS_l, aL_n, aL_l, ln_add, nl_add, ln_mul, nl_mul, nI_add, nI_1, i32_nl, ite_not, lt_nn, lt_nl, lt_ln, eq_nn, eq_nl, eq_ln, if_true, if_false, kil_i, kil_r, kil_l, kil_u, rl_s, rl_n, Nat.zero_add, Nat.lt_irrefl, not_true_eq_false, not_false_eq_true, true_and, dp_1, dp_2, dp_3, dp_4, dp_5, dp_6, dp_7, dp_8, dp_9, dp_10, dp_11, dp_12, dp_13, dp_14, dp_15, dp_16, dp_17, dp_18, dp_19, dp_20, dp_21, dp_22, dp_23, dp_24, dp_25, dp_26, dp_27, dp_28, dp_29, dp_30, dp_31, dp_32, dp_33, dp_34, dp_35, dp_36, dp_37, dp_38, dp_39]
    · intro q n _ hq
      refine ⟨(), ?_⟩
      rw [t193_16]
      unfold alkF
      simp (disch := first | assumption | omega | decide) only [t193_18, t193_20, t193_23, t193_25, t193_26, t193_27, t193_30, t193_33, t193_34, t193_36, t193_39, t193_42, t193_43, t193_46, t193_47, t193_48, t193_49, t193_52, t193_54, t193_55, t193_58, t193_59, t193_62, t193_63, t193_64, t193_66, t193_69, kil_i, kil_r, rl_s, i32_nl, ite_not, lt_nl, hq, if_true, E_has, e1, e2, MO_15, aL_n, nI_1]
      by_cases r1 : hb set (nI k) = 0
      · simp only [r1, if_true, not_true_eq_false, false_and, if_false, t193_62, t193_63, t193_64, t193_66, t193_69, kil_i, nI_1]
      · by_cases r2 : hb set (nI q) = 0
        · simp only [r1, r2, if_true, not_true_eq_false, false_and, and_false, if_false, t193_62, t193_63, t193_64, t193_66, t193_69, kil_i, nI_1]
        · by_cases r3 : C k = C q <;> simp only [r1, r2, r3, if_true, not_true_eq_false, not_false_eq_true, and_self, and_false, if_false, t193_58, t193_59, t193_62, t193_63, t193_64, t193_66, t193_69, kil_i, nI_1]
    · intro n _
      rw [t193_16]
      simp (disch := first | assumption | omega | decide) only [t193_18, t193_20, hm_58, hm_59, hm_up, e1, MO, gF_7_0, gF_7_1, gF_7_2, gF_7_3, gF_7_4, gF_7_5, gF_7_6, gF_7_7, aS_n, aS_l, aL_n, aL_l, ln_add, nl_add, ln_mul, nl_mul, nI_add, nI_1, i32_nl, ite_not, lt_nn, lt_nl, lt_ln, eq_nn, eq_nl, eq_ln, if_true, if_false, kil_i, kil_r, kil_l, kil_u, rl_s, rl_n, Nat.zero_add, Nat.lt_irrefl, not_true_eq_false, not_false_eq_true, true_and, dp_1, dp_2, dp_3, dp_4, dp_5, dp_6, dp_7, dp_8, dp_9, dp_10, dp_11, dp_12, dp_13, dp_14, dp_15, dp_16, dp_17, dp_18, dp_19, dp_20, dp_21, dp_22, dp_23, dp_24, dp_25, dp_26, dp_27, dp_28, dp_29, dp_30, dp_31, dp_32, dp_33, dp_34, dp_35, dp_36, dp_37, dp_38, dp_39]
  · intro s u
    rw [t193_4]
    simp (disch := first | assumption | omega | decide) only [t193_5, t193_7, t193_91, t193_92, hm_58, hm_59, hm_up, e1, MO, gF_7_0, gF_7_1, gF_7_2, gF_7_3, gF_7_4, gF_7_5, gF_7_6, gF_7_7, aS_n, aS_l, aL_n, aL_l, ln_add, nl_add, ln_mul, nl_mul, nI_add, nI_1, i32_nl, ite_not, lt_nn, lt_nl, lt_ln, eq_nn, eq_nl, eq_ln, if_true, if_false, kil_i, kil_r, kil_l, kil_u, rl_s, rl_n, Nat.zero_add, Nat.lt_irrefl, not_true_eq_false, not_false_eq_true, true_and, dp_1, dp_2, dp_3, dp_4, dp_5, dp_6, dp_7, dp_8, dp_9, dp_10, dp_11, dp_12, dp_13, dp_14, dp_15, dp_16, dp_17, dp_18, dp_19, dp_20, dp_21, dp_22, dp_23, dp_24, dp_25, dp_26, dp_27, dp_28, dp_29, dp_30, dp_31, dp_32, dp_33, dp_34, dp_35, dp_36, dp_37, dp_38, dp_39]
end P9
