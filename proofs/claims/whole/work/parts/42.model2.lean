/-! the reference: company -/
/-- who is at a house, with what stays: parts, guests of whom something stays -/
def cmF (R : Nat → Int32) (b j : Nat) (i : Nat) (s : Int32 × Int32) : Int32 × Int32 :=
  let x := if R (b + i) = nI j then bsx (sts R i j (R (b + 10))) else 0
  (s.1 + x, s.2 + if 0 < x then 1 else 0)
def cmp (R : Nat → Int32) (g b j : Nat) : Int32 × Int32 := itr (cmF R b j) g 0 (0, 0)
def cmo (R : Nat → Int32) (g b j : Nat) (w : Int32) : Int32 := if w = 0 then (cmp R g b j).1 else (cmp R g b j).2 * ((cmp R g b j).2 - 1) / 2
theorem E_companyIn {d g b j : Nat} {w : Int32} {R : Nat → Int32} {h : Hp} {Q : Pst} (m : MR h R) (hg : R 12 = nI g) (hg6 : g ≤ 6) (hb : b ≤ 624) (hj : j < 4) : T (d + 4) 158 0 [.ref 58, .int (nI b), .int (nI j), .int w, un, un, un, un] [] h Q ↔ Q (some (.int (cmo R g b j w))) h := by
  have ho := m.o
  obtain ⟨⟨ab, be, ln, pa, pb, rg, rh, dg, e1⟩, e2⟩ := id m
  simp (disch := first | assumption | omega | decide) only [t158_0, t158_1, t158_3, t158_4, t158_6, t158_7, kil_i, kil_u]
  have L := loop_d (P := fun i (s : Int32 × Int32) u => T (d + 4) 158 9 [.ref 58, .int (nI b), .int (nI j), .int w, .int s.1, .int s.2, .int (nI i), u] [] h Q) (F := cmF R b j) (E := fun s => Q (some (.int (if w = 0 then s.1 else s.2 * (s.2 - 1) / 2))) h) (g := g) ?_ ?_
  · exact L (0, 0) un
  · intro i s u hi
    refine ⟨.int (if R (b + i) = nI j then bsx (sts R i j (R (b + 10))) else 0), ?_⟩
    rw [t158_9]
    simp (disch := first | assumption | omega | decide) only [t158_0, t158_1, t158_3, t158_4, t158_6, t158_7, t158_11, t158_12, t158_15, t158_17, t158_18, t158_21, t158_22, t158_25, t158_26, t158_27, t158_28, t158_30, t158_31, t158_32, t158_33, t158_36, t158_37, t158_39, t158_40, t158_41, t158_44, t158_45, t158_47, t158_48, t158_49, t158_52, t158_55, t158_58, t158_59, t158_61, t158_63, t158_65, t158_66, t158_68, t158_70, t158_72, t158_75, t158_76, t158_79, t158_80, t158_81, t158_83, t158_86, t158_89, t158_90, t158_93, t158_95, t158_98, t158_100, t158_102, t158_103, t158_104, t158_105, t158_106, t158_107, e1, e2, MO, gF_7_0, ln_add, nl_add, nI_add, aL_n, aL_l, E_staysOf m (show i < 6 by omega) hj, E_bits, rl_s, hg, i32_nl, ite_not, lt_nn, hi, if_true, kil_i, Nat.add_zero, dp_1, dp_2, dp_3, dp_4, dp_5, dp_6, dp_7, dp_8, dp_9, dp_10, dp_11, dp_12, dp_13, dp_14, dp_15, dp_16, dp_17, dp_18, dp_19, dp_20, dp_21, dp_22, dp_23, dp_24, dp_25, dp_26, dp_27, dp_28, dp_29, dp_30, dp_31, dp_32, dp_33, dp_34, dp_35, dp_36, dp_37, dp_38, dp_39]
    unfold cmF
    by_cases q : R (b + i) = nI j
    · simp only [q, if_true]
      by_cases q2 : 0 < bsx (sts R i j (R (b + 10))) <;> simp only [q2, if_true, if_false, kil_i, nI_1, kil_u]
    · simp only [q, if_false]
      simp only [Int32.lt_irrefl, if_false, nI_1, kil_i, kil_u]
  · intro s u
    rw [t158_9]
    have e0 : ¬ (2 : Int32) = 0 := by decide
    simp (disch := first | assumption | omega | decide) only [t158_11, t158_12, t158_15, t158_17, t158_18, t158_89, t158_90, t158_93, t158_95, t158_98, t158_100, t158_102, t158_103, t158_104, t158_105, t158_106, t158_107, e1, e2, MO, gF_7_0, aL_l, hg, i32_nl, ite_not, lt_nn, Nat.lt_irrefl, if_false, e0, not_false_eq_true, true_and]
    by_cases q : w = 0 <;> simp only [q, if_true, if_false]
