/-! the reference: what it reads of its row -/
theorem E_needOf {d j : Nat} {w : Int32} {R : Nat → Int32} {h : Hp} {Q : Pst} (m : MR h R) (hj : j < 4) : T (d + 2) 156 0 [.ref 58, .int (nI j), .int w] [] h Q ↔ Q (some (.int (nd (R (26 + j)) (R (30 + j)) w))) h := by
  obtain ⟨⟨ab, be, ln, pa, pb, rg, rh, dg, e1⟩, e2⟩ := m
  simp (disch := first | assumption | omega | decide) only [t156_0, t156_1, t156_4, t156_6, t156_7, t156_8, t156_9, t156_10, t156_13, t156_15, t156_16, t156_17, t156_18, t156_19, t156_22, e1, e2, MO, gF_7_0, ln_add, aL_n, E_needBy, rl_s]
/-- the parts of guest i that stay at house j by wet w -/
def sts (R : Nat → Int32) (i j : Nat) (w : Int32) : Int32 := stb (R (13 + i)) (R (19 + i)) (nd (R (26 + j)) (R (30 + j)) w)
theorem E_staysOf {d i j : Nat} {w : Int32} {R : Nat → Int32} {h : Hp} {Q : Pst} (m : MR h R) (hi : i < 6) (hj : j < 4) : T (d + 3) 157 0 [.ref 58, .int (nI i), .int (nI j), .int w] [] h Q ↔ Q (some (.int (sts R i j w))) h := by
  have ho := m.o
  obtain ⟨⟨ab, be, ln, pa, pb, rg, rh, dg, e1⟩, e2⟩ := id m
  simp (disch := first | assumption | omega | decide) only [t157_0, t157_1, t157_4, t157_6, t157_7, t157_8, t157_9, t157_10, t157_13, t157_15, t157_16, t157_17, t157_18, t157_19, t157_20, t157_21, t157_24, t157_27, e1, e2, MO, gF_7_0, ln_add, aL_n, E_needOf m hj, E_staysBy, rl_s, sts]
