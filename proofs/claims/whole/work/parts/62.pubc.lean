/-! the reference's public calls: rain, years, part -/
def cnt5 (u : Nat) : Nat := u % 2 + u / 2 % 2 + u / 4 % 2 + u / 8 % 2 + u / 16 % 2
theorem bsx_cnt : ∀ u, u < 32 → bsx (nI u) = nI (cnt5 u) ∧ cnt5 u ≤ 5 := by decide +kernel
/-- how many parts stay -/
def nb (x : Int32) : Nat := (bsx x).toNatClampNeg
theorem nb_stb (k s n : Int32) : bsx (stb k s n) = nI (nb (stb k s n)) ∧ nb (stb k s n) ≤ 5 := by
  obtain ⟨u, hu, e⟩ := stb_lt k s n
  obtain ⟨e2, e3⟩ := bsx_cnt u hu
  unfold nb
  rw [e, e2, nI_clamp (by omega)]
  exact ⟨rfl, e3⟩
def lI (n : Nat) : Int64 := Int64.ofNat n
theorem lI_add (a b : Nat) : lI a + lI b = lI (a + b) := (Int64.ofNat_add a b).symm
theorem nI_long {n : Nat} (hn : n < 2 ^ 31) : (nI n).toInt64 = lI n := by
  apply Int64.toInt_inj.mp
  rw [Int32.toInt_toInt64, nI_toInt hn]
  unfold lI
  rw [Int64.toInt_ofNat_of_lt (by omega)]
/-- the greatest that both hold, by steps -/
def tpl : Nat → Int64 → Int64 → Option Int64
  | 0, _, _ => none
  | f + 1, x, y => if y = 0 then some x else tpl f y (x - x / y * y)
def gz (n : Nat) : Int64 := (tpl 9 (lI n) 10).getD 1
theorem tpl_ok : ∀ n, n ≤ 200 → tpl 9 (lI n) 10 = some (gz n) ∧ ¬ gz n = 0 := by decide +kernel
theorem lg_0 {x : Int64} : lg_cmp x 0 = 0 ↔ x = 0 := by
  unfold lg_cmp
  by_cases q : x = 0
  · subst q; simp
  · by_cases r : x < 0 <;> by_cases r2 : 0 < x <;> simp [q, r, r2]
/-- what rain tells: so many tenths -/
def rnF (R : Nat → Int32) (i c j : Nat) (s : Nat) : Nat := s + (c * nb (sts R i j 4) + (10 - c) * nb (sts R i j 0))
def rnN (R : Nat → Int32) (i c hh : Nat) : Nat := itr (rnF R i c) hh 0 0
def stFr (S : St) (a b : Int64) : St := (S.1, S.2.1, S.2.2.1, a, b, S.2.2.2.2.2)
def sp_rain (g hh : Nat) (S : St) (i c : Int32) : Int32 × St :=
  if rg i 0 (g - 1 : Int) = true ∧ rg c 0 10 = true then
    (1, stFr S (lI (rnN (sR S) i.toNatClampNeg c.toNatClampNeg hh) / gz (rnN (sR S) i.toNatClampNeg c.toNatClampNeg hh)) (10 / gz (rnN (sR S) i.toNatClampNeg c.toNatClampNeg hh)))
  else (-2, refu S 0)
theorem mul_le {a b c e : Nat} (h1 : a ≤ c) (h2 : b ≤ e) : a * b ≤ c * e := Nat.mul_le_mul h1 h2
theorem sub_10 : ∀ c, c ≤ 10 → 10 - nI c = nI (10 - c) := by decide +kernel
section PC
variable {d : Nat} {h : Hp} {Q : Pst} {S : St} {g hh nn mn : Nat}
theorem L_tell {l0 l1 l2 l3 : Value} {z : Int64} : ∀ f x y u9 u10 l6 l8, tpl f x y = some z → ∃ v9 v10 v6 v8 y2, (T d 201 6 [l0, l1, l2, l3, un, .long x, l6, .long y, l8, u9, u10] [] h Q ↔ T d 201 31 [l0, l1, l2, l3, un, .long z, v6, .long y2, v8, v9, v10] [] h Q) := by
  intro f
  induction f with
  | zero => intro x y u9 u10 l6 l8 e; cases e
  | succ f ih =>
    intro x y u9 u10 l6 l8 e
    unfold tpl at e
    by_cases q : y = 0
    · rw [if_pos q] at e
      cases e
      refine ⟨u9, u10, l6, l8, y, ?_⟩
      rw [t201_6]
      simp only [t201_8, t201_9, t201_10, lg_0, q, if_true]
    · rw [if_neg q] at e
      rw [t201_6]
      simp only [t201_8, t201_9, t201_10, t201_13, t201_15, t201_17, t201_18, t201_20, t201_22, t201_24, t201_26, t201_28, lg_0, q, if_false, not_false_eq_true, true_and, kil_u]
      exact ih _ _ _ _ _ _ e
theorem M_rain {i c : Int32} (m : ModelAt h S) (hg : sR S 12 = nI g) (h6 : g ≤ 6) (hh0 : sR S 25 = nI hh) (h4 : hh ≤ 4) (k : ∀ h2, ModelAt h2 (sp_rain g hh S i c).2 → frM h h2 → Q (some (.int (sp_rain g hh S i c).1)) h2) : T (d + 6) 202 0 [.ref 58, .int i, .int c, un, un, un] [] h Q := by
  refine T_eq m.self ?_
  have mm := m.again
  have ho := m.mo.o (R := sR S)
  obtain ⟨⟨pa, pb, r5, r6, dg, e1⟩, e2, e3, e4, e5, e6, e7⟩ := id m
  unfold sp_rain at k
  by_cases q : rg i 0 (g - 1 : Int) = true
  · by_cases q2 : rg c 0 10 = true
    · obtain ⟨a, ha, rfl⟩ := rg_n q
      obtain ⟨cc, hc, rfl⟩ := rg_l (b := 10) q2
      rw [if_pos ⟨q, q2⟩] at k
      simp (disch := first | assumption | omega | decide) only [nI_clamp] at k
      obtain ⟨N, hN⟩ : ∃ N, N = rnN (sR S) a cc hh := ⟨_, rfl⟩
      have L := loop_j (P := fun j (s : Nat) (u : Unit) => T (d + 6) 202 30 [.ref 58, .int (nI a), .int (nI cc), .long (lI s), un, .int (nI j)] [] (hm h (sR S)) Q) (F := rnF (sR S) a cc) (I := fun j s => s ≤ 50 * j) (E := fun s => s ≤ 200 → T (d + 6) 202 82 [.ref 58, .int (nI a), .int (nI cc), .long (lI s), un, .int (nI hh)] [] (hm h (sR S)) Q) (g := hh) ?_ ?_
      · simp (disch := first | assumption | omega | decide) only [t202_0, t202_1, t202_2, t202_5, t202_8, t202_9, t202_10, t202_12, t202_15, t202_18, t202_19, t202_21, t202_24, t202_25, t202_26, t202_27, t202_28, hm_58, hm_59, hm_up, e1, MO, gF_7_0, gF_7_1, gF_7_2, gF_7_3, gF_7_4, gF_7_5, gF_7_6, gF_7_7, aS_n, aS_l, aL_n, aL_l, ln_add, nl_add, ln_mul, nl_mul, nI_add, nI_1, i32_nl, ite_not, lt_nn, lt_nl, lt_ln, eq_nn, eq_nl, eq_ln, if_true, if_false, kil_i, kil_r, kil_l, kil_u, rl_s, rl_n, Nat.zero_add, Nat.lt_irrefl, not_true_eq_false, not_false_eq_true, true_and, dp_1, dp_2, dp_3, dp_4, dp_5, dp_6, dp_7, dp_8, dp_9, dp_10, dp_11, dp_12, dp_13, dp_14, dp_15, dp_16, dp_17, dp_18, dp_19, dp_20, dp_21, dp_22, dp_23, dp_24, dp_25, dp_26, dp_27, dp_28, dp_29, dp_30, dp_31, dp_32, dp_33, dp_34, dp_35, dp_36, dp_37, dp_38, dp_39, E_isGuest m.mo hg h6, E_inL, zb_0, q, q2]
        refine (L 0 () (by omega)).2 ?_
        intro hN2
        rw [show itr (rnF (sR S) a cc) hh 0 0 = N from hN.symm] at hN2 ⊢
        rw [← hN] at k
        obtain ⟨z1, z2⟩ := tpl_ok N hN2
        simp (disch := first | assumption | omega | decide) only [t202_82, t202_83, t202_84, t202_87, hm_58, hm_59, hm_up, e1, MO, gF_7_0, gF_7_1, gF_7_2, gF_7_3, gF_7_4, gF_7_5, gF_7_6, gF_7_7, aS_n, aS_l, aL_n, aL_l, ln_add, nl_add, ln_mul, nl_mul, nI_add, nI_1, i32_nl, ite_not, lt_nn, lt_nl, lt_ln, eq_nn, eq_nl, eq_ln, if_true, if_false, kil_i, kil_r, kil_l, kil_u, rl_s, rl_n, Nat.zero_add, Nat.lt_irrefl, not_true_eq_false, not_false_eq_true, true_and, dp_1, dp_2, dp_3, dp_4, dp_5, dp_6, dp_7, dp_8, dp_9, dp_10, dp_11, dp_12, dp_13, dp_14, dp_15, dp_16, dp_17, dp_18, dp_19, dp_20, dp_21, dp_22, dp_23, dp_24, dp_25, dp_26, dp_27, dp_28, dp_29, dp_30, dp_31, dp_32, dp_33, dp_34, dp_35, dp_36, dp_37, dp_38, dp_39, t201_0, t201_1, t201_3, t201_4, kil_u]
        obtain ⟨v9, v10, v6, v8, y2, e⟩ := @L_tell (d + 5) (hm h (sR S)) (fun r h2 => T (d + 4 + 2) 202 90 [.ref 58, .int (nI a), .int (nI cc), .long (lI N), un, .int (nI hh)] (rl r []) h2 Q) (.ref 58) (.long (lI N)) un (.long 10) (gz N) 9 (lI N) 10 un un un un z1
        refine e.2 ?_
        simp (disch := first | assumption | omega | decide) only [t201_31, t201_32, t201_33, t201_35, t201_36, t201_39, t201_40, t201_41, t201_43, t201_44, t201_47, hm_58, hm_59, hm_up, e1, MO, gF_7_0, gF_7_1, gF_7_2, gF_7_3, gF_7_4, gF_7_5, gF_7_6, gF_7_7, aS_n, aS_l, aL_n, aL_l, ln_add, nl_add, ln_mul, nl_mul, nI_add, nI_1, i32_nl, ite_not, lt_nn, lt_nl, lt_ln, eq_nn, eq_nl, eq_ln, if_true, if_false, kil_i, kil_r, kil_l, kil_u, rl_s, rl_n, Nat.zero_add, Nat.lt_irrefl, not_true_eq_false, not_false_eq_true, true_and, dp_1, dp_2, dp_3, dp_4, dp_5, dp_6, dp_7, dp_8, dp_9, dp_10, dp_11, dp_12, dp_13, dp_14, dp_15, dp_16, dp_17, dp_18, dp_19, dp_20, dp_21, dp_22, dp_23, dp_24, dp_25, dp_26, dp_27, dp_28, dp_29, dp_30, dp_31, dp_32, dp_33, dp_34, dp_35, dp_36, dp_37, dp_38, dp_39, z2, pF_7_3, pF_7_4, hup_s, hup_same, t202_90, t202_91]
        refine k _ ⟨⟨pa, pb, r5, r6, dg, ?_⟩, ?_⟩ (frM.rf.row.up (by decide) (by decide))
        · exact hup_s
        · exact ⟨rfl, e3, e4, e5, e6, e7⟩
      · intro j s u hj hI
        have b4 := nb_stb (sR S (13 + a)) (sR S (19 + a)) (nd (sR S (26 + j)) (sR S (30 + j)) 4)
        have b0 := nb_stb (sR S (13 + a)) (sR S (19 + a)) (nd (sR S (26 + j)) (sR S (30 + j)) 0)
        have c1 := mul_le hc b4.2
        have c2 := mul_le (show 10 - cc ≤ 10 - cc by omega) b0.2
        have c3 : cc * nb (sts (sR S) a j 4) + (10 - cc) * nb (sts (sR S) a j 0) ≤ 50 := by
          have := mul_le (show cc ≤ cc by omega) b4.2
          have h3 : cc * nb (sts (sR S) a j 4) ≤ cc * 5 := this
          have h4 : (10 - cc) * nb (sts (sR S) a j 0) ≤ (10 - cc) * 5 := c2
          omega
        refine ⟨by unfold rnF; omega, (), ?_⟩
        rw [t202_30]
        have s4 : bsx (sts (sR S) a j 4) = nI (nb (sts (sR S) a j 4)) := b4.1
        have s0 : bsx (sts (sR S) a j 0) = nI (nb (sts (sR S) a j 0)) := b0.1
        simp (disch := first | assumption | omega | decide) only [t202_32, t202_33, t202_36, t202_38, t202_39, t202_42, t202_43, t202_44, t202_45, t202_46, t202_48, t202_49, t202_52, t202_55, t202_56, t202_58, t202_59, t202_60, t202_61, t202_62, t202_64, t202_65, t202_68, t202_71, t202_72, t202_73, t202_74, t202_75, t202_76, t202_79, hm_58, hm_59, hm_up, e1, MO, gF_7_0, gF_7_1, gF_7_2, gF_7_3, gF_7_4, gF_7_5, gF_7_6, gF_7_7, aS_n, aS_l, aL_n, aL_l, ln_add, nl_add, ln_mul, nl_mul, nI_add, nI_1, i32_nl, ite_not, lt_nn, lt_nl, lt_ln, eq_nn, eq_nl, eq_ln, if_true, if_false, kil_i, kil_r, kil_l, kil_u, rl_s, rl_n, Nat.zero_add, Nat.lt_irrefl, not_true_eq_false, not_false_eq_true, true_and, dp_1, dp_2, dp_3, dp_4, dp_5, dp_6, dp_7, dp_8, dp_9, dp_10, dp_11, dp_12, dp_13, dp_14, dp_15, dp_16, dp_17, dp_18, dp_19, dp_20, dp_21, dp_22, dp_23, dp_24, dp_25, dp_26, dp_27, dp_28, dp_29, dp_30, dp_31, dp_32, dp_33, dp_34, dp_35, dp_36, dp_37, dp_38, dp_39, hj, hh0, E_staysOf m.mo.mr (show a < 6 by omega) (show j < 4 by omega), E_bits, s4, s0, sub_10, pk_mul, nI_long, lI_add, kil_u]
        rfl
      · intro s u hI
        rw [t202_30]
        simp (disch := first | assumption | omega | decide) only [t202_32, t202_33, t202_36, t202_38, t202_39, hm_58, hm_59, hm_up, e1, MO, gF_7_0, gF_7_1, gF_7_2, gF_7_3, gF_7_4, gF_7_5, gF_7_6, gF_7_7, aS_n, aS_l, aL_n, aL_l, ln_add, nl_add, ln_mul, nl_mul, nI_add, nI_1, i32_nl, ite_not, lt_nn, lt_nl, lt_ln, eq_nn, eq_nl, eq_ln, if_true, if_false, kil_i, kil_r, kil_l, kil_u, rl_s, rl_n, Nat.zero_add, Nat.lt_irrefl, not_true_eq_false, not_false_eq_true, true_and, dp_1, dp_2, dp_3, dp_4, dp_5, dp_6, dp_7, dp_8, dp_9, dp_10, dp_11, dp_12, dp_13, dp_14, dp_15, dp_16, dp_17, dp_18, dp_19, dp_20, dp_21, dp_22, dp_23, dp_24, dp_25, dp_26, dp_27, dp_28, dp_29, dp_30, dp_31, dp_32, dp_33, dp_34, dp_35, dp_36, dp_37, dp_38, dp_39, hh0]
        exact ⟨fun z _ => z, fun z => z (by omega)⟩
    · rw [if_neg (fun z => q2 z.2)] at k
      simp (disch := first | assumption | omega | decide) only [t202_0, t202_1, t202_2, t202_5, t202_8, t202_9, t202_10, t202_12, t202_15, t202_18, t202_19, t202_21, t202_24, hm_58, hm_59, hm_up, e1, MO, gF_7_0, gF_7_1, gF_7_2, gF_7_3, gF_7_4, gF_7_5, gF_7_6, gF_7_7, aS_n, aS_l, aL_n, aL_l, ln_add, nl_add, ln_mul, nl_mul, nI_add, nI_1, i32_nl, ite_not, lt_nn, lt_nl, lt_ln, eq_nn, eq_nl, eq_ln, if_true, if_false, kil_i, kil_r, kil_l, kil_u, rl_s, rl_n, Nat.zero_add, Nat.lt_irrefl, not_true_eq_false, not_false_eq_true, true_and, dp_1, dp_2, dp_3, dp_4, dp_5, dp_6, dp_7, dp_8, dp_9, dp_10, dp_11, dp_12, dp_13, dp_14, dp_15, dp_16, dp_17, dp_18, dp_19, dp_20, dp_21, dp_22, dp_23, dp_24, dp_25, dp_26, dp_27, dp_28, dp_29, dp_30, dp_31, dp_32, dp_33, dp_34, dp_35, dp_36, dp_37, dp_38, dp_39, E_isGuest m.mo hg h6, E_inL, zb_0, q, q2, E_refB mm]
      exact kR m 0 k
  · rw [if_neg (fun z => q z.1)] at k
    simp (disch := first | assumption | omega | decide) only [t202_0, t202_1, t202_2, t202_5, t202_8, t202_9, t202_10, t202_12, t202_15, t202_18, t202_19, t202_21, t202_24, hm_58, hm_59, hm_up, e1, MO, gF_7_0, gF_7_1, gF_7_2, gF_7_3, gF_7_4, gF_7_5, gF_7_6, gF_7_7, aS_n, aS_l, aL_n, aL_l, ln_add, nl_add, ln_mul, nl_mul, nI_add, nI_1, i32_nl, ite_not, lt_nn, lt_nl, lt_ln, eq_nn, eq_nl, eq_ln, if_true, if_false, kil_i, kil_r, kil_l, kil_u, rl_s, rl_n, Nat.zero_add, Nat.lt_irrefl, not_true_eq_false, not_false_eq_true, true_and, dp_1, dp_2, dp_3, dp_4, dp_5, dp_6, dp_7, dp_8, dp_9, dp_10, dp_11, dp_12, dp_13, dp_14, dp_15, dp_16, dp_17, dp_18, dp_19, dp_20, dp_21, dp_22, dp_23, dp_24, dp_25, dp_26, dp_27, dp_28, dp_29, dp_30, dp_31, dp_32, dp_33, dp_34, dp_35, dp_36, dp_37, dp_38, dp_39, E_isGuest m.mo hg h6, zb_0, q, E_refB mm]
    exact kR m 0 k
end PC
