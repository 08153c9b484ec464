/-! the reference's public calls: place -/
def bs (h : Hp) (L B : Nat → Int32) : Hp := hup (hup h 64 (oI 6 L)) 65 (oI 6 B)
theorem bs_58 {h : Hp} {L B : Nat → Int32} : (bs h L B).2.2 58 = h.2.2 58 := rfl
theorem bs_64 {h : Hp} {R L B : Nat → Int32} : (hm (bs h L B) R).2.2 64 = oI 6 L := rfl
theorem bs_65 {h : Hp} {R L B : Nat → Int32} : (hm (bs h L B) R).2.2 65 = oI 6 B := rfl
theorem bs_a {h : Hp} {R L B L2 : Nat → Int32} : hup (hm (bs h L B) R) 64 (oI 6 L2) = hm (bs h L2 B) R := by
  unfold hm bs
  rw [hup_sw (by decide : (59 : Nat) ≠ 64), hup_sw (by decide : (65 : Nat) ≠ 64), hup_same]
theorem bs_b {h : Hp} {R L B B2 : Nat → Int32} : hup (hm (bs h L B) R) 65 (oI 6 B2) = hm (bs h L B2) R := by
  unfold hm bs
  rw [hup_sw (by decide : (59 : Nat) ≠ 65), hup_same]
theorem isMO.bs {h : Hp} {L B : Nat → Int32} (m : isMO h) : isMO (bs h L B) := m
section PH
variable {d : Nat} {h : Hp} {Q : Pst} {S : St} {g hh : Nat}
/-- a line laid onto what is tried; what it gains -/
def plR (L : Nat → Int32) (g : Nat) (R : Nat → Int32) : Nat → Int32 := itr (fun i R => upd R (624 + i) (L i - 1)) g 0 (cpR R 0 624 12)
def plV (R2 : Nat → Int32) (g hh : Nat) : Int32 := itr (fun j s => s + (cmo R2 g 624 j 0 + 2 * cmo R2 g 624 j 1)) hh 0 0
theorem plR_o {L : Nat → Int32} {R : Nat → Int32} {c : Nat} (hc : c < 624) : plR L g R c = R c := by
  have := itr_inv (F := fun i (R : Nat → Int32) => upd R (624 + i) (L i - 1)) (I := fun _ X => X c = R c) g 0 (cpR R 0 624 12) (cpR_o (by omega)) (fun j X _ _ e => by show upd X (624 + j) _ c = _; rw [upd_ne (by omega)]; exact e)
  exact this
theorem E_gainBy {L B R : Nat → Int32} (mo : isMO h) (hg : R 12 = nI g) (h6 : g ≤ 6) (hh0 : R 25 = nI hh) (h4 : hh ≤ 4) : T (d + 5) 180 0 [.ref 58, un, un] [] (hm (bs h L B) R) Q ↔ Q (some (.int (plV (plR L g R) g hh))) (hm (bs h L B) (plR L g R)) := by
  have mb : isMO (bs h L B) := mo.bs
  obtain ⟨ab, be, ln, pa, pb, r5, r6, dg, e0⟩ := id mo
  have e1 : (bs h L B).2.2 58 = MO ab be ln pa pb r5 r6 dg := e0
  have ho := mb.o (R := R)
  have hk : ∀ c, c < 624 → plR L g R c = R c := fun c hc => plR_o hc
  have L2 := loop_d (P := fun j (s : Int32) (u : Unit) => T (d + 5) 180 45 [.ref 58, .int s, .int (nI j)] [] (hm (bs h L B) (plR L g R)) Q) (F := fun j s => s + (cmo (plR L g R) g 624 j 0 + 2 * cmo (plR L g R) g 624 j 1)) (E := fun s => Q (some (.int s)) (hm (bs h L B) (plR L g R))) (g := hh) ?_ ?_
  have L1 := loop_j (P := fun i (X : Nat → Int32) (u : Unit) => T (d + 5) 180 6 [.ref 58, .int (nI i), un] [] (hm (bs h L B) X) Q) (F := fun i R => upd R (624 + i) (L i - 1)) (I := fun _ X => X 12 = nI g) (E := fun X => T (d + 5) 180 41 [.ref 58, .int (nI g), un] [] (hm (bs h L B) X) Q) (g := g) ?_ ?_
  · simp (disch := first | assumption | omega | decide) only [t180_0, t180_1, t180_4, t180_5, hm_58, hm_59, hm_up, e1, MO, gF_7_0, gF_7_1, gF_7_2, gF_7_3, gF_7_4, gF_7_5, gF_7_6, gF_7_7, aS_n, aS_l, aL_n, aL_l, ln_add, nl_add, ln_mul, nl_mul, nI_add, nI_1, i32_nl, ite_not, lt_nn, lt_nl, lt_ln, eq_nn, eq_nl, eq_ln, if_true, if_false, kil_i, kil_r, kil_l, kil_u, rl_s, rl_n, Nat.zero_add, Nat.lt_irrefl, not_true_eq_false, not_false_eq_true, true_and, dp_1, dp_2, dp_3, dp_4, dp_5, dp_6, dp_7, dp_8, dp_9, dp_10, dp_11, dp_12, dp_13, dp_14, dp_15, dp_16, dp_17, dp_18, dp_19, dp_20, dp_21, dp_22, dp_23, dp_24, dp_25, dp_26, dp_27, dp_28, dp_29, dp_30, dp_31, dp_32, dp_33, dp_34, dp_35, dp_36, dp_37, dp_38, dp_39, E_layTried mb]
    refine (L1 (cpR R 0 624 12) () (by rw [cpR_o (by omega)]; exact hg)).trans ?_
    rw [show itr (fun i R => upd R (624 + i) (L i - 1)) g 0 (cpR R 0 624 12) = plR L g R from rfl]
    simp (disch := first | assumption | omega | decide) only [t180_41, t180_42, t180_43, t180_44, hm_58, hm_59, hm_up, e1, MO, gF_7_0, gF_7_1, gF_7_2, gF_7_3, gF_7_4, gF_7_5, gF_7_6, gF_7_7, aS_n, aS_l, aL_n, aL_l, ln_add, nl_add, ln_mul, nl_mul, nI_add, nI_1, i32_nl, ite_not, lt_nn, lt_nl, lt_ln, eq_nn, eq_nl, eq_ln, if_true, if_false, kil_i, kil_r, kil_l, kil_u, rl_s, rl_n, Nat.zero_add, Nat.lt_irrefl, not_true_eq_false, not_false_eq_true, true_and, dp_1, dp_2, dp_3, dp_4, dp_5, dp_6, dp_7, dp_8, dp_9, dp_10, dp_11, dp_12, dp_13, dp_14, dp_15, dp_16, dp_17, dp_18, dp_19, dp_20, dp_21, dp_22, dp_23, dp_24, dp_25, dp_26, dp_27, dp_28, dp_29, dp_30, dp_31, dp_32, dp_33, dp_34, dp_35, dp_36, dp_37, dp_38, dp_39]
    exact L2 0 ()
  · intro i X u hi hI
    have hI : X 12 = nI g := hI
    refine ⟨by show upd X (624 + i) _ 12 = _; rw [upd_ne (by omega)]; exact hI, (), ?_⟩
    rw [t180_6]
    simp (disch := first | assumption | omega | decide) only [t180_7, t180_8, t180_11, t180_13, t180_14, t180_17, t180_18, t180_21, t180_24, t180_25, t180_26, t180_27, t180_30, t180_31, t180_32, t180_33, t180_34, t180_35, t180_38, hm_58, hm_59, hm_up, e1, MO, gF_7_0, gF_7_1, gF_7_2, gF_7_3, gF_7_4, gF_7_5, gF_7_6, gF_7_7, aS_n, aS_l, aL_n, aL_l, ln_add, nl_add, ln_mul, nl_mul, nI_add, nI_1, i32_nl, ite_not, lt_nn, lt_nl, lt_ln, eq_nn, eq_nl, eq_ln, if_true, if_false, kil_i, kil_r, kil_l, kil_u, rl_s, rl_n, Nat.zero_add, Nat.lt_irrefl, not_true_eq_false, not_false_eq_true, true_and, dp_1, dp_2, dp_3, dp_4, dp_5, dp_6, dp_7, dp_8, dp_9, dp_10, dp_11, dp_12, dp_13, dp_14, dp_15, dp_16, dp_17, dp_18, dp_19, dp_20, dp_21, dp_22, dp_23, dp_24, dp_25, dp_26, dp_27, dp_28, dp_29, dp_30, dp_31, dp_32, dp_33, dp_34, dp_35, dp_36, dp_37, dp_38, dp_39, hI, hi, gF_7_13, bs_64]
  · intro X u hI
    have hI : X 12 = nI g := hI
    rw [t180_6]
    simp (disch := first | assumption | omega | decide) only [t180_7, t180_8, t180_11, t180_13, t180_14, hm_58, hm_59, hm_up, e1, MO, gF_7_0, gF_7_1, gF_7_2, gF_7_3, gF_7_4, gF_7_5, gF_7_6, gF_7_7, aS_n, aS_l, aL_n, aL_l, ln_add, nl_add, ln_mul, nl_mul, nI_add, nI_1, i32_nl, ite_not, lt_nn, lt_nl, lt_ln, eq_nn, eq_nl, eq_ln, if_true, if_false, kil_i, kil_r, kil_l, kil_u, rl_s, rl_n, Nat.zero_add, Nat.lt_irrefl, not_true_eq_false, not_false_eq_true, true_and, dp_1, dp_2, dp_3, dp_4, dp_5, dp_6, dp_7, dp_8, dp_9, dp_10, dp_11, dp_12, dp_13, dp_14, dp_15, dp_16, dp_17, dp_18, dp_19, dp_20, dp_21, dp_22, dp_23, dp_24, dp_25, dp_26, dp_27, dp_28, dp_29, dp_30, dp_31, dp_32, dp_33, dp_34, dp_35, dp_36, dp_37, dp_38, dp_39, hI]
  · intro j s u hj
    refine ⟨(), ?_⟩
    have ho2 := mb.o (R := plR L g R)
    rw [t180_45]
    have C1 := @E_companyIn d g 624 j 1 (plR L g R) (hm (bs h L B) (plR L g R)) (fun r h2 => T (d + 4 + 1) 180 76 [.ref 58, .int s, .int (nI j)] (rl r [.int 2, .int (cmo (plR L g R) g 624 j 0), .int s]) h2 Q) mb.mr (by rw [hk _ (by omega)]; exact hg) h6 (by omega) (by omega)
    have C0 := @E_companyIn d g 624 j 0 (plR L g R) (hm (bs h L B) (plR L g R)) (fun r h2 => T (d + 4 + 1) 180 66 [.ref 58, .int s, .int (nI j)] (rl r [.int s]) h2 Q) mb.mr (by rw [hk _ (by omega)]; exact hg) h6 (by omega) (by omega)
    simp (disch := first | assumption | omega | decide) only [t180_46, t180_47, t180_50, t180_52, t180_53, t180_56, t180_57, t180_58, t180_61, t180_62, t180_63, hm_58, hm_59, hm_up, e1, MO, gF_7_0, gF_7_1, gF_7_2, gF_7_3, gF_7_4, gF_7_5, gF_7_6, gF_7_7, aS_n, aS_l, aL_n, aL_l, ln_add, nl_add, ln_mul, nl_mul, nI_add, nI_1, i32_nl, ite_not, lt_nn, lt_nl, lt_ln, eq_nn, eq_nl, eq_ln, if_true, if_false, kil_i, kil_r, kil_l, kil_u, rl_s, rl_n, Nat.zero_add, Nat.lt_irrefl, not_true_eq_false, not_false_eq_true, true_and, dp_1, dp_2, dp_3, dp_4, dp_5, dp_6, dp_7, dp_8, dp_9, dp_10, dp_11, dp_12, dp_13, dp_14, dp_15, dp_16, dp_17, dp_18, dp_19, dp_20, dp_21, dp_22, dp_23, dp_24, dp_25, dp_26, dp_27, dp_28, dp_29, dp_30, dp_31, dp_32, dp_33, dp_34, dp_35, dp_36, dp_37, dp_38, dp_39, hj, show plR L g R 25 = nI hh from by rw [hk _ (by omega)]; exact hh0]
    refine C0.trans ?_
    simp (disch := first | assumption | omega | decide) only [t180_66, t180_67, t180_68, t180_71, t180_72, t180_73, hm_58, hm_59, hm_up, e1, MO, gF_7_0, gF_7_1, gF_7_2, gF_7_3, gF_7_4, gF_7_5, gF_7_6, gF_7_7, aS_n, aS_l, aL_n, aL_l, ln_add, nl_add, ln_mul, nl_mul, nI_add, nI_1, i32_nl, ite_not, lt_nn, lt_nl, lt_ln, eq_nn, eq_nl, eq_ln, if_true, if_false, kil_i, kil_r, kil_l, kil_u, rl_s, rl_n, Nat.zero_add, Nat.lt_irrefl, not_true_eq_false, not_false_eq_true, true_and, dp_1, dp_2, dp_3, dp_4, dp_5, dp_6, dp_7, dp_8, dp_9, dp_10, dp_11, dp_12, dp_13, dp_14, dp_15, dp_16, dp_17, dp_18, dp_19, dp_20, dp_21, dp_22, dp_23, dp_24, dp_25, dp_26, dp_27, dp_28, dp_29, dp_30, dp_31, dp_32, dp_33, dp_34, dp_35, dp_36, dp_37, dp_38, dp_39]
    refine C1.trans ?_
    simp (disch := first | assumption | omega | decide) only [t180_76, t180_77, t180_78, t180_79, t180_80, t180_83, hm_58, hm_59, hm_up, e1, MO, gF_7_0, gF_7_1, gF_7_2, gF_7_3, gF_7_4, gF_7_5, gF_7_6, gF_7_7, aS_n, aS_l, aL_n, aL_l, ln_add, nl_add, ln_mul, nl_mul, nI_add, nI_1, i32_nl, ite_not, lt_nn, lt_nl, lt_ln, eq_nn, eq_nl, eq_ln, if_true, if_false, kil_i, kil_r, kil_l, kil_u, rl_s, rl_n, Nat.zero_add, Nat.lt_irrefl, not_true_eq_false, not_false_eq_true, true_and, dp_1, dp_2, dp_3, dp_4, dp_5, dp_6, dp_7, dp_8, dp_9, dp_10, dp_11, dp_12, dp_13, dp_14, dp_15, dp_16, dp_17, dp_18, dp_19, dp_20, dp_21, dp_22, dp_23, dp_24, dp_25, dp_26, dp_27, dp_28, dp_29, dp_30, dp_31, dp_32, dp_33, dp_34, dp_35, dp_36, dp_37, dp_38, dp_39]
  · intro s u
    rw [t180_45]
    simp (disch := first | assumption | omega | decide) only [t180_46, t180_47, t180_50, t180_52, t180_53, t180_86, t180_87, hm_58, hm_59, hm_up, e1, MO, gF_7_0, gF_7_1, gF_7_2, gF_7_3, gF_7_4, gF_7_5, gF_7_6, gF_7_7, aS_n, aS_l, aL_n, aL_l, ln_add, nl_add, ln_mul, nl_mul, nI_add, nI_1, i32_nl, ite_not, lt_nn, lt_nl, lt_ln, eq_nn, eq_nl, eq_ln, if_true, if_false, kil_i, kil_r, kil_l, kil_u, rl_s, rl_n, Nat.zero_add, Nat.lt_irrefl, not_true_eq_false, not_false_eq_true, true_and, dp_1, dp_2, dp_3, dp_4, dp_5, dp_6, dp_7, dp_8, dp_9, dp_10, dp_11, dp_12, dp_13, dp_14, dp_15, dp_16, dp_17, dp_18, dp_19, dp_20, dp_21, dp_22, dp_23, dp_24, dp_25, dp_26, dp_27, dp_28, dp_29, dp_30, dp_31, dp_32, dp_33, dp_34, dp_35, dp_36, dp_37, dp_38, dp_39, show plR L g R 25 = nI hh from by rw [hk _ (by omega)]; exact hh0]
/-- the next line, while the last n places stand to be looked at -/
theorem E_nextLine_loop {R B : Nat → Int32} (mo : isMO h) (hh0 : R 25 = nI hh) (h4 : hh ≤ 4) (h6 : g ≤ 6) : ∀ n (L : Nat → Int32), n ≤ g → (∀ k, k < g → ∃ x, x ≤ hh ∧ L k = nI x) → ∃ L2 : Nat → Int32, ∃ z : Bool,
    (T d 181 10 [.ref 58, .int (nI n - 1)] [] (hm (bs h L B) R) Q ↔ Q (some (.int (zI z))) (hm (bs h L2 B) R)) ∧
    (∀ k, n ≤ k → L2 k = L k) ∧
    (z = true → ∃ c, c < n ∧ (∃ x, x < hh ∧ L c = nI x ∧ L2 c = nI (x + 1)) ∧ (∀ k, k < c → L2 k = L k) ∧ (∀ k, c < k → k < n → L k = nI hh ∧ L2 k = 0)) ∧
    (z = false → ∀ k, k < n → L k = nI hh ∧ L2 k = 0) := by
  have mb : ∀ L, isMO (bs h L B) := fun L => mo.bs
  obtain ⟨ab, be, ln, pa, pb, r5, r6, dg, e0⟩ := id mo
  intro n
  induction n with
  | zero =>
    intro L hn hL
    have e1 : (bs h L B).2.2 58 = MO ab be ln pa pb r5 r6 dg := e0
    refine ⟨L, false, ?_, fun _ _ => rfl, fun z => (by cases z), fun _ k hk => absurd hk (by omega)⟩
    rw [t181_10]
    simp (disch := first | assumption | omega | decide) only [t181_11, t181_43, t181_44, t181_47, t181_48, t181_51, t181_52, t181_53, t181_54, t181_55, t181_56, t181_57, t181_58, t181_61, t181_62, t181_65, t181_66, hm_58, hm_59, hm_up, e1, MO, gF_7_0, gF_7_1, gF_7_2, gF_7_3, gF_7_4, gF_7_5, gF_7_6, gF_7_7, aS_n, aS_l, aL_n, aL_l, ln_add, nl_add, ln_mul, nl_mul, nI_add, nI_1, i32_nl, ite_not, lt_nn, lt_nl, lt_ln, eq_nn, eq_nl, eq_ln, if_true, if_false, kil_i, kil_r, kil_l, kil_u, rl_s, rl_n, Nat.zero_add, Nat.lt_irrefl, not_true_eq_false, not_false_eq_true, true_and, dp_1, dp_2, dp_3, dp_4, dp_5, dp_6, dp_7, dp_8, dp_9, dp_10, dp_11, dp_12, dp_13, dp_14, dp_15, dp_16, dp_17, dp_18, dp_19, dp_20, dp_21, dp_22, dp_23, dp_24, dp_25, dp_26, dp_27, dp_28, dp_29, dp_30, dp_31, dp_32, dp_33, dp_34, dp_35, dp_36, dp_37, dp_38, dp_39, show (nI 0 - 1 : Int32) < 0 from by decide, zI, Bool.false_eq_true, nar_0]
  | succ n ih =>
    intro L hn hL
    have e1 : (bs h L B).2.2 58 = MO ab be ln pa pb r5 r6 dg := e0
    obtain ⟨x, hx, ex⟩ := hL n (by omega)
    rw [nI_pred]
    by_cases q : x = hh
    · subst q
      obtain ⟨L2, z, E1, E2, E3, E4⟩ := ih (upd L n 0) (by omega) (fun k hk => by
        by_cases e : k = n
        · subst e; exact ⟨0, by omega, upd_eq⟩
        · rw [upd_ne e]; exact hL k hk)
      have e2 : L2 n = 0 := by rw [E2 n (by omega)]; exact upd_eq
      refine ⟨L2, z, ?_, fun k hk => by rw [E2 k (by omega), upd_ne (by omega)], fun zt => ?_, fun zf k hk => ?_⟩
      · rw [t181_10]
        simp (disch := first | assumption | omega | decide) only [t181_11, t181_14, t181_15, t181_18, t181_19, t181_20, t181_21, t181_24, t181_26, t181_27, t181_30, t181_31, t181_34, t181_35, t181_36, t181_37, t181_40, hm_58, hm_59, hm_up, e1, MO, gF_7_0, gF_7_1, gF_7_2, gF_7_3, gF_7_4, gF_7_5, gF_7_6, gF_7_7, aS_n, aS_l, aL_n, aL_l, ln_add, nl_add, ln_mul, nl_mul, nI_add, nI_1, i32_nl, ite_not, lt_nn, lt_nl, lt_ln, eq_nn, eq_nl, eq_ln, if_true, if_false, kil_i, kil_r, kil_l, kil_u, rl_s, rl_n, Nat.zero_add, Nat.lt_irrefl, not_true_eq_false, not_false_eq_true, true_and, dp_1, dp_2, dp_3, dp_4, dp_5, dp_6, dp_7, dp_8, dp_9, dp_10, dp_11, dp_12, dp_13, dp_14, dp_15, dp_16, dp_17, dp_18, dp_19, dp_20, dp_21, dp_22, dp_23, dp_24, dp_25, dp_26, dp_27, dp_28, dp_29, dp_30, dp_31, dp_32, dp_33, dp_34, dp_35, dp_36, dp_37, dp_38, dp_39, gF_7_13, bs_64, bs_a, ex, hh0]
        rw [show nI n + -1 = nI n - 1 from (Int32.sub_eq_add_neg _ _).symm]
        exact E1
      · obtain ⟨c, hc, ⟨y, hy, ey1, ey2⟩, hb, ha⟩ := E3 zt
        refine ⟨c, by omega, ⟨y, hy, ?_, ey2⟩, fun k hk => by rw [hb k hk, upd_ne (by omega)], fun k h1 h2 => ?_⟩
        · rw [← ey1, upd_ne (by omega)]
        · by_cases e : k = n
          · subst e; exact ⟨ex, e2⟩
          · have := ha k h1 (by omega)
            rw [upd_ne e] at this
            exact this
      · by_cases e : k = n
        · subst e; exact ⟨ex, e2⟩
        · have := E4 zf k (by omega)
          rw [upd_ne e] at this
          exact this
    · refine ⟨upd L n (nI (x + 1)), true, ?_, fun k hk => upd_ne (by omega), fun _ => ⟨n, by omega, ⟨x, by omega, ex, upd_eq⟩, fun k hk => upd_ne (by omega), fun k h1 h2 => absurd h1 (by omega)⟩, fun z => (by cases z)⟩
      rw [t181_10]
      simp (disch := first | assumption | omega | decide) only [t181_11, t181_14, t181_15, t181_18, t181_19, t181_20, t181_21, t181_24, t181_26, t181_27, t181_30, t181_31, t181_34, t181_35, t181_36, t181_37, t181_40, t181_43, t181_44, t181_47, t181_48, t181_51, t181_52, t181_53, t181_54, t181_55, t181_56, t181_57, t181_58, t181_61, t181_62, t181_65, t181_66, hm_58, hm_59, hm_up, e1, MO, gF_7_0, gF_7_1, gF_7_2, gF_7_3, gF_7_4, gF_7_5, gF_7_6, gF_7_7, aS_n, aS_l, aL_n, aL_l, ln_add, nl_add, ln_mul, nl_mul, nI_add, nI_1, i32_nl, ite_not, lt_nn, lt_nl, lt_ln, eq_nn, eq_nl, eq_ln, if_true, if_false, kil_i, kil_r, kil_l, kil_u, rl_s, rl_n, Nat.zero_add, Nat.lt_irrefl, not_true_eq_false, not_false_eq_true, true_and, dp_1, dp_2, dp_3, dp_4, dp_5, dp_6, dp_7, dp_8, dp_9, dp_10, dp_11, dp_12, dp_13, dp_14, dp_15, dp_16, dp_17, dp_18, dp_19, dp_20, dp_21, dp_22, dp_23, dp_24, dp_25, dp_26, dp_27, dp_28, dp_29, dp_30, dp_31, dp_32, dp_33, dp_34, dp_35, dp_36, dp_37, dp_38, dp_39, gF_7_13, bs_64, bs_a, ex, hh0, q, zI, nar_1, Nat.not_lt_zero]
theorem E_nextLine {R B L : Nat → Int32} (mo : isMO h) (hg : R 12 = nI g) (hh0 : R 25 = nI hh) (h4 : hh ≤ 4) (h6 : g ≤ 6) (hL : ∀ k, k < g → ∃ x, x ≤ hh ∧ L k = nI x) :
    (∀ p x, p < g → x < hh → L p = nI x → (∀ k, p < k → k < g → L k = nI hh) → (T (d + 1) 181 0 [.ref 58, un] [] (hm (bs h L B) R) Q ↔ Q (some (.int 1)) (hm (bs h (fun k => if p < k ∧ k < g then 0 else if k = p then nI (x + 1) else L k) B) R))) ∧
    ((∀ k, k < g → L k = nI hh) → ∃ L2, (T (d + 1) 181 0 [.ref 58, un] [] (hm (bs h L B) R) Q ↔ Q (some (.int 0)) (hm (bs h L2 B) R))) := by
  obtain ⟨L2, z, E1, E2, E3, E4⟩ := @E_nextLine_loop (d + 1) h Q g hh R B mo hh0 h4 h6 g L (Nat.le_refl g) hL
  have E0 : T (d + 1) 181 0 [.ref 58, un] [] (hm (bs h L B) R) Q ↔ Q (some (.int (zI z))) (hm (bs h L2 B) R) := by
    obtain ⟨ab, be, ln, pa, pb, r5, r6, dg, e0⟩ := id mo
    have e1 : (bs h L B).2.2 58 = MO ab be ln pa pb r5 r6 dg := e0
    simp (disch := first | assumption | omega | decide) only [t181_0, t181_1, t181_4, t181_6, t181_7, t181_8, t181_9, hm_58, hm_59, hm_up, e1, MO, gF_7_0, gF_7_1, gF_7_2, gF_7_3, gF_7_4, gF_7_5, gF_7_6, gF_7_7, aS_n, aS_l, aL_n, aL_l, ln_add, nl_add, ln_mul, nl_mul, nI_add, nI_1, i32_nl, ite_not, lt_nn, lt_nl, lt_ln, eq_nn, eq_nl, eq_ln, if_true, if_false, kil_i, kil_r, kil_l, kil_u, rl_s, rl_n, Nat.zero_add, Nat.lt_irrefl, not_true_eq_false, not_false_eq_true, true_and, dp_1, dp_2, dp_3, dp_4, dp_5, dp_6, dp_7, dp_8, dp_9, dp_10, dp_11, dp_12, dp_13, dp_14, dp_15, dp_16, dp_17, dp_18, dp_19, dp_20, dp_21, dp_22, dp_23, dp_24, dp_25, dp_26, dp_27, dp_28, dp_29, dp_30, dp_31, dp_32, dp_33, dp_34, dp_35, dp_36, dp_37, dp_38, dp_39, hg]
    exact E1
  refine ⟨fun p x hp hx ep ha => ?_, fun ha => ⟨L2, ?_⟩⟩
  · have nn : ∀ {a b : Nat}, a ≤ hh → b ≤ hh → nI a = nI b → a = b := fun h1 h2 e => (nI_eq (by omega) (by omega)).1 e
    have zt : z = true := by
      cases z with
      | true => rfl
      | false =>
        have := (E4 rfl p hp).1
        rw [ep] at this
        have := nn (by omega) (by omega) this
        omega
    obtain ⟨c, hc, ⟨y, hy, ey1, ey2⟩, hb, hd⟩ := E3 zt
    have hcp : c = p := by
      rcases Nat.lt_trichotomy c p with q | q | q
      · have := (hd p q hp).1
        rw [ep] at this
        have := nn (by omega) (by omega) this
        omega
      · exact q
      · have := ha c q hc
        rw [ey1] at this
        have := nn (by omega) (by omega) this
        omega
    subst hcp
    have hxy : x = y := by rw [ep] at ey1; exact nn (by omega) (by omega) ey1
    subst hxy
    rw [E0, zt]
    have e : L2 = fun k => if c < k ∧ k < g then 0 else if k = c then nI (x + 1) else L k := by
      funext k
      by_cases q1 : c < k ∧ k < g
      · rw [if_pos q1]; exact (hd k q1.1 q1.2).2
      · rw [if_neg q1]
        by_cases q2 : k = c
        · rw [if_pos q2, q2]; exact ey2
        · rw [if_neg q2]
          by_cases q3 : k < c
          · exact hb k q3
          · exact E2 k (by omega)
    rw [e]; rfl
  · have zf : z = false := by
      cases z with
      | false => rfl
      | true =>
        obtain ⟨c, hc, ⟨y, hy, ey1, ey2⟩, -, -⟩ := E3 rfl
        have := ha c hc
        rw [ey1] at this
        have := (nI_eq (by omega) (by omega)).1 this
        omega
    rw [E0, zf]; rfl
end PH
