/-! the reference's public calls: read: items -/
/-- an item read: does it stand, its numbers, the token it ends at -/
abbrev It : Type := Bool × Int32 × Int32 × Nat × Nat
def it1 (X : Nat → Int32) (n b : Nat) (lo hi : Int32) : It :=
  (decide (¬ nmR X n (tkA X n b) (tkE X n b) lo hi = -1), nmR X n (tkA X n b) (tkE X n b) lo hi, 0, tkA X n b, tkE X n b)
def it2 (X : Nat → Int32) (n b : Nat) (lo hi lo2 hi2 : Int32) : It :=
  let o := it1 X n b lo hi
  if o.1 = true then
    let o2 := it1 X n o.2.2.2.2 lo2 hi2
    (o2.1, o.2.1, o2.2.1, o2.2.2.2)
  else (false, o.2.1, 0, o.2.2.2)
def itm (X : Nat → Int32) (n a b g2 h2 : Nat) (w : Nat) : It :=
  match w with
  | 0 => it1 X n b 0 4
  | 1 => if g2 = 6 then (false, 0, 0, a, b) else it2 X n b 0 5 1 30
  | 2 => if h2 = 4 then (false, 0, 0, a, b) else it2 X n b 0 5 1 30
  | 3 => it2 X n b 0 (nI g2 - 1) 0 (nI h2 - 1)
  | 4 => it1 X n b 0 (nI g2 - 1)
  | _ => it1 X n b 1 99
/-- what an item does -/
def cmdR (w : Nat) (x y : Int32) (R : Nat → Int32) : Nat → Int32 :=
  match w with
  | 0 => layR R x
  | 1 => rwG R x y (R 12).toNatClampNeg
  | 2 => rwH R x y (R 25).toNatClampNeg
  | 3 => upd R x.toNatClampNeg y
  | 4 => upd R x.toNatClampNeg (-1)
  | _ => goR (R 12).toNatClampNeg (R 25).toNatClampNeg x.toNatClampNeg R
theorem zT : zI true = 1 := rfl
theorem zF : zI false = 0 := rfl
section PL
variable {d : Nat} {h : Hp} {Q : Pst} {R X : Nat → Int32} {ab be : Int64} {n : Nat}
theorem E_readsUplands {b : Nat} {pa r5 r6 dg : Int32} (eX : h.2.2 62 = oI 150 X) (hn : n ≤ 150) (hb : b ≤ n) : T (d + 4) 145 0 [.ref 58, un] [] (hm (md h ab be (nI n) pa (nI b) r5 r6 dg) R) Q ↔ Q (some (.int (zI (it1 X n b 0 4).1))) (hm (md h ab be (nI n) (nI (tkA X n b)) (nI (tkE X n b)) r5 r6 dg) (if ¬ dg = 0 ∧ (it1 X n b 0 4).1 = true then layR R (it1 X n b 0 4).2.1 else R)) := by
  have e1 : ∀ z z2, (md h ab be (nI n) z z2 r5 r6 dg).2.2 58 = MO ab be (nI n) z z2 r5 r6 dg := fun _ _ => rfl
  have ho : ∀ z z2 R, isO ((hm (md h ab be (nI n) z z2 r5 r6 dg) R).2.2 58) 7 := fun z z2 R => md_mo.o
  have hx := ho pa (nI b) R
  have hy := ho (nI (tkA X n b)) (nI (tkE X n b)) R
  unfold it1
  simp only []
  generalize hv : nmR X n (tkA X n b) (tkE X n b) 0 4 = v
  by_cases q : v = -1
  · simp (disch := first | assumption | omega | decide) only [t145_0, t145_1, t145_2, t145_3, t145_6, t145_7, t145_8, t145_9, t145_12, t145_13, t145_16, t145_19, t145_20, t145_21, t145_24, t145_25, t145_26, t145_29, t145_30, t145_33, t145_34, hm_58, hm_59, hm_up, e1, MO, gF_7_0, gF_7_1, gF_7_2, gF_7_3, gF_7_4, gF_7_5, gF_7_6, gF_7_7, aS_n, aS_l, aL_n, aL_l, ln_add, nl_add, ln_mul, nl_mul, nI_add, nI_1, i32_nl, ite_not, lt_nn, lt_nl, lt_ln, eq_nn, eq_nl, eq_ln, if_true, if_false, kil_i, kil_r, kil_l, kil_u, rl_s, rl_n, Nat.zero_add, Nat.lt_irrefl, not_true_eq_false, not_false_eq_true, true_and, dp_1, dp_2, dp_3, dp_4, dp_5, dp_6, dp_7, dp_8, dp_9, dp_10, dp_11, dp_12, dp_13, dp_14, dp_15, dp_16, dp_17, dp_18, dp_19, dp_20, dp_21, dp_22, dp_23, dp_24, dp_25, dp_26, dp_27, dp_28, dp_29, dp_30, dp_31, dp_32, dp_33, dp_34, dp_35, dp_36, dp_37, dp_38, dp_39, E_number eX hn hb, hv, q, decide_false, and_false, Bool.false_eq_true, zF, nar_0]
  · by_cases qd : dg = 0
    · subst qd
      simp (disch := first | assumption | omega | decide) only [t145_0, t145_1, t145_2, t145_3, t145_6, t145_7, t145_8, t145_9, t145_12, t145_13, t145_16, t145_19, t145_20, t145_21, t145_24, t145_25, t145_26, t145_29, t145_30, t145_33, t145_34, hm_58, hm_59, hm_up, e1, MO, gF_7_0, gF_7_1, gF_7_2, gF_7_3, gF_7_4, gF_7_5, gF_7_6, gF_7_7, aS_n, aS_l, aL_n, aL_l, ln_add, nl_add, ln_mul, nl_mul, nI_add, nI_1, i32_nl, ite_not, lt_nn, lt_nl, lt_ln, eq_nn, eq_nl, eq_ln, if_true, if_false, kil_i, kil_r, kil_l, kil_u, rl_s, rl_n, Nat.zero_add, Nat.lt_irrefl, not_true_eq_false, not_false_eq_true, true_and, dp_1, dp_2, dp_3, dp_4, dp_5, dp_6, dp_7, dp_8, dp_9, dp_10, dp_11, dp_12, dp_13, dp_14, dp_15, dp_16, dp_17, dp_18, dp_19, dp_20, dp_21, dp_22, dp_23, dp_24, dp_25, dp_26, dp_27, dp_28, dp_29, dp_30, dp_31, dp_32, dp_33, dp_34, dp_35, dp_36, dp_37, dp_38, dp_39, gF_7_8, gF_7_9, gF_7_10, gF_7_11, gF_7_12, E_number eX hn hb, hv, q, decide_true, and_true, false_and, zT, nar_1]
    · have e2 : ∀ z, (upd (fun j => if j < 208 then 0 else R j) 10 z) = layR R z := fun _ => rfl
      simp (disch := first | assumption | omega | decide) only [t145_0, t145_1, t145_2, t145_3, t145_6, t145_7, t145_8, t145_9, t145_12, t145_13, t145_16, t145_19, t145_20, t145_21, t145_24, t145_25, t145_26, t145_29, t145_30, t145_33, t145_34, hm_58, hm_59, hm_up, e1, MO, gF_7_0, gF_7_1, gF_7_2, gF_7_3, gF_7_4, gF_7_5, gF_7_6, gF_7_7, aS_n, aS_l, aL_n, aL_l, ln_add, nl_add, ln_mul, nl_mul, nI_add, nI_1, i32_nl, ite_not, lt_nn, lt_nl, lt_ln, eq_nn, eq_nl, eq_ln, if_true, if_false, kil_i, kil_r, kil_l, kil_u, rl_s, rl_n, Nat.zero_add, Nat.lt_irrefl, not_true_eq_false, not_false_eq_true, true_and, dp_1, dp_2, dp_3, dp_4, dp_5, dp_6, dp_7, dp_8, dp_9, dp_10, dp_11, dp_12, dp_13, dp_14, dp_15, dp_16, dp_17, dp_18, dp_19, dp_20, dp_21, dp_22, dp_23, dp_24, dp_25, dp_26, dp_27, dp_28, dp_29, dp_30, dp_31, dp_32, dp_33, dp_34, dp_35, dp_36, dp_37, dp_38, dp_39, gF_7_8, gF_7_9, gF_7_10, gF_7_11, gF_7_12, E_number eX hn hb, hv, q, decide_true, and_true, qd, zT, nar_1, E_layUplands md_mo, e2]
theorem E_readsGuest {b a c : Nat} {r5 r6 dg : Int32} (eX : h.2.2 62 = oI 150 X) (hn : n ≤ 150) (hb : b ≤ n) (hr : r5 = nI c) (hc : c ≤ 6) (hR : ¬ dg = 0 → R 12 = nI c) : T (d + 4) 146 0 [.ref 58, un, un] [] (hm (md h ab be (nI n) (nI a) (nI b) r5 r6 dg) R) Q ↔
    (if c = 6 then Q (some (.int 0)) (hm (md h ab be (nI n) (nI a) (nI b) r5 r6 dg) R) else
      if (it2 X n b 0 5 1 30).1 = true then Q (some (.int 1)) (hm (md h ab be (nI n) (nI (it2 X n b 0 5 1 30).2.2.2.1) (nI (it2 X n b 0 5 1 30).2.2.2.2) (nI (c + 1)) r6 dg) (if ¬ dg = 0 then rwG R (it2 X n b 0 5 1 30).2.1 (it2 X n b 0 5 1 30).2.2.1 c else R))
      else Q (some (.int 0)) (hm (md h ab be (nI n) (nI (it2 X n b 0 5 1 30).2.2.2.1) (nI (it2 X n b 0 5 1 30).2.2.2.2) r5 r6 dg) R)) := by
  subst hr
  have e1 : ∀ z z2 r5 r6, (md h ab be (nI n) z z2 r5 r6 dg).2.2 58 = MO ab be (nI n) z z2 r5 r6 dg := fun _ _ _ _ => rfl
  have ho : ∀ z z2 r5 r6 R, isO ((hm (md h ab be (nI n) z z2 r5 r6 dg) R).2.2 58) 7 := fun z z2 r5 r6 R => md_mo.o
  have he := tkE_le (X := X) hb
  have hx := ho (nI a) (nI b) (nI c) r6 R
  have hy := ho (nI (tkA X n b)) (nI (tkE X n b)) (nI c) r6 R
  have hz := ho (nI (tkA X n (tkE X n b))) (nI (tkE X n (tkE X n b))) (nI c) r6 R
  have hw := ho (nI (tkA X n (tkE X n b))) (nI (tkE X n (tkE X n b))) (nI (c + 1)) r6 R
  by_cases q6 : c = 6
  · rw [if_pos q6]
    subst q6
    simp (disch := first | assumption | omega | decide) only [t146_0, t146_1, t146_4, t146_6, t146_9, t146_10, t146_11, t146_12, t146_13, t146_14, t146_17, t146_18, t146_19, t146_20, t146_23, t146_24, t146_27, t146_28, t146_29, t146_31, t146_34, t146_35, t146_36, t146_37, t146_40, t146_41, t146_42, t146_43, t146_44, t146_47, t146_48, t146_49, t146_52, t146_53, t146_56, t146_59, t146_60, t146_61, t146_62, t146_65, t146_66, hm_58, hm_59, hm_up, e1, MO, gF_7_0, gF_7_1, gF_7_2, gF_7_3, gF_7_4, gF_7_5, gF_7_6, gF_7_7, aS_n, aS_l, aL_n, aL_l, ln_add, nl_add, ln_mul, nl_mul, nI_add, nI_1, i32_nl, ite_not, lt_nn, lt_nl, lt_ln, eq_nn, eq_nl, eq_ln, if_true, if_false, kil_i, kil_r, kil_l, kil_u, rl_s, rl_n, Nat.zero_add, Nat.lt_irrefl, not_true_eq_false, not_false_eq_true, true_and, dp_1, dp_2, dp_3, dp_4, dp_5, dp_6, dp_7, dp_8, dp_9, dp_10, dp_11, dp_12, dp_13, dp_14, dp_15, dp_16, dp_17, dp_18, dp_19, dp_20, dp_21, dp_22, dp_23, dp_24, dp_25, dp_26, dp_27, dp_28, dp_29, dp_30, dp_31, dp_32, dp_33, dp_34, dp_35, dp_36, dp_37, dp_38, dp_39, gF_7_8, gF_7_9, gF_7_10, gF_7_11, gF_7_12, nar_0]
  · rw [if_neg q6]
    unfold it2 it1
    simp only []
    generalize hv : nmR X n (tkA X n b) (tkE X n b) 0 5 = v
    generalize hv2 : nmR X n (tkA X n (tkE X n b)) (tkE X n (tkE X n b)) 1 30 = v2
    by_cases q : v = -1
    · simp (disch := first | assumption | omega | decide) only [t146_0, t146_1, t146_4, t146_6, t146_9, t146_10, t146_11, t146_12, t146_13, t146_14, t146_17, t146_18, t146_19, t146_20, t146_23, t146_24, t146_27, t146_28, t146_29, t146_31, t146_34, t146_35, t146_36, t146_37, t146_40, t146_41, t146_42, t146_43, t146_44, t146_47, t146_48, t146_49, t146_52, t146_53, t146_56, t146_59, t146_60, t146_61, t146_62, t146_65, t146_66, hm_58, hm_59, hm_up, e1, MO, gF_7_0, gF_7_1, gF_7_2, gF_7_3, gF_7_4, gF_7_5, gF_7_6, gF_7_7, aS_n, aS_l, aL_n, aL_l, ln_add, nl_add, ln_mul, nl_mul, nI_add, nI_1, i32_nl, ite_not, lt_nn, lt_nl, lt_ln, eq_nn, eq_nl, eq_ln, if_true, if_false, kil_i, kil_r, kil_l, kil_u, rl_s, rl_n, Nat.zero_add, Nat.lt_irrefl, not_true_eq_false, not_false_eq_true, true_and, dp_1, dp_2, dp_3, dp_4, dp_5, dp_6, dp_7, dp_8, dp_9, dp_10, dp_11, dp_12, dp_13, dp_14, dp_15, dp_16, dp_17, dp_18, dp_19, dp_20, dp_21, dp_22, dp_23, dp_24, dp_25, dp_26, dp_27, dp_28, dp_29, dp_30, dp_31, dp_32, dp_33, dp_34, dp_35, dp_36, dp_37, dp_38, dp_39, gF_7_8, gF_7_9, gF_7_10, gF_7_11, gF_7_12, E_number eX hn hb, hv, q, q6, decide_false, Bool.false_eq_true, nar_0]
    · by_cases q2 : v2 = -1
      · simp (disch := first | assumption | omega | decide) only [t146_0, t146_1, t146_4, t146_6, t146_9, t146_10, t146_11, t146_12, t146_13, t146_14, t146_17, t146_18, t146_19, t146_20, t146_23, t146_24, t146_27, t146_28, t146_29, t146_31, t146_34, t146_35, t146_36, t146_37, t146_40, t146_41, t146_42, t146_43, t146_44, t146_47, t146_48, t146_49, t146_52, t146_53, t146_56, t146_59, t146_60, t146_61, t146_62, t146_65, t146_66, hm_58, hm_59, hm_up, e1, MO, gF_7_0, gF_7_1, gF_7_2, gF_7_3, gF_7_4, gF_7_5, gF_7_6, gF_7_7, aS_n, aS_l, aL_n, aL_l, ln_add, nl_add, ln_mul, nl_mul, nI_add, nI_1, i32_nl, ite_not, lt_nn, lt_nl, lt_ln, eq_nn, eq_nl, eq_ln, if_true, if_false, kil_i, kil_r, kil_l, kil_u, rl_s, rl_n, Nat.zero_add, Nat.lt_irrefl, not_true_eq_false, not_false_eq_true, true_and, dp_1, dp_2, dp_3, dp_4, dp_5, dp_6, dp_7, dp_8, dp_9, dp_10, dp_11, dp_12, dp_13, dp_14, dp_15, dp_16, dp_17, dp_18, dp_19, dp_20, dp_21, dp_22, dp_23, dp_24, dp_25, dp_26, dp_27, dp_28, dp_29, dp_30, dp_31, dp_32, dp_33, dp_34, dp_35, dp_36, dp_37, dp_38, dp_39, gF_7_8, gF_7_9, gF_7_10, gF_7_11, gF_7_12, E_number eX hn hb, E_number eX hn he, hv, hv2, q, q2, q6, decide_false, decide_true, Bool.false_eq_true, nar_0]
      · by_cases qd : dg = 0
        · subst qd
          simp (disch := first | assumption | omega | decide) only [t146_0, t146_1, t146_4, t146_6, t146_9, t146_10, t146_11, t146_12, t146_13, t146_14, t146_17, t146_18, t146_19, t146_20, t146_23, t146_24, t146_27, t146_28, t146_29, t146_31, t146_34, t146_35, t146_36, t146_37, t146_40, t146_41, t146_42, t146_43, t146_44, t146_47, t146_48, t146_49, t146_52, t146_53, t146_56, t146_59, t146_60, t146_61, t146_62, t146_65, t146_66, hm_58, hm_59, hm_up, e1, MO, gF_7_0, gF_7_1, gF_7_2, gF_7_3, gF_7_4, gF_7_5, gF_7_6, gF_7_7, aS_n, aS_l, aL_n, aL_l, ln_add, nl_add, ln_mul, nl_mul, nI_add, nI_1, i32_nl, ite_not, lt_nn, lt_nl, lt_ln, eq_nn, eq_nl, eq_ln, if_true, if_false, kil_i, kil_r, kil_l, kil_u, rl_s, rl_n, Nat.zero_add, Nat.lt_irrefl, not_true_eq_false, not_false_eq_true, true_and, dp_1, dp_2, dp_3, dp_4, dp_5, dp_6, dp_7, dp_8, dp_9, dp_10, dp_11, dp_12, dp_13, dp_14, dp_15, dp_16, dp_17, dp_18, dp_19, dp_20, dp_21, dp_22, dp_23, dp_24, dp_25, dp_26, dp_27, dp_28, dp_29, dp_30, dp_31, dp_32, dp_33, dp_34, dp_35, dp_36, dp_37, dp_38, dp_39, gF_7_8, gF_7_9, gF_7_10, gF_7_11, gF_7_12, pF_7_10, pF_7_11, md_up, E_number eX hn hb, E_number eX hn he, hv, hv2, q, q2, q6, decide_false, decide_true, Bool.false_eq_true, nar_1]
        · have hR := hR qd
          simp (disch := first | assumption | omega | decide) only [t146_0, t146_1, t146_4, t146_6, t146_9, t146_10, t146_11, t146_12, t146_13, t146_14, t146_17, t146_18, t146_19, t146_20, t146_23, t146_24, t146_27, t146_28, t146_29, t146_31, t146_34, t146_35, t146_36, t146_37, t146_40, t146_41, t146_42, t146_43, t146_44, t146_47, t146_48, t146_49, t146_52, t146_53, t146_56, t146_59, t146_60, t146_61, t146_62, t146_65, t146_66, hm_58, hm_59, hm_up, e1, MO, gF_7_0, gF_7_1, gF_7_2, gF_7_3, gF_7_4, gF_7_5, gF_7_6, gF_7_7, aS_n, aS_l, aL_n, aL_l, ln_add, nl_add, ln_mul, nl_mul, nI_add, nI_1, i32_nl, ite_not, lt_nn, lt_nl, lt_ln, eq_nn, eq_nl, eq_ln, if_true, if_false, kil_i, kil_r, kil_l, kil_u, rl_s, rl_n, Nat.zero_add, Nat.lt_irrefl, not_true_eq_false, not_false_eq_true, true_and, dp_1, dp_2, dp_3, dp_4, dp_5, dp_6, dp_7, dp_8, dp_9, dp_10, dp_11, dp_12, dp_13, dp_14, dp_15, dp_16, dp_17, dp_18, dp_19, dp_20, dp_21, dp_22, dp_23, dp_24, dp_25, dp_26, dp_27, dp_28, dp_29, dp_30, dp_31, dp_32, dp_33, dp_34, dp_35, dp_36, dp_37, dp_38, dp_39, gF_7_8, gF_7_9, gF_7_10, gF_7_11, gF_7_12, pF_7_10, pF_7_11, md_up, E_number eX hn hb, E_number eX hn he, hv, hv2, q, q2, q6, qd, decide_false, decide_true, Bool.false_eq_true, nar_1, E_addGuest md_mo hR (show c < 6 by omega)]
theorem E_readsHouse {b a c : Nat} {r5 r6 dg : Int32} (eX : h.2.2 62 = oI 150 X) (hn : n ≤ 150) (hb : b ≤ n) (hr : r6 = nI c) (hc : c ≤ 4) (hR : ¬ dg = 0 → R 25 = nI c) : T (d + 4) 147 0 [.ref 58, un, un] [] (hm (md h ab be (nI n) (nI a) (nI b) r5 r6 dg) R) Q ↔
    (if c = 4 then Q (some (.int 0)) (hm (md h ab be (nI n) (nI a) (nI b) r5 r6 dg) R) else
      if (it2 X n b 0 5 1 30).1 = true then Q (some (.int 1)) (hm (md h ab be (nI n) (nI (it2 X n b 0 5 1 30).2.2.2.1) (nI (it2 X n b 0 5 1 30).2.2.2.2) r5 (nI (c + 1)) dg) (if ¬ dg = 0 then rwH R (it2 X n b 0 5 1 30).2.1 (it2 X n b 0 5 1 30).2.2.1 c else R))
      else Q (some (.int 0)) (hm (md h ab be (nI n) (nI (it2 X n b 0 5 1 30).2.2.2.1) (nI (it2 X n b 0 5 1 30).2.2.2.2) r5 r6 dg) R)) := by
  subst hr
  have e1 : ∀ z z2 r5 r6, (md h ab be (nI n) z z2 r5 r6 dg).2.2 58 = MO ab be (nI n) z z2 r5 r6 dg := fun _ _ _ _ => rfl
  have ho : ∀ z z2 r5 r6 R, isO ((hm (md h ab be (nI n) z z2 r5 r6 dg) R).2.2 58) 7 := fun z z2 r5 r6 R => md_mo.o
  have he := tkE_le (X := X) hb
  have hx := ho (nI a) (nI b) r5 (nI c) R
  have hy := ho (nI (tkA X n b)) (nI (tkE X n b)) r5 (nI c) R
  have hz := ho (nI (tkA X n (tkE X n b))) (nI (tkE X n (tkE X n b))) r5 (nI c) R
  have hw := ho (nI (tkA X n (tkE X n b))) (nI (tkE X n (tkE X n b))) r5 (nI (c + 1)) R
  by_cases q6 : c = 4
  · rw [if_pos q6]
    subst q6
    simp (disch := first | assumption | omega | decide) only [t147_0, t147_1, t147_4, t147_5, t147_8, t147_9, t147_10, t147_11, t147_12, t147_13, t147_16, t147_17, t147_18, t147_19, t147_22, t147_23, t147_26, t147_27, t147_28, t147_30, t147_33, t147_34, t147_35, t147_36, t147_39, t147_40, t147_41, t147_42, t147_43, t147_46, t147_47, t147_48, t147_51, t147_52, t147_55, t147_58, t147_59, t147_60, t147_61, t147_64, t147_65, hm_58, hm_59, hm_up, e1, MO, gF_7_0, gF_7_1, gF_7_2, gF_7_3, gF_7_4, gF_7_5, gF_7_6, gF_7_7, aS_n, aS_l, aL_n, aL_l, ln_add, nl_add, ln_mul, nl_mul, nI_add, nI_1, i32_nl, ite_not, lt_nn, lt_nl, lt_ln, eq_nn, eq_nl, eq_ln, if_true, if_false, kil_i, kil_r, kil_l, kil_u, rl_s, rl_n, Nat.zero_add, Nat.lt_irrefl, not_true_eq_false, not_false_eq_true, true_and, dp_1, dp_2, dp_3, dp_4, dp_5, dp_6, dp_7, dp_8, dp_9, dp_10, dp_11, dp_12, dp_13, dp_14, dp_15, dp_16, dp_17, dp_18, dp_19, dp_20, dp_21, dp_22, dp_23, dp_24, dp_25, dp_26, dp_27, dp_28, dp_29, dp_30, dp_31, dp_32, dp_33, dp_34, dp_35, dp_36, dp_37, dp_38, dp_39, gF_7_8, gF_7_9, gF_7_10, gF_7_11, gF_7_12, nar_0]
  · rw [if_neg q6]
    unfold it2 it1
    simp only []
    generalize hv : nmR X n (tkA X n b) (tkE X n b) 0 5 = v
    generalize hv2 : nmR X n (tkA X n (tkE X n b)) (tkE X n (tkE X n b)) 1 30 = v2
    by_cases q : v = -1
    · simp (disch := first | assumption | omega | decide) only [t147_0, t147_1, t147_4, t147_5, t147_8, t147_9, t147_10, t147_11, t147_12, t147_13, t147_16, t147_17, t147_18, t147_19, t147_22, t147_23, t147_26, t147_27, t147_28, t147_30, t147_33, t147_34, t147_35, t147_36, t147_39, t147_40, t147_41, t147_42, t147_43, t147_46, t147_47, t147_48, t147_51, t147_52, t147_55, t147_58, t147_59, t147_60, t147_61, t147_64, t147_65, hm_58, hm_59, hm_up, e1, MO, gF_7_0, gF_7_1, gF_7_2, gF_7_3, gF_7_4, gF_7_5, gF_7_6, gF_7_7, aS_n, aS_l, aL_n, aL_l, ln_add, nl_add, ln_mul, nl_mul, nI_add, nI_1, i32_nl, ite_not, lt_nn, lt_nl, lt_ln, eq_nn, eq_nl, eq_ln, if_true, if_false, kil_i, kil_r, kil_l, kil_u, rl_s, rl_n, Nat.zero_add, Nat.lt_irrefl, not_true_eq_false, not_false_eq_true, true_and, dp_1, dp_2, dp_3, dp_4, dp_5, dp_6, dp_7, dp_8, dp_9, dp_10, dp_11, dp_12, dp_13, dp_14, dp_15, dp_16, dp_17, dp_18, dp_19, dp_20, dp_21, dp_22, dp_23, dp_24, dp_25, dp_26, dp_27, dp_28, dp_29, dp_30, dp_31, dp_32, dp_33, dp_34, dp_35, dp_36, dp_37, dp_38, dp_39, gF_7_8, gF_7_9, gF_7_10, gF_7_11, gF_7_12, E_number eX hn hb, hv, q, q6, decide_false, Bool.false_eq_true, nar_0]
    · by_cases q2 : v2 = -1
      · simp (disch := first | assumption | omega | decide) only [t147_0, t147_1, t147_4, t147_5, t147_8, t147_9, t147_10, t147_11, t147_12, t147_13, t147_16, t147_17, t147_18, t147_19, t147_22, t147_23, t147_26, t147_27, t147_28, t147_30, t147_33, t147_34, t147_35, t147_36, t147_39, t147_40, t147_41, t147_42, t147_43, t147_46, t147_47, t147_48, t147_51, t147_52, t147_55, t147_58, t147_59, t147_60, t147_61, t147_64, t147_65, hm_58, hm_59, hm_up, e1, MO, gF_7_0, gF_7_1, gF_7_2, gF_7_3, gF_7_4, gF_7_5, gF_7_6, gF_7_7, aS_n, aS_l, aL_n, aL_l, ln_add, nl_add, ln_mul, nl_mul, nI_add, nI_1, i32_nl, ite_not, lt_nn, lt_nl, lt_ln, eq_nn, eq_nl, eq_ln, if_true, if_false, kil_i, kil_r, kil_l, kil_u, rl_s, rl_n, Nat.zero_add, Nat.lt_irrefl, not_true_eq_false, not_false_eq_true, true_and, dp_1, dp_2, dp_3, dp_4, dp_5, dp_6, dp_7, dp_8, dp_9, dp_10, dp_11, dp_12, dp_13, dp_14, dp_15, dp_16, dp_17, dp_18, dp_19, dp_20, dp_21, dp_22, dp_23, dp_24, dp_25, dp_26, dp_27, dp_28, dp_29, dp_30, dp_31, dp_32, dp_33, dp_34, dp_35, dp_36, dp_37, dp_38, dp_39, gF_7_8, gF_7_9, gF_7_10, gF_7_11, gF_7_12, E_number eX hn hb, E_number eX hn he, hv, hv2, q, q2, q6, decide_false, decide_true, Bool.false_eq_true, nar_0]
      · by_cases qd : dg = 0
        · subst qd
          simp (disch := first | assumption | omega | decide) only [t147_0, t147_1, t147_4, t147_5, t147_8, t147_9, t147_10, t147_11, t147_12, t147_13, t147_16, t147_17, t147_18, t147_19, t147_22, t147_23, t147_26, t147_27, t147_28, t147_30, t147_33, t147_34, t147_35, t147_36, t147_39, t147_40, t147_41, t147_42, t147_43, t147_46, t147_47, t147_48, t147_51, t147_52, t147_55, t147_58, t147_59, t147_60, t147_61, t147_64, t147_65, hm_58, hm_59, hm_up, e1, MO, gF_7_0, gF_7_1, gF_7_2, gF_7_3, gF_7_4, gF_7_5, gF_7_6, gF_7_7, aS_n, aS_l, aL_n, aL_l, ln_add, nl_add, ln_mul, nl_mul, nI_add, nI_1, i32_nl, ite_not, lt_nn, lt_nl, lt_ln, eq_nn, eq_nl, eq_ln, if_true, if_false, kil_i, kil_r, kil_l, kil_u, rl_s, rl_n, Nat.zero_add, Nat.lt_irrefl, not_true_eq_false, not_false_eq_true, true_and, dp_1, dp_2, dp_3, dp_4, dp_5, dp_6, dp_7, dp_8, dp_9, dp_10, dp_11, dp_12, dp_13, dp_14, dp_15, dp_16, dp_17, dp_18, dp_19, dp_20, dp_21, dp_22, dp_23, dp_24, dp_25, dp_26, dp_27, dp_28, dp_29, dp_30, dp_31, dp_32, dp_33, dp_34, dp_35, dp_36, dp_37, dp_38, dp_39, gF_7_8, gF_7_9, gF_7_10, gF_7_11, gF_7_12, pF_7_10, pF_7_11, md_up, E_number eX hn hb, E_number eX hn he, hv, hv2, q, q2, q6, decide_false, decide_true, Bool.false_eq_true, nar_1]
        · have hR := hR qd
          simp (disch := first | assumption | omega | decide) only [t147_0, t147_1, t147_4, t147_5, t147_8, t147_9, t147_10, t147_11, t147_12, t147_13, t147_16, t147_17, t147_18, t147_19, t147_22, t147_23, t147_26, t147_27, t147_28, t147_30, t147_33, t147_34, t147_35, t147_36, t147_39, t147_40, t147_41, t147_42, t147_43, t147_46, t147_47, t147_48, t147_51, t147_52, t147_55, t147_58, t147_59, t147_60, t147_61, t147_64, t147_65, hm_58, hm_59, hm_up, e1, MO, gF_7_0, gF_7_1, gF_7_2, gF_7_3, gF_7_4, gF_7_5, gF_7_6, gF_7_7, aS_n, aS_l, aL_n, aL_l, ln_add, nl_add, ln_mul, nl_mul, nI_add, nI_1, i32_nl, ite_not, lt_nn, lt_nl, lt_ln, eq_nn, eq_nl, eq_ln, if_true, if_false, kil_i, kil_r, kil_l, kil_u, rl_s, rl_n, Nat.zero_add, Nat.lt_irrefl, not_true_eq_false, not_false_eq_true, true_and, dp_1, dp_2, dp_3, dp_4, dp_5, dp_6, dp_7, dp_8, dp_9, dp_10, dp_11, dp_12, dp_13, dp_14, dp_15, dp_16, dp_17, dp_18, dp_19, dp_20, dp_21, dp_22, dp_23, dp_24, dp_25, dp_26, dp_27, dp_28, dp_29, dp_30, dp_31, dp_32, dp_33, dp_34, dp_35, dp_36, dp_37, dp_38, dp_39, gF_7_8, gF_7_9, gF_7_10, gF_7_11, gF_7_12, pF_7_10, pF_7_11, md_up, E_number eX hn hb, E_number eX hn he, hv, hv2, q, q2, q6, qd, decide_false, decide_true, Bool.false_eq_true, nar_1, E_addHouse md_mo hR (show c < 4 by omega)]
end PL
