/-! the reference's public calls: read: the tokens -/
def isLt (X : Nat → Int32) (n k : Nat) : Bool := decide (k < n) && rg (X k) 97 122
def isFg (X : Nat → Int32) (n k : Nat) : Bool := decide (k < n) && rg (X k) 48 57
def skp (X : Nat → Int32) (n : Nat) : Nat → Nat → Nat
  | 0, b => b
  | f + 1, b => if b < n ∧ X b = 32 then skp X n f (b + 1) else b
def ext (c : Nat → Bool) : Nat → Nat → Nat
  | 0, e => e
  | f + 1, e => if c e = true then ext c f (e + 1) else e
def tkA (X : Nat → Int32) (n b : Nat) : Nat := skp X n (n + 1) b
def tkE (X : Nat → Int32) (n b : Nat) : Nat :=
  let a := tkA X n b
  let e0 := if a < n then a + 1 else a
  let e1 := if isLt X n a = true then ext (isLt X n) (n + 1) e0 else e0
  if isFg X n a = true then ext (isFg X n) (n + 1) e1 else e1
def md (h : Hp) (ab be : Int64) (ln pa pb r5 r6 dg : Int32) : Hp := hup h 58 (MO ab be ln pa pb r5 r6 dg)
theorem md_58 {h : Hp} {ab be : Int64} {ln pa pb r5 r6 dg : Int32} : (md h ab be ln pa pb r5 r6 dg).2.2 58 = MO ab be ln pa pb r5 r6 dg := rfl
theorem md_62 {h : Hp} {R : Nat → Int32} {ab be : Int64} {ln pa pb r5 r6 dg : Int32} : (hm (md h ab be ln pa pb r5 r6 dg) R).2.2 62 = h.2.2 62 := rfl
theorem md_63 {h : Hp} {R : Nat → Int32} {ab be : Int64} {ln pa pb r5 r6 dg : Int32} : (hm (md h ab be ln pa pb r5 r6 dg) R).2.2 63 = h.2.2 63 := rfl
theorem md_up {h : Hp} {R : Nat → Int32} {ab be ab2 be2 : Int64} {ln pa pb r5 r6 dg ln2 pa2 pb2 r52 r62 dg2 : Int32} : hup (hm (md h ab be ln pa pb r5 r6 dg) R) 58 (oO 7 [.ref 59, .ref 60, .ref 61, .long ab2, .long be2, .ref 62, .int ln2, .ref 63, .int pa2, .int pb2, .int r52, .int r62, .int dg2, .ref 64, .ref 65, .ref 66, .ref 67, .ref 68]) = hm (md h ab2 be2 ln2 pa2 pb2 r52 r62 dg2) R := by
  unfold hm md
  rw [hup_sw (by decide : (59 : Nat) ≠ 58), hup_same]
  rfl
theorem md_mo {h : Hp} {ab be : Int64} {ln pa pb r5 r6 dg : Int32} : isMO (md h ab be ln pa pb r5 r6 dg) := ⟨_, _, _, _, _, _, _, _, rfl⟩
section PJ
variable {d : Nat} {h : Hp} {Q : Pst} {R X : Nat → Int32} {ab be : Int64} {n : Nat}
theorem E_isLetter {k : Nat} {pa pb r5 r6 dg : Int32} (eX : h.2.2 62 = oI 150 X) (hn : n ≤ 150) (hk : k < 2 ^ 20) : T (d + 1) 139 0 [.ref 58, .int (nI k)] [] (hm (md h ab be (nI n) pa pb r5 r6 dg) R) Q ↔ Q (some (.int (zI (isLt X n k)))) (hm (md h ab be (nI n) pa pb r5 r6 dg) R) := by
  have e1 : (md h ab be (nI n) pa pb r5 r6 dg).2.2 58 = MO ab be (nI n) pa pb r5 r6 dg := rfl
  unfold isLt
  by_cases q : k < n
  · by_cases q2 : rg (X k) 97 122 = true <;> simp (disch := first | assumption | omega | decide) only [t139_0, t139_1, t139_2, t139_5, t139_8, t139_9, t139_12, t139_13, t139_14, t139_16, t139_18, t139_21, t139_24, t139_25, t139_28, t139_29, hm_58, hm_59, hm_up, e1, MO, gF_7_0, gF_7_1, gF_7_2, gF_7_3, gF_7_4, gF_7_5, gF_7_6, gF_7_7, aS_n, aS_l, aL_n, aL_l, ln_add, nl_add, ln_mul, nl_mul, nI_add, nI_1, i32_nl, ite_not, lt_nn, lt_nl, lt_ln, eq_nn, eq_nl, eq_ln, if_true, if_false, kil_i, kil_r, kil_l, kil_u, rl_s, rl_n, Nat.zero_add, Nat.lt_irrefl, not_true_eq_false, not_false_eq_true, true_and, dp_1, dp_2, dp_3, dp_4, dp_5, dp_6, dp_7, dp_8, dp_9, dp_10, dp_11, dp_12, dp_13, dp_14, dp_15, dp_16, dp_17, dp_18, dp_19, dp_20, dp_21, dp_22, dp_23, dp_24, dp_25, dp_26, dp_27, dp_28, dp_29, dp_30, dp_31, dp_32, dp_33, dp_34, dp_35, dp_36, dp_37, dp_38, dp_39, gF_7_8, gF_7_9, gF_7_10, gF_7_11, gF_7_12, q, q2, md_62, eX, E_inL, zb_0, decide_true, Bool.and_self, Bool.true_and, Bool.and_false, zI, nar_0, nar_1, Bool.false_eq_true]
  · simp (disch := first | assumption | omega | decide) only [t139_0, t139_1, t139_2, t139_5, t139_8, t139_9, t139_12, t139_13, t139_14, t139_16, t139_18, t139_21, t139_24, t139_25, t139_28, t139_29, hm_58, hm_59, hm_up, e1, MO, gF_7_0, gF_7_1, gF_7_2, gF_7_3, gF_7_4, gF_7_5, gF_7_6, gF_7_7, aS_n, aS_l, aL_n, aL_l, ln_add, nl_add, ln_mul, nl_mul, nI_add, nI_1, i32_nl, ite_not, lt_nn, lt_nl, lt_ln, eq_nn, eq_nl, eq_ln, if_true, if_false, kil_i, kil_r, kil_l, kil_u, rl_s, rl_n, Nat.zero_add, Nat.lt_irrefl, not_true_eq_false, not_false_eq_true, true_and, dp_1, dp_2, dp_3, dp_4, dp_5, dp_6, dp_7, dp_8, dp_9, dp_10, dp_11, dp_12, dp_13, dp_14, dp_15, dp_16, dp_17, dp_18, dp_19, dp_20, dp_21, dp_22, dp_23, dp_24, dp_25, dp_26, dp_27, dp_28, dp_29, dp_30, dp_31, dp_32, dp_33, dp_34, dp_35, dp_36, dp_37, dp_38, dp_39, gF_7_8, gF_7_9, gF_7_10, gF_7_11, gF_7_12, q, decide_false, Bool.false_and, zI, nar_0, Bool.false_eq_true]
theorem E_isFigure {k : Nat} {pa pb r5 r6 dg : Int32} (eX : h.2.2 62 = oI 150 X) (hn : n ≤ 150) (hk : k < 2 ^ 20) : T (d + 1) 140 0 [.ref 58, .int (nI k)] [] (hm (md h ab be (nI n) pa pb r5 r6 dg) R) Q ↔ Q (some (.int (zI (isFg X n k)))) (hm (md h ab be (nI n) pa pb r5 r6 dg) R) := by
  have e1 : (md h ab be (nI n) pa pb r5 r6 dg).2.2 58 = MO ab be (nI n) pa pb r5 r6 dg := rfl
  unfold isFg
  by_cases q : k < n
  · by_cases q2 : rg (X k) 48 57 = true <;> simp (disch := first | assumption | omega | decide) only [t140_0, t140_1, t140_2, t140_5, t140_8, t140_9, t140_12, t140_13, t140_14, t140_16, t140_18, t140_21, t140_24, t140_25, t140_28, t140_29, hm_58, hm_59, hm_up, e1, MO, gF_7_0, gF_7_1, gF_7_2, gF_7_3, gF_7_4, gF_7_5, gF_7_6, gF_7_7, aS_n, aS_l, aL_n, aL_l, ln_add, nl_add, ln_mul, nl_mul, nI_add, nI_1, i32_nl, ite_not, lt_nn, lt_nl, lt_ln, eq_nn, eq_nl, eq_ln, if_true, if_false, kil_i, kil_r, kil_l, kil_u, rl_s, rl_n, Nat.zero_add, Nat.lt_irrefl, not_true_eq_false, not_false_eq_true, true_and, dp_1, dp_2, dp_3, dp_4, dp_5, dp_6, dp_7, dp_8, dp_9, dp_10, dp_11, dp_12, dp_13, dp_14, dp_15, dp_16, dp_17, dp_18, dp_19, dp_20, dp_21, dp_22, dp_23, dp_24, dp_25, dp_26, dp_27, dp_28, dp_29, dp_30, dp_31, dp_32, dp_33, dp_34, dp_35, dp_36, dp_37, dp_38, dp_39, gF_7_8, gF_7_9, gF_7_10, gF_7_11, gF_7_12, q, q2, md_62, eX, E_inL, zb_0, decide_true, Bool.and_self, Bool.true_and, Bool.and_false, zI, nar_0, nar_1, Bool.false_eq_true]
  · simp (disch := first | assumption | omega | decide) only [t140_0, t140_1, t140_2, t140_5, t140_8, t140_9, t140_12, t140_13, t140_14, t140_16, t140_18, t140_21, t140_24, t140_25, t140_28, t140_29, hm_58, hm_59, hm_up, e1, MO, gF_7_0, gF_7_1, gF_7_2, gF_7_3, gF_7_4, gF_7_5, gF_7_6, gF_7_7, aS_n, aS_l, aL_n, aL_l, ln_add, nl_add, ln_mul, nl_mul, nI_add, nI_1, i32_nl, ite_not, lt_nn, lt_nl, lt_ln, eq_nn, eq_nl, eq_ln, if_true, if_false, kil_i, kil_r, kil_l, kil_u, rl_s, rl_n, Nat.zero_add, Nat.lt_irrefl, not_true_eq_false, not_false_eq_true, true_and, dp_1, dp_2, dp_3, dp_4, dp_5, dp_6, dp_7, dp_8, dp_9, dp_10, dp_11, dp_12, dp_13, dp_14, dp_15, dp_16, dp_17, dp_18, dp_19, dp_20, dp_21, dp_22, dp_23, dp_24, dp_25, dp_26, dp_27, dp_28, dp_29, dp_30, dp_31, dp_32, dp_33, dp_34, dp_35, dp_36, dp_37, dp_38, dp_39, gF_7_8, gF_7_9, gF_7_10, gF_7_11, gF_7_12, q, decide_false, Bool.false_and, zI, nar_0, Bool.false_eq_true]
theorem skp_le : ∀ f b, b ≤ n → skp X n f b ≤ n := by
  intro f
  induction f with
  | zero => intro b h; exact h
  | succ f ih => intro b h; unfold skp; split
                 · exact ih _ (by omega)
                 · exact h
theorem ext_le {c : Nat → Bool} (hc : ∀ k, c k = true → k < n) : ∀ f e, e ≤ n → ext c f e ≤ n := by
  intro f
  induction f with
  | zero => intro b h; exact h
  | succ f ih => intro b h; unfold ext; split
                 · rename_i q; exact ih _ (by have := hc b q; omega)
                 · exact h
theorem isLt_lt {k : Nat} (e : isLt X n k = true) : k < n := by
  unfold isLt at e; simp at e; exact e.1
theorem isFg_lt {k : Nat} (e : isFg X n k = true) : k < n := by
  unfold isFg at e; simp at e; exact e.1
theorem L_skip {pb r5 r6 dg : Int32} (eX : h.2.2 62 = oI 150 X) (hn : n ≤ 150) : ∀ f b, b ≤ n → n < b + f → (T (d + 2) 141 8 [.ref 58] [] (hm (md h ab be (nI n) (nI b) pb r5 r6 dg) R) Q ↔ T (d + 2) 141 46 [.ref 58] [] (hm (md h ab be (nI n) (nI (skp X n f b)) pb r5 r6 dg) R) Q) := by
  intro f
  induction f with
  | zero => intro b h1 h2; omega
  | succ f ih =>
    intro b h1 h2
    have e1 : ∀ z, (md h ab be (nI n) z pb r5 r6 dg).2.2 58 = MO ab be (nI n) z pb r5 r6 dg := fun _ => rfl
    unfold skp
    rw [t141_8]
    by_cases q : b < n
    · by_cases q2 : X b = 32
      · rw [if_pos ⟨q, q2⟩]
        simp (disch := first | assumption | omega | decide) only [t141_9, t141_12, t141_13, t141_16, t141_19, t141_20, t141_23, t141_24, t141_27, t141_28, t141_30, t141_33, t141_34, t141_35, t141_38, t141_39, t141_40, t141_43, hm_58, hm_59, hm_up, e1, MO, gF_7_0, gF_7_1, gF_7_2, gF_7_3, gF_7_4, gF_7_5, gF_7_6, gF_7_7, aS_n, aS_l, aL_n, aL_l, ln_add, nl_add, ln_mul, nl_mul, nI_add, nI_1, i32_nl, ite_not, lt_nn, lt_nl, lt_ln, eq_nn, eq_nl, eq_ln, if_true, if_false, kil_i, kil_r, kil_l, kil_u, rl_s, rl_n, Nat.zero_add, Nat.lt_irrefl, not_true_eq_false, not_false_eq_true, true_and, dp_1, dp_2, dp_3, dp_4, dp_5, dp_6, dp_7, dp_8, dp_9, dp_10, dp_11, dp_12, dp_13, dp_14, dp_15, dp_16, dp_17, dp_18, dp_19, dp_20, dp_21, dp_22, dp_23, dp_24, dp_25, dp_26, dp_27, dp_28, dp_29, dp_30, dp_31, dp_32, dp_33, dp_34, dp_35, dp_36, dp_37, dp_38, dp_39, gF_7_8, gF_7_9, gF_7_10, gF_7_11, gF_7_12, q, q2, md_62, eX, pF_7_8, md_up]
        exact ih (b + 1) (by omega) (by omega)
      · rw [if_neg (fun z => q2 z.2)]
        simp (disch := first | assumption | omega | decide) only [t141_9, t141_12, t141_13, t141_16, t141_19, t141_20, t141_23, t141_24, t141_27, t141_28, t141_30, hm_58, hm_59, hm_up, e1, MO, gF_7_0, gF_7_1, gF_7_2, gF_7_3, gF_7_4, gF_7_5, gF_7_6, gF_7_7, aS_n, aS_l, aL_n, aL_l, ln_add, nl_add, ln_mul, nl_mul, nI_add, nI_1, i32_nl, ite_not, lt_nn, lt_nl, lt_ln, eq_nn, eq_nl, eq_ln, if_true, if_false, kil_i, kil_r, kil_l, kil_u, rl_s, rl_n, Nat.zero_add, Nat.lt_irrefl, not_true_eq_false, not_false_eq_true, true_and, dp_1, dp_2, dp_3, dp_4, dp_5, dp_6, dp_7, dp_8, dp_9, dp_10, dp_11, dp_12, dp_13, dp_14, dp_15, dp_16, dp_17, dp_18, dp_19, dp_20, dp_21, dp_22, dp_23, dp_24, dp_25, dp_26, dp_27, dp_28, dp_29, dp_30, dp_31, dp_32, dp_33, dp_34, dp_35, dp_36, dp_37, dp_38, dp_39, gF_7_8, gF_7_9, gF_7_10, gF_7_11, gF_7_12, q, q2, md_62, eX]
    · rw [if_neg (fun z => q z.1)]
      simp (disch := first | assumption | omega | decide) only [t141_9, t141_12, t141_13, t141_16, hm_58, hm_59, hm_up, e1, MO, gF_7_0, gF_7_1, gF_7_2, gF_7_3, gF_7_4, gF_7_5, gF_7_6, gF_7_7, aS_n, aS_l, aL_n, aL_l, ln_add, nl_add, ln_mul, nl_mul, nI_add, nI_1, i32_nl, ite_not, lt_nn, lt_nl, lt_ln, eq_nn, eq_nl, eq_ln, if_true, if_false, kil_i, kil_r, kil_l, kil_u, rl_s, rl_n, Nat.zero_add, Nat.lt_irrefl, not_true_eq_false, not_false_eq_true, true_and, dp_1, dp_2, dp_3, dp_4, dp_5, dp_6, dp_7, dp_8, dp_9, dp_10, dp_11, dp_12, dp_13, dp_14, dp_15, dp_16, dp_17, dp_18, dp_19, dp_20, dp_21, dp_22, dp_23, dp_24, dp_25, dp_26, dp_27, dp_28, dp_29, dp_30, dp_31, dp_32, dp_33, dp_34, dp_35, dp_36, dp_37, dp_38, dp_39, gF_7_8, gF_7_9, gF_7_10, gF_7_11, gF_7_12, q]
theorem L_ext1 {a : Nat} {r5 r6 dg : Int32} (eX : h.2.2 62 = oI 150 X) (hn : n ≤ 150) (ha : a ≤ n) (la : isLt X n a = true) : ∀ f e, e ≤ n → n < e + f → (T (d + 2) 141 74 [.ref 58] [] (hm (md h ab be (nI n) (nI a) (nI e) r5 r6 dg) R) Q ↔ T (d + 2) 141 109 [.ref 58] [] (hm (md h ab be (nI n) (nI a) (nI (ext (isLt X n) f e)) r5 r6 dg) R) Q) := by
  intro f
  induction f with
  | zero => intro b h1 h2; omega
  | succ f ih =>
    intro e h1 h2
    have e1 : ∀ z, (md h ab be (nI n) (nI a) z r5 r6 dg).2.2 58 = MO ab be (nI n) (nI a) z r5 r6 dg := fun _ => rfl
    have ho : ∀ z, isO ((hm (md h ab be (nI n) (nI a) z r5 r6 dg) R).2.2 58) 7 := fun z => md_mo.o
    have hoz := ho (nI e)
    unfold ext
    rw [t141_74]
    by_cases q : isLt X n e = true
    · rw [if_pos q]
      simp (disch := first | assumption | omega | decide) only [t141_75, t141_76, t141_79, t141_82, t141_85, t141_86, t141_87, t141_90, t141_93, t141_96, t141_97, t141_98, t141_101, t141_102, t141_103, t141_106, hm_58, hm_59, hm_up, e1, MO, gF_7_0, gF_7_1, gF_7_2, gF_7_3, gF_7_4, gF_7_5, gF_7_6, gF_7_7, aS_n, aS_l, aL_n, aL_l, ln_add, nl_add, ln_mul, nl_mul, nI_add, nI_1, i32_nl, ite_not, lt_nn, lt_nl, lt_ln, eq_nn, eq_nl, eq_ln, if_true, if_false, kil_i, kil_r, kil_l, kil_u, rl_s, rl_n, Nat.zero_add, Nat.lt_irrefl, not_true_eq_false, not_false_eq_true, true_and, dp_1, dp_2, dp_3, dp_4, dp_5, dp_6, dp_7, dp_8, dp_9, dp_10, dp_11, dp_12, dp_13, dp_14, dp_15, dp_16, dp_17, dp_18, dp_19, dp_20, dp_21, dp_22, dp_23, dp_24, dp_25, dp_26, dp_27, dp_28, dp_29, dp_30, dp_31, dp_32, dp_33, dp_34, dp_35, dp_36, dp_37, dp_38, dp_39, gF_7_8, gF_7_9, gF_7_10, gF_7_11, gF_7_12, E_isLetter eX hn (show a < 2 ^ 20 by omega), E_isLetter eX hn (show e < 2 ^ 20 by omega), zI_0, q, la, pF_7_9, md_up]
      exact ih (e + 1) (by have := isLt_lt q; omega) (by omega)
    · rw [if_neg q]
      simp (disch := first | assumption | omega | decide) only [t141_75, t141_76, t141_79, t141_82, t141_85, t141_86, t141_87, t141_90, t141_93, hm_58, hm_59, hm_up, e1, MO, gF_7_0, gF_7_1, gF_7_2, gF_7_3, gF_7_4, gF_7_5, gF_7_6, gF_7_7, aS_n, aS_l, aL_n, aL_l, ln_add, nl_add, ln_mul, nl_mul, nI_add, nI_1, i32_nl, ite_not, lt_nn, lt_nl, lt_ln, eq_nn, eq_nl, eq_ln, if_true, if_false, kil_i, kil_r, kil_l, kil_u, rl_s, rl_n, Nat.zero_add, Nat.lt_irrefl, not_true_eq_false, not_false_eq_true, true_and, dp_1, dp_2, dp_3, dp_4, dp_5, dp_6, dp_7, dp_8, dp_9, dp_10, dp_11, dp_12, dp_13, dp_14, dp_15, dp_16, dp_17, dp_18, dp_19, dp_20, dp_21, dp_22, dp_23, dp_24, dp_25, dp_26, dp_27, dp_28, dp_29, dp_30, dp_31, dp_32, dp_33, dp_34, dp_35, dp_36, dp_37, dp_38, dp_39, gF_7_8, gF_7_9, gF_7_10, gF_7_11, gF_7_12, E_isLetter eX hn (show a < 2 ^ 20 by omega), E_isLetter eX hn (show e < 2 ^ 20 by omega), zI_0, q, la, Bool.false_eq_true]
theorem L_ext2 {a : Nat} {r5 r6 dg : Int32} (eX : h.2.2 62 = oI 150 X) (hn : n ≤ 150) (ha : a ≤ n) (la : isFg X n a = true) : ∀ f e, e ≤ n → n < e + f → (T (d + 2) 141 109 [.ref 58] [] (hm (md h ab be (nI n) (nI a) (nI e) r5 r6 dg) R) Q ↔ Q none (hm (md h ab be (nI n) (nI a) (nI (ext (isFg X n) f e)) r5 r6 dg) R)) := by
  intro f
  induction f with
  | zero => intro b h1 h2; omega
  | succ f ih =>
    intro e h1 h2
    have e1 : ∀ z, (md h ab be (nI n) (nI a) z r5 r6 dg).2.2 58 = MO ab be (nI n) (nI a) z r5 r6 dg := fun _ => rfl
    have ho : ∀ z, isO ((hm (md h ab be (nI n) (nI a) z r5 r6 dg) R).2.2 58) 7 := fun z => md_mo.o
    have hoz := ho (nI e)
    unfold ext
    rw [t141_109]
    by_cases q : isFg X n e = true
    · rw [if_pos q]
      simp (disch := first | assumption | omega | decide) only [t141_110, t141_111, t141_114, t141_117, t141_120, t141_121, t141_122, t141_125, t141_128, t141_131, t141_132, t141_133, t141_136, t141_137, t141_138, t141_141, hm_58, hm_59, hm_up, e1, MO, gF_7_0, gF_7_1, gF_7_2, gF_7_3, gF_7_4, gF_7_5, gF_7_6, gF_7_7, aS_n, aS_l, aL_n, aL_l, ln_add, nl_add, ln_mul, nl_mul, nI_add, nI_1, i32_nl, ite_not, lt_nn, lt_nl, lt_ln, eq_nn, eq_nl, eq_ln, if_true, if_false, kil_i, kil_r, kil_l, kil_u, rl_s, rl_n, Nat.zero_add, Nat.lt_irrefl, not_true_eq_false, not_false_eq_true, true_and, dp_1, dp_2, dp_3, dp_4, dp_5, dp_6, dp_7, dp_8, dp_9, dp_10, dp_11, dp_12, dp_13, dp_14, dp_15, dp_16, dp_17, dp_18, dp_19, dp_20, dp_21, dp_22, dp_23, dp_24, dp_25, dp_26, dp_27, dp_28, dp_29, dp_30, dp_31, dp_32, dp_33, dp_34, dp_35, dp_36, dp_37, dp_38, dp_39, gF_7_8, gF_7_9, gF_7_10, gF_7_11, gF_7_12, E_isFigure eX hn (show a < 2 ^ 20 by omega), E_isFigure eX hn (show e < 2 ^ 20 by omega), zI_0, q, la, pF_7_9, md_up]
      exact ih (e + 1) (by have := isFg_lt q; omega) (by omega)
    · rw [if_neg q]
      simp (disch := first | assumption | omega | decide) only [t141_110, t141_111, t141_114, t141_117, t141_120, t141_121, t141_122, t141_125, t141_128, t141_144, hm_58, hm_59, hm_up, e1, MO, gF_7_0, gF_7_1, gF_7_2, gF_7_3, gF_7_4, gF_7_5, gF_7_6, gF_7_7, aS_n, aS_l, aL_n, aL_l, ln_add, nl_add, ln_mul, nl_mul, nI_add, nI_1, i32_nl, ite_not, lt_nn, lt_nl, lt_ln, eq_nn, eq_nl, eq_ln, if_true, if_false, kil_i, kil_r, kil_l, kil_u, rl_s, rl_n, Nat.zero_add, Nat.lt_irrefl, not_true_eq_false, not_false_eq_true, true_and, dp_1, dp_2, dp_3, dp_4, dp_5, dp_6, dp_7, dp_8, dp_9, dp_10, dp_11, dp_12, dp_13, dp_14, dp_15, dp_16, dp_17, dp_18, dp_19, dp_20, dp_21, dp_22, dp_23, dp_24, dp_25, dp_26, dp_27, dp_28, dp_29, dp_30, dp_31, dp_32, dp_33, dp_34, dp_35, dp_36, dp_37, dp_38, dp_39, gF_7_8, gF_7_9, gF_7_10, gF_7_11, gF_7_12, E_isFigure eX hn (show a < 2 ^ 20 by omega), E_isFigure eX hn (show e < 2 ^ 20 by omega), zI_0, q, la, Bool.false_eq_true]
theorem tkA_le {b : Nat} (hb : b ≤ n) : tkA X n b ≤ n := skp_le _ _ hb
theorem tkE_le {b : Nat} (hb : b ≤ n) : tkE X n b ≤ n := by
  have ha := tkA_le (X := X) hb
  unfold tkE
  simp only []
  have h0 : (if tkA X n b < n then tkA X n b + 1 else tkA X n b) ≤ n := by split <;> omega
  split
  · refine ext_le (fun k => isFg_lt) _ _ ?_
    split
    · exact ext_le (fun k => isLt_lt) _ _ h0
    · exact h0
  · split
    · exact ext_le (fun k => isLt_lt) _ _ h0
    · exact h0
theorem E_next {b : Nat} {pa r5 r6 dg : Int32} (eX : h.2.2 62 = oI 150 X) (hn : n ≤ 150) (hb : b ≤ n) : T (d + 2) 141 0 [.ref 58] [] (hm (md h ab be (nI n) pa (nI b) r5 r6 dg) R) Q ↔ Q none (hm (md h ab be (nI n) (nI (tkA X n b)) (nI (tkE X n b)) r5 r6 dg) R) := by
  have ha := tkA_le (X := X) hb
  have e1 : ∀ z z2, (md h ab be (nI n) z z2 r5 r6 dg).2.2 58 = MO ab be (nI n) z z2 r5 r6 dg := fun _ _ => rfl
  have ho : ∀ z z2, isO ((hm (md h ab be (nI n) z z2 r5 r6 dg) R).2.2 58) 7 := fun z z2 => md_mo.o
  have h0 : (if tkA X n b < n then tkA X n b + 1 else tkA X n b) ≤ n := by split <;> omega
  simp (disch := first | assumption | omega | decide) only [t141_0, t141_1, t141_2, t141_5, hm_58, hm_59, hm_up, e1, MO, gF_7_0, gF_7_1, gF_7_2, gF_7_3, gF_7_4, gF_7_5, gF_7_6, gF_7_7, aS_n, aS_l, aL_n, aL_l, ln_add, nl_add, ln_mul, nl_mul, nI_add, nI_1, i32_nl, ite_not, lt_nn, lt_nl, lt_ln, eq_nn, eq_nl, eq_ln, if_true, if_false, kil_i, kil_r, kil_l, kil_u, rl_s, rl_n, Nat.zero_add, Nat.lt_irrefl, not_true_eq_false, not_false_eq_true, true_and, dp_1, dp_2, dp_3, dp_4, dp_5, dp_6, dp_7, dp_8, dp_9, dp_10, dp_11, dp_12, dp_13, dp_14, dp_15, dp_16, dp_17, dp_18, dp_19, dp_20, dp_21, dp_22, dp_23, dp_24, dp_25, dp_26, dp_27, dp_28, dp_29, dp_30, dp_31, dp_32, dp_33, dp_34, dp_35, dp_36, dp_37, dp_38, dp_39, gF_7_8, gF_7_9, gF_7_10, gF_7_11, gF_7_12, pF_7_8, md_up]
  refine (L_skip eX hn (n + 1) b hb (by omega)).trans ?_
  rw [show skp X n (n + 1) b = tkA X n b from rfl]
  obtain ⟨a, hA⟩ : ∃ a, a = tkA X n b := ⟨_, rfl⟩
  have hE : tkE X n b = (if isFg X n a = true then ext (isFg X n) (n + 1) (if isLt X n a = true then ext (isLt X n) (n + 1) (if a < n then a + 1 else a) else (if a < n then a + 1 else a)) else (if isLt X n a = true then ext (isLt X n) (n + 1) (if a < n then a + 1 else a) else (if a < n then a + 1 else a))) := by rw [hA]; rfl
  rw [hE]
  rw [← hA] at ha h0 ⊢
  obtain ⟨e0, he0⟩ : ∃ e0, e0 = (if a < n then a + 1 else a) := ⟨_, rfl⟩
  have S1 : T (d + 2) 141 46 [.ref 58] [] (hm (md h ab be (nI n) (nI a) (nI b) r5 r6 dg) R) Q ↔ T (d + 2) 141 74 [.ref 58] [] (hm (md h ab be (nI n) (nI a) (nI e0) r5 r6 dg) R) Q := by
    by_cases q : a < n
    · rw [if_pos q] at he0
      subst he0
      simp (disch := first | assumption | omega | decide) only [t141_46, t141_47, t141_48, t141_51, t141_52, t141_55, t141_58, t141_59, t141_62, t141_63, t141_64, t141_67, t141_68, t141_71, hm_58, hm_59, hm_up, e1, MO, gF_7_0, gF_7_1, gF_7_2, gF_7_3, gF_7_4, gF_7_5, gF_7_6, gF_7_7, aS_n, aS_l, aL_n, aL_l, ln_add, nl_add, ln_mul, nl_mul, nI_add, nI_1, i32_nl, ite_not, lt_nn, lt_nl, lt_ln, eq_nn, eq_nl, eq_ln, if_true, if_false, kil_i, kil_r, kil_l, kil_u, rl_s, rl_n, Nat.zero_add, Nat.lt_irrefl, not_true_eq_false, not_false_eq_true, true_and, dp_1, dp_2, dp_3, dp_4, dp_5, dp_6, dp_7, dp_8, dp_9, dp_10, dp_11, dp_12, dp_13, dp_14, dp_15, dp_16, dp_17, dp_18, dp_19, dp_20, dp_21, dp_22, dp_23, dp_24, dp_25, dp_26, dp_27, dp_28, dp_29, dp_30, dp_31, dp_32, dp_33, dp_34, dp_35, dp_36, dp_37, dp_38, dp_39, gF_7_8, gF_7_9, gF_7_10, gF_7_11, gF_7_12, q, pF_7_9, md_up]
    · rw [if_neg q] at he0
      rw [he0]
      simp (disch := first | assumption | omega | decide) only [t141_46, t141_47, t141_48, t141_51, t141_52, t141_55, t141_58, t141_59, t141_62, t141_63, t141_64, t141_67, t141_68, t141_71, hm_58, hm_59, hm_up, e1, MO, gF_7_0, gF_7_1, gF_7_2, gF_7_3, gF_7_4, gF_7_5, gF_7_6, gF_7_7, aS_n, aS_l, aL_n, aL_l, ln_add, nl_add, ln_mul, nl_mul, nI_add, nI_1, i32_nl, ite_not, lt_nn, lt_nl, lt_ln, eq_nn, eq_nl, eq_ln, if_true, if_false, kil_i, kil_r, kil_l, kil_u, rl_s, rl_n, Nat.zero_add, Nat.lt_irrefl, not_true_eq_false, not_false_eq_true, true_and, dp_1, dp_2, dp_3, dp_4, dp_5, dp_6, dp_7, dp_8, dp_9, dp_10, dp_11, dp_12, dp_13, dp_14, dp_15, dp_16, dp_17, dp_18, dp_19, dp_20, dp_21, dp_22, dp_23, dp_24, dp_25, dp_26, dp_27, dp_28, dp_29, dp_30, dp_31, dp_32, dp_33, dp_34, dp_35, dp_36, dp_37, dp_38, dp_39, gF_7_8, gF_7_9, gF_7_10, gF_7_11, gF_7_12, q, pF_7_9, md_up]
  refine S1.trans ?_
  rw [← he0] at h0 ⊢
  have hoz := ho (nI a) (nI e0)
  have S2 : T (d + 2) 141 74 [.ref 58] [] (hm (md h ab be (nI n) (nI a) (nI e0) r5 r6 dg) R) Q ↔ T (d + 2) 141 109 [.ref 58] [] (hm (md h ab be (nI n) (nI a) (nI (if isLt X n a = true then ext (isLt X n) (n + 1) e0 else e0)) r5 r6 dg) R) Q := by
    by_cases q : isLt X n a = true
    · rw [if_pos q]
      exact L_ext1 eX hn ha q (n + 1) e0 h0 (by omega)
    · rw [if_neg q, t141_74]
      simp (disch := first | assumption | omega | decide) only [t141_75, t141_76, t141_79, t141_82, hm_58, hm_59, hm_up, e1, MO, gF_7_0, gF_7_1, gF_7_2, gF_7_3, gF_7_4, gF_7_5, gF_7_6, gF_7_7, aS_n, aS_l, aL_n, aL_l, ln_add, nl_add, ln_mul, nl_mul, nI_add, nI_1, i32_nl, ite_not, lt_nn, lt_nl, lt_ln, eq_nn, eq_nl, eq_ln, if_true, if_false, kil_i, kil_r, kil_l, kil_u, rl_s, rl_n, Nat.zero_add, Nat.lt_irrefl, not_true_eq_false, not_false_eq_true, true_and, dp_1, dp_2, dp_3, dp_4, dp_5, dp_6, dp_7, dp_8, dp_9, dp_10, dp_11, dp_12, dp_13, dp_14, dp_15, dp_16, dp_17, dp_18, dp_19, dp_20, dp_21, dp_22, dp_23, dp_24, dp_25, dp_26, dp_27, dp_28, dp_29, dp_30, dp_31, dp_32, dp_33, dp_34, dp_35, dp_36, dp_37, dp_38, dp_39, gF_7_8, gF_7_9, gF_7_10, gF_7_11, gF_7_12, E_isLetter eX hn (show a < 2 ^ 20 by omega), zI_0, q, Bool.false_eq_true]
  refine S2.trans ?_
  obtain ⟨e2, he2⟩ : ∃ e2, e2 = (if isLt X n a = true then ext (isLt X n) (n + 1) e0 else e0) := ⟨_, rfl⟩
  have h2 : e2 ≤ n := by
    rw [he2]; split
    · exact ext_le (fun k => isLt_lt) _ _ h0
    · exact h0
  rw [← he2]
  have hoy := ho (nI a) (nI e2)
  by_cases q : isFg X n a = true
  · rw [if_pos q]
    exact L_ext2 eX hn ha q (n + 1) e2 h2 (by omega)
  · rw [if_neg q, t141_109]
    simp (disch := first | assumption | omega | decide) only [t141_110, t141_111, t141_114, t141_117, t141_144, hm_58, hm_59, hm_up, e1, MO, gF_7_0, gF_7_1, gF_7_2, gF_7_3, gF_7_4, gF_7_5, gF_7_6, gF_7_7, aS_n, aS_l, aL_n, aL_l, ln_add, nl_add, ln_mul, nl_mul, nI_add, nI_1, i32_nl, ite_not, lt_nn, lt_nl, lt_ln, eq_nn, eq_nl, eq_ln, if_true, if_false, kil_i, kil_r, kil_l, kil_u, rl_s, rl_n, Nat.zero_add, Nat.lt_irrefl, not_true_eq_false, not_false_eq_true, true_and, dp_1, dp_2, dp_3, dp_4, dp_5, dp_6, dp_7, dp_8, dp_9, dp_10, dp_11, dp_12, dp_13, dp_14, dp_15, dp_16, dp_17, dp_18, dp_19, dp_20, dp_21, dp_22, dp_23, dp_24, dp_25, dp_26, dp_27, dp_28, dp_29, dp_30, dp_31, dp_32, dp_33, dp_34, dp_35, dp_36, dp_37, dp_38, dp_39, gF_7_8, gF_7_9, gF_7_10, gF_7_11, gF_7_12, E_isFigure eX hn (show a < 2 ^ 20 by omega), zI_0, q, Bool.false_eq_true]
end PJ
