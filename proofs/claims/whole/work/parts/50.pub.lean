/-! the state of both, by the reference's row; the public calls' words -/
abbrev St : Type := (Nat → Int32) × (Nat → Int32) × (Nat → Int32) × Int64 × Int64 × (Nat → Int32) × Int32
def sR (S : St) : Nat → Int32 := S.1
def sK (S : St) : Nat → Int32 := S.2.1
def sF (S : St) : Nat → Int32 := S.2.2.1
def sA (S : St) : Int64 := S.2.2.2.1
def sB (S : St) : Int64 := S.2.2.2.2.1
def sT (S : St) : Nat → Int32 := S.2.2.2.2.2.1
def sL (S : St) : Int32 := S.2.2.2.2.2.2
def stR (S : St) (R : Nat → Int32) : St := (R, S.2)
def stF (S : St) (F : Nat → Int32) : St := (S.1, S.2.1, F, S.2.2.2)
def rfU (F : Nat → Int32) (k : Nat) : Nat → Int32 := upd F k (F k + 1)
/-- a refusal: BAD 0, NO 1, FULL 2 -/
def refu (S : St) (k : Nat) : St := stF S (rfU (sF S) k)
/-- the words that the reference spells -/
def wtab (j : Nat) : Int32 := ([117, 112, 108, 97, 110, 100, 115, 0, 103, 117, 101, 115, 116, 0, 0, 0, 104, 111, 117, 115, 101, 0, 0, 0, 99, 97, 108, 108, 0, 0, 0, 0, 104, 111, 109, 101, 0, 0, 0, 0, 101, 118, 101, 110, 105, 110, 103, 115] : List Int32).getD j 0
def ModelAt (h : Hp) (S : St) : Prop :=
  (∃ pa pb r5 r6 dg, h.2.2 58 = MO (sA S) (sB S) (sL S) pa pb r5 r6 dg) ∧ h.2.2 59 = oI 636 (sR S) ∧ h.2.2 60 = oZ 2 (sK S) ∧ h.2.2 61 = oI 3 (sF S) ∧ h.2.2 62 = oI 150 (sT S) ∧ h.2.2 63 = oI 48 wtab ∧
  ∃ f1 f2 f3 f4 f5, h.2.2 64 = oI 6 f1 ∧ h.2.2 65 = oI 6 f2 ∧ h.2.2 66 = oI 6 f3 ∧ h.2.2 67 = oI 10 f4 ∧ h.2.2 68 = oI 10 f5
/-- the model's cells alone have moved -/
def frM (h h2 : Hp) : Prop := h2.1 = h.1 ∧ h2.2.1 = h.2.1 ∧ ∀ a, (a < 58 ∨ 68 < a) → h2.2.2 a = h.2.2 a
theorem frM.rf {h : Hp} : frM h h := ⟨rfl, rfl, fun _ _ => rfl⟩
theorem frM.up {h h2 : Hp} (f : frM h h2) {a : Nat} {c : AC} (h1 : 58 ≤ a) (h3 : a ≤ 68) : frM h (hup h2 a c) := ⟨f.1, f.2.1, fun q hq => by rw [hup_c, if_neg (by omega)]; exact f.2.2 q hq⟩
theorem frM.row {h h2 : Hp} (f : frM h h2) {R : Nat → Int32} : frM h (hm h2 R) := f.up (by decide) (by decide)
theorem ModelAt.mo {h : Hp} {S : St} (m : ModelAt h S) : isMO h := by
  obtain ⟨⟨pa, pb, r5, r6, dg, e⟩, -⟩ := m
  exact ⟨_, _, _, _, _, _, _, _, e⟩
theorem ModelAt.row {h : Hp} {S : St} (m : ModelAt h S) (R : Nat → Int32) : ModelAt (hm h R) (stR S R) := by
  obtain ⟨e0, e1, e2, e3, e4, e5, f1, f2, f3, f4, f5, e6, e7, e8, e9, e10⟩ := m
  exact ⟨e0, rfl, e2, e3, e4, e5, f1, f2, f3, f4, f5, e6, e7, e8, e9, e10⟩
theorem ModelAt.self {h : Hp} {S : St} (m : ModelAt h S) : hm h (sR S) = h := by
  have := m.2.1
  unfold hm
  rw [← this]
  exact hup_id
theorem ModelAt.ref {h : Hp} {S : St} (m : ModelAt h S) (k : Nat) : ModelAt (hup h 61 (oI 3 (rfU (sF S) k))) (refu S k) := by
  obtain ⟨e0, e1, e2, e3, e4, e5, f1, f2, f3, f4, f5, e6, e7, e8, e9, e10⟩ := m
  exact ⟨e0, e1, e2, rfl, e4, e5, f1, f2, f3, f4, f5, e6, e7, e8, e9, e10⟩
theorem T_eq {d j pc : Nat} {ls st : List Value} {h h2 : Hp} {Q : Pst} (e : h2 = h) (t : T d j pc ls st h2 Q) : T d j pc ls st h Q := e ▸ t
theorem z10 : ((1 : Int32) = 0) = False := by decide
theorem z00 : ((0 : Int32) = 0) = True := by decide
/-- a word of a range -/
def rg (x : Int32) (a b : Int) : Bool := decide (a ≤ x.toInt) && decide (x.toInt ≤ b)
theorem rg_iff {x : Int32} {a b : Int} : rg x a b = true ↔ a ≤ x.toInt ∧ x.toInt ≤ b := by simp [rg]
theorem rg_n {x : Int32} {g : Nat} (e : rg x 0 (g - 1 : Int) = true) : ∃ k, k < g ∧ x = nI k := by
  rw [rg_iff] at e; exact i32_n2 e.1 (by omega)
theorem rg_l {x : Int32} {b : Nat} (e : rg x 0 b = true) : ∃ k, k ≤ b ∧ x = nI k := by
  rw [rg_iff] at e
  obtain ⟨k, hk, e2⟩ := i32_n2 (N := b + 1) e.1 (by omega)
  exact ⟨k, by omega, e2⟩
theorem rg_m {x : Int32} {a b : Nat} (e : rg x a b = true) (hb : b < 2 ^ 30) : ∃ k, a ≤ k ∧ k ≤ b ∧ x = nI k := by
  rw [rg_iff] at e
  obtain ⟨k, hk, e2⟩ := i32_n2 (x := x) (N := b + 1) (by omega) (by omega)
  have h3 : x.toInt = k := by rw [e2, nI_toInt (by omega)]
  exact ⟨k, by omega, by omega, e2⟩
theorem zb_0 {c : Prop} [Decidable c] : (zb c = 0) = ¬ c := by
  unfold zb; by_cases q : c <;> simp [q]
theorem nar_zb {c : Prop} [Decidable c] : (narrow .boolean (.int (zb c)) = .int (zb c)) = True := by
  unfold zb; by_cases q : c <;> simp only [q, if_true, if_false, nar_0, nar_1]
theorem il_toInt {n : Nat} (hn : n < 2 ^ 31) : (no_index (OfNat.ofNat n) : Int32).toInt = n := nI_toInt hn
section M5
variable {d : Nat} {h : Hp} {Q : Pst} {S : St}
theorem E_refB (m : ModelAt h S) : T d 129 0 [.ref 58, .int (-2)] [] h Q ↔ Q (some (.int (-2))) (hup h 61 (oI 3 (rfU (sF S) 0))) := by
  obtain ⟨⟨pa, pb, r5, r6, dg, e1⟩, -, -, e3, -⟩ := m
  simp (disch := first | assumption | omega | decide) only [t129_0, t129_1, t129_4, t129_5, t129_7, t129_10, t129_11, t129_14, t129_15, t129_17, t129_20, t129_21, t129_24, t129_25, t129_26, t129_27, t129_28, t129_29, t129_30, t129_31, e3, hm_58, hm_59, hm_up, e1, MO, gF_7_0, gF_7_1, gF_7_2, gF_7_3, gF_7_4, gF_7_5, gF_7_6, gF_7_7, aS_n, aS_l, aL_n, aL_l, ln_add, nl_add, ln_mul, nl_mul, nI_add, nI_1, i32_nl, ite_not, lt_nn, lt_nl, lt_ln, eq_nn, eq_nl, eq_ln, if_true, if_false, kil_i, kil_r, kil_l, kil_u, rl_s, rl_n, Nat.zero_add, Nat.lt_irrefl, not_true_eq_false, not_false_eq_true, true_and, dp_1, dp_2, dp_3, dp_4, dp_5, dp_6, dp_7, dp_8, dp_9, dp_10, dp_11, dp_12, dp_13, dp_14, dp_15, dp_16, dp_17, dp_18, dp_19, dp_20, dp_21, dp_22, dp_23, dp_24, dp_25, dp_26, dp_27, dp_28, dp_29, dp_30, dp_31, dp_32, dp_33, dp_34, dp_35, dp_36, dp_37, dp_38, dp_39, show ¬ (-2 : Int32) = -3 from by decide, show ¬ (-2 : Int32) = -4 from by decide, rfU]
theorem E_refN (m : ModelAt h S) : T d 129 0 [.ref 58, .int (-3)] [] h Q ↔ Q (some (.int (-3))) (hup h 61 (oI 3 (rfU (sF S) 1))) := by
  obtain ⟨⟨pa, pb, r5, r6, dg, e1⟩, -, -, e3, -⟩ := m
  simp (disch := first | assumption | omega | decide) only [t129_0, t129_1, t129_4, t129_5, t129_7, t129_10, t129_11, t129_14, t129_15, t129_17, t129_20, t129_21, t129_24, t129_25, t129_26, t129_27, t129_28, t129_29, t129_30, t129_31, e3, hm_58, hm_59, hm_up, e1, MO, gF_7_0, gF_7_1, gF_7_2, gF_7_3, gF_7_4, gF_7_5, gF_7_6, gF_7_7, aS_n, aS_l, aL_n, aL_l, ln_add, nl_add, ln_mul, nl_mul, nI_add, nI_1, i32_nl, ite_not, lt_nn, lt_nl, lt_ln, eq_nn, eq_nl, eq_ln, if_true, if_false, kil_i, kil_r, kil_l, kil_u, rl_s, rl_n, Nat.zero_add, Nat.lt_irrefl, not_true_eq_false, not_false_eq_true, true_and, dp_1, dp_2, dp_3, dp_4, dp_5, dp_6, dp_7, dp_8, dp_9, dp_10, dp_11, dp_12, dp_13, dp_14, dp_15, dp_16, dp_17, dp_18, dp_19, dp_20, dp_21, dp_22, dp_23, dp_24, dp_25, dp_26, dp_27, dp_28, dp_29, dp_30, dp_31, dp_32, dp_33, dp_34, dp_35, dp_36, dp_37, dp_38, dp_39, rfU]
theorem E_refF (m : ModelAt h S) : T d 129 0 [.ref 58, .int (-4)] [] h Q ↔ Q (some (.int (-4))) (hup h 61 (oI 3 (rfU (sF S) 2))) := by
  obtain ⟨⟨pa, pb, r5, r6, dg, e1⟩, -, -, e3, -⟩ := m
  simp (disch := first | assumption | omega | decide) only [t129_0, t129_1, t129_4, t129_5, t129_7, t129_10, t129_11, t129_14, t129_15, t129_17, t129_20, t129_21, t129_24, t129_25, t129_26, t129_27, t129_28, t129_29, t129_30, t129_31, e3, hm_58, hm_59, hm_up, e1, MO, gF_7_0, gF_7_1, gF_7_2, gF_7_3, gF_7_4, gF_7_5, gF_7_6, gF_7_7, aS_n, aS_l, aL_n, aL_l, ln_add, nl_add, ln_mul, nl_mul, nI_add, nI_1, i32_nl, ite_not, lt_nn, lt_nl, lt_ln, eq_nn, eq_nl, eq_ln, if_true, if_false, kil_i, kil_r, kil_l, kil_u, rl_s, rl_n, Nat.zero_add, Nat.lt_irrefl, not_true_eq_false, not_false_eq_true, true_and, dp_1, dp_2, dp_3, dp_4, dp_5, dp_6, dp_7, dp_8, dp_9, dp_10, dp_11, dp_12, dp_13, dp_14, dp_15, dp_16, dp_17, dp_18, dp_19, dp_20, dp_21, dp_22, dp_23, dp_24, dp_25, dp_26, dp_27, dp_28, dp_29, dp_30, dp_31, dp_32, dp_33, dp_34, dp_35, dp_36, dp_37, dp_38, dp_39, show ¬ (-4 : Int32) = -3 from by decide, rfU]
theorem E_badAs {v : Int32} (m : ModelAt h S) : T (d + 1) 130 0 [.ref 58, .int v] [] h Q ↔ Q (some (.int v)) (hup h 61 (oI 3 (rfU (sF S) 0))) := by
  obtain ⟨⟨pa, pb, r5, r6, dg, e1⟩, -⟩ := id m
  have ho : isO (h.2.2 58) 7 := by rw [e1]; exact isO_O
  simp (disch := first | assumption | omega | decide) only [t130_0, t130_1, t130_3, t130_6, t130_7, t130_8, E_refB m, hm_58, hm_59, hm_up, e1, MO, gF_7_0, gF_7_1, gF_7_2, gF_7_3, gF_7_4, gF_7_5, gF_7_6, gF_7_7, aS_n, aS_l, aL_n, aL_l, ln_add, nl_add, ln_mul, nl_mul, nI_add, nI_1, i32_nl, ite_not, lt_nn, lt_nl, lt_ln, eq_nn, eq_nl, eq_ln, if_true, if_false, kil_i, kil_r, kil_l, kil_u, rl_s, rl_n, Nat.zero_add, Nat.lt_irrefl, not_true_eq_false, not_false_eq_true, true_and, dp_1, dp_2, dp_3, dp_4, dp_5, dp_6, dp_7, dp_8, dp_9, dp_10, dp_11, dp_12, dp_13, dp_14, dp_15, dp_16, dp_17, dp_18, dp_19, dp_20, dp_21, dp_22, dp_23, dp_24, dp_25, dp_26, dp_27, dp_28, dp_29, dp_30, dp_31, dp_32, dp_33, dp_34, dp_35, dp_36, dp_37, dp_38, dp_39]
theorem E_inL {d a b : Nat} {x : Int32} (ha : a < 2 ^ 31) (hb : b < 2 ^ 31) : T d 126 0 [.int x, .int (no_index (OfNat.ofNat a)), .int (no_index (OfNat.ofNat b))] [] h Q ↔ Q (some (.int (zb (rg x (no_index (OfNat.ofNat a)) (no_index (OfNat.ofNat b)) = true)))) h := by
  rw [E_in]
  have e : zb ((OfNat.ofNat a : Int32) ≤ x ∧ x ≤ (OfNat.ofNat b : Int32)) = zb (rg x (OfNat.ofNat a) (OfNat.ofNat b) = true) := by
    unfold zb
    simp only [i32_le, rg_iff, il_toInt ha, il_toInt hb]
    rfl
  rw [e]
theorem E_inP {d g : Nat} {x : Int32} (hg : g < 2 ^ 30) : T d 126 0 [.int x, .int 0, .int (nI g - 1)] [] h Q ↔ Q (some (.int (zb (rg x 0 (g - 1 : Int) = true)))) h := by
  rw [E_in]
  have e : zb ((0 : Int32) ≤ x ∧ x ≤ nI g - 1) = zb (rg x 0 (g - 1 : Int) = true) := by
    unfold zb
    have := pk_sub_toInt (a := g) (b := 1) hg (by omega)
    simp only [i32_le, rg_iff, i32_0, show nI g - 1 = nI g - nI 1 from rfl, this]
    rfl
  rw [e]
theorem E_isGuest {i : Int32} {g : Nat} {R : Nat → Int32} (mo : isMO h) (hg : R 12 = nI g) (h6 : g ≤ 6) : T (d + 1) 163 0 [.ref 58, .int i] [] (hm h R) Q ↔ Q (some (.int (zb (rg i 0 (g - 1 : Int) = true)))) (hm h R) := by
  obtain ⟨ab, be, ln, pa, pb, r5, r6, dg, e1⟩ := mo
  simp (disch := first | assumption | omega | decide) only [t163_0, t163_1, t163_2, t163_3, t163_6, t163_8, t163_9, t163_10, t163_11, t163_14, hm_58, hm_59, e1, MO, gF_7_0, aL_l, hg, E_inP, rl_s, nar_zb, true_and]
theorem E_isHouse {i : Int32} {g : Nat} {R : Nat → Int32} (mo : isMO h) (hg : R 25 = nI g) (h6 : g ≤ 4) : T (d + 1) 164 0 [.ref 58, .int i] [] (hm h R) Q ↔ Q (some (.int (zb (rg i 0 (g - 1 : Int) = true)))) (hm h R) := by
  obtain ⟨ab, be, ln, pa, pb, r5, r6, dg, e1⟩ := mo
  simp (disch := first | assumption | omega | decide) only [t164_0, t164_1, t164_2, t164_3, t164_6, t164_8, t164_9, t164_10, t164_11, t164_14, hm_58, hm_59, e1, MO, gF_7_0, aL_l, hg, E_inP, rl_s, nar_zb, true_and]
-- how a call of the model ends
theorem kR {r : Option Value} (m : ModelAt h S) (j : Nat) (k : ∀ h2, ModelAt h2 (refu S j) → frM h h2 → Q r h2) : Q r (hup (hm h (sR S)) 61 (oI 3 (rfU (sF S) j))) := k _ (by rw [m.self]; exact m.ref j) (frM.rf.row.up (by decide) (by decide))
theorem kW {r : Option Value} {R : Nat → Int32} (m : ModelAt h S) (k : ∀ h2, ModelAt h2 (stR S R) → frM h h2 → Q r h2) : Q r (hm h R) := k _ (m.row R) frM.rf.row
theorem kN {r : Option Value} (m : ModelAt h S) (k : ∀ h2, ModelAt h2 S → frM h h2 → Q r h2) : Q r (hm h (sR S)) := k _ (by rw [m.self]; exact m) frM.rf.row
theorem ModelAt.again (m : ModelAt h S) : ModelAt (hm h (sR S)) S := by rw [m.self]; exact m
/-- a new start -/
def layR (R : Nat → Int32) (w : Int32) : Nat → Int32 := upd (fun j => if j < 208 then 0 else R j) 10 w
def sp_uplands (S : St) (w : Int32) : Int32 × St := if rg w 0 4 then (sR S 12, stR S (layR (sR S) w)) else (-2, refu S 0)
theorem M_uplands {w : Int32} (m : ModelAt h S) (k : ∀ h2, ModelAt h2 (sp_uplands S w).2 → frM h h2 → Q (some (.int (sp_uplands S w).1)) h2) : T (d + 3) 132 0 [.ref 58, .int w, un] [] h Q := by
  refine T_eq m.self ?_
  have mm := m.again
  have ho := m.mo.o (R := sR S)
  obtain ⟨ab, be, ln, pa, pb, r5, r6, dg, e1⟩ := id m.mo
  unfold sp_uplands at k
  by_cases q : rg w 0 4 = true <;> simp only [q, if_true, if_false] at k
  · simp (disch := first | assumption | omega | decide) only [t132_0, t132_1, t132_2, t132_3, t132_6, t132_9, t132_10, t132_12, t132_15, t132_16, t132_17, t132_20, t132_22, t132_23, t132_24, t132_25, t132_26, t132_29, t132_30, hm_58, hm_59, hm_up, e1, MO, gF_7_0, gF_7_1, gF_7_2, gF_7_3, gF_7_4, gF_7_5, gF_7_6, gF_7_7, aS_n, aS_l, aL_n, aL_l, ln_add, nl_add, ln_mul, nl_mul, nI_add, nI_1, i32_nl, ite_not, lt_nn, lt_nl, lt_ln, eq_nn, eq_nl, eq_ln, if_true, if_false, kil_i, kil_r, kil_l, kil_u, rl_s, rl_n, Nat.zero_add, Nat.lt_irrefl, not_true_eq_false, not_false_eq_true, true_and, dp_1, dp_2, dp_3, dp_4, dp_5, dp_6, dp_7, dp_8, dp_9, dp_10, dp_11, dp_12, dp_13, dp_14, dp_15, dp_16, dp_17, dp_18, dp_19, dp_20, dp_21, dp_22, dp_23, dp_24, dp_25, dp_26, dp_27, dp_28, dp_29, dp_30, dp_31, dp_32, dp_33, dp_34, dp_35, dp_36, dp_37, dp_38, dp_39, E_inL, zb_0, q, E_layUplands m.mo]
    exact kW m k
  · simp (disch := first | assumption | omega | decide) only [t132_0, t132_1, t132_2, t132_3, t132_6, t132_9, t132_10, t132_12, t132_15, t132_16, t132_17, t132_20, t132_22, t132_23, t132_24, t132_25, t132_26, t132_29, t132_30, hm_58, hm_59, hm_up, e1, MO, gF_7_0, gF_7_1, gF_7_2, gF_7_3, gF_7_4, gF_7_5, gF_7_6, gF_7_7, aS_n, aS_l, aL_n, aL_l, ln_add, nl_add, ln_mul, nl_mul, nI_add, nI_1, i32_nl, ite_not, lt_nn, lt_nl, lt_ln, eq_nn, eq_nl, eq_ln, if_true, if_false, kil_i, kil_r, kil_l, kil_u, rl_s, rl_n, Nat.zero_add, Nat.lt_irrefl, not_true_eq_false, not_false_eq_true, true_and, dp_1, dp_2, dp_3, dp_4, dp_5, dp_6, dp_7, dp_8, dp_9, dp_10, dp_11, dp_12, dp_13, dp_14, dp_15, dp_16, dp_17, dp_18, dp_19, dp_20, dp_21, dp_22, dp_23, dp_24, dp_25, dp_26, dp_27, dp_28, dp_29, dp_30, dp_31, dp_32, dp_33, dp_34, dp_35, dp_36, dp_37, dp_38, dp_39, E_inL, zb_0, q, E_refB mm]
    exact kR m 0 k
end M5
