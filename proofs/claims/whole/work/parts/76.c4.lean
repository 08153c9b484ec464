/-! the class: all of its other cells -/
def cellC (ab be : Int32) (V : Nat → Int32) (O : Nat → Nat → Int32) (j : Nat) : AC := match j with
  | 13 => oO 6 [.ref 14, .ref 29, .ref 44, .ref 45, .ref 47, .ref 49, .ref 54, .ref 57, .int ab, .int be]
  | 45 => oO 2 [.ref 46, .int (V 1), .int (V 2), .int (V 3), .int (V 4), .int (V 5), .int (V 6), .int (V 7), .int (V 8)]
  | 46 => oI 150 (O 46)
  | 47 => oO 1 [.ref 48]
  | 48 => oI 6 (O 48)
  | 49 => oO 4 [.ref 50, .ref 51, .ref 52, .ref 53, .int (O 49 0), .int (O 49 1), .int (O 49 2)]
  | 50 => oI 24 (O 50)
  | 51 => oI 4 (O 51)
  | 52 => oI 6 (O 52)
  | 53 => oI 6 (O 53)
  | 54 => oO 0 [.ref 55, .ref 56]
  | 55 => oI 10 (O 55)
  | 56 => oI 10 (O 56)
  | 57 => oI 3 (O 57)
  | _ => oI 0 (fun _ => 0)
def inC (j : Nat) : Prop := j = 13 ∨ (45 ≤ j ∧ j < 58)
def hC (h : Hp) (ab be : Int32) (V : Nat → Int32) (O : Nat → Nat → Int32) : Hp := (h.1, h.2.1, fun j => if j = 13 ∨ (45 ≤ j ∧ j < 58) then cellC ab be V O j else h.2.2 j)
abbrev hX (h : Hp) (ab be : Int32) (V : Nat → Int32) (O : Nat → Nat → Int32) (D : Nat → Nat → Int32) : Hp := hU (hC h ab be V O) 14 D
section C0
variable {h : Hp} {b : Nat} {D : Nat → Nat → Int32} {ab be : Int32} {V : Nat → Int32} {O : Nat → Nat → Int32}
theorem hC_at {j : Nat} (hj : j = 13 ∨ (45 ≤ j ∧ j < 58)) : (hC h ab be V O).2.2 j = cellC ab be V O j := by
  show (if j = 13 ∨ (45 ≤ j ∧ j < 58) then cellC ab be V O j else h.2.2 j) = _
  rw [if_pos hj]
theorem hC_out {j : Nat} (hj : ¬ (j = 13 ∨ (45 ≤ j ∧ j < 58))) : (hC h ab be V O).2.2 j = h.2.2 j := by
  show (if j = 13 ∨ (45 ≤ j ∧ j < 58) then cellC ab be V O j else h.2.2 j) = _
  rw [if_neg hj]
theorem hC_13 : (hX h ab be V O D).2.2 13 = oO 6 [.ref 14, .ref 29, .ref 44, .ref 45, .ref 47, .ref 49, .ref 54, .ref 57, .int ab, .int be] := by rw [hU_out (by decide), hC_at (by decide)]; rfl
theorem hC_45 : (hX h ab be V O D).2.2 45 = oO 2 [.ref 46, .int (V 1), .int (V 2), .int (V 3), .int (V 4), .int (V 5), .int (V 6), .int (V 7), .int (V 8)] := by rw [hU_out (by decide), hC_at (by decide)]; rfl
theorem hC_46 : (hX h ab be V O D).2.2 46 = oI 150 (O 46) := by rw [hU_out (by decide), hC_at (by decide)]; rfl
theorem hC_47 : (hX h ab be V O D).2.2 47 = oO 1 [.ref 48] := by rw [hU_out (by decide), hC_at (by decide)]; rfl
theorem hC_48 : (hX h ab be V O D).2.2 48 = oI 6 (O 48) := by rw [hU_out (by decide), hC_at (by decide)]; rfl
theorem hC_49 : (hX h ab be V O D).2.2 49 = oO 4 [.ref 50, .ref 51, .ref 52, .ref 53, .int (O 49 0), .int (O 49 1), .int (O 49 2)] := by rw [hU_out (by decide), hC_at (by decide)]; rfl
theorem hC_50 : (hX h ab be V O D).2.2 50 = oI 24 (O 50) := by rw [hU_out (by decide), hC_at (by decide)]; rfl
theorem hC_51 : (hX h ab be V O D).2.2 51 = oI 4 (O 51) := by rw [hU_out (by decide), hC_at (by decide)]; rfl
theorem hC_52 : (hX h ab be V O D).2.2 52 = oI 6 (O 52) := by rw [hU_out (by decide), hC_at (by decide)]; rfl
theorem hC_53 : (hX h ab be V O D).2.2 53 = oI 6 (O 53) := by rw [hU_out (by decide), hC_at (by decide)]; rfl
theorem hC_54 : (hX h ab be V O D).2.2 54 = oO 0 [.ref 55, .ref 56] := by rw [hU_out (by decide), hC_at (by decide)]; rfl
theorem hC_55 : (hX h ab be V O D).2.2 55 = oI 10 (O 55) := by rw [hU_out (by decide), hC_at (by decide)]; rfl
theorem hC_56 : (hX h ab be V O D).2.2 56 = oI 10 (O 56) := by rw [hU_out (by decide), hC_at (by decide)]; rfl
theorem hC_57 : (hX h ab be V O D).2.2 57 = oI 3 (O 57) := by rw [hU_out (by decide), hC_at (by decide)]; rfl
theorem hC_up {j : Nat} {ab2 be2 : Int32} {V2 : Nat → Int32} {O2 : Nat → Nat → Int32} {c : AC} (hj : j = 13 ∨ (45 ≤ j ∧ j < 58)) (hc : cellC ab2 be2 V2 O2 j = c) (ho : ∀ q, (q = 13 ∨ (45 ≤ q ∧ q < 58)) → q ≠ j → cellC ab2 be2 V2 O2 q = cellC ab be V O q) : hup (hC h ab be V O) j c = hC h ab2 be2 V2 O2 := by
  refine Prod.ext rfl (Prod.ext rfl (funext fun q => ?_))
  show (if q = j then c else (if q = 13 ∨ (45 ≤ q ∧ q < 58) then cellC ab be V O q else h.2.2 q)) = (if q = 13 ∨ (45 ≤ q ∧ q < 58) then cellC ab2 be2 V2 O2 q else h.2.2 q)
  by_cases e : q = j
  · rw [if_pos e, e, if_pos hj, hc]
  · rw [if_neg e]
    by_cases e2 : q = 13 ∨ (45 ≤ q ∧ q < 58)
    · rw [if_pos e2, if_pos e2, ho q e2 e]
    · rw [if_neg e2, if_neg e2]
theorem cellC_o {a : Nat} {f : Nat → Int32} {q : Nat} (h1 : q ≠ a) : cellC ab be V (wA O a f) q = cellC ab be V O q := by
  have e0 : (wA O a f) q = O q := wA_o h1
  unfold cellC
  split <;> simp only [e0]
theorem cellC_V {V2 : Nat → Int32} {q : Nat} (h1 : q ≠ 45) : cellC ab be V2 O q = cellC ab be V O q := by
  unfold cellC
  split <;> first | rfl | exact absurd rfl h1
theorem cellC_ab {ab2 be2 : Int32} {q : Nat} (h1 : q ≠ 13) : cellC ab2 be2 V O q = cellC ab be V O q := by
  unfold cellC
  split <;> first | rfl | exact absurd rfl h1
theorem hC_u46 {f : Nat → Int32} : hup (hX h ab be V O D) 46 (oI 150 f) = hX h ab be V (wA O 46 f) D := by
  show hup (hU (hC h ab be V O) 14 D) 46 (oI 150 f) = hU (hC h ab be V (wA O 46 f)) 14 D
  rw [hU_hup (by decide), hC_up (by decide) (ab2 := ab) (be2 := be) (V2 := V) (O2 := wA O 46 f) (by show oI 150 (wA O 46 f 46) = _; rw [wA_s]) (fun q _ h2 => cellC_o h2)]
theorem hC_u48 {f : Nat → Int32} : hup (hX h ab be V O D) 48 (oI 6 f) = hX h ab be V (wA O 48 f) D := by
  show hup (hU (hC h ab be V O) 14 D) 48 (oI 6 f) = hU (hC h ab be V (wA O 48 f)) 14 D
  rw [hU_hup (by decide), hC_up (by decide) (ab2 := ab) (be2 := be) (V2 := V) (O2 := wA O 48 f) (by show oI 6 (wA O 48 f 48) = _; rw [wA_s]) (fun q _ h2 => cellC_o h2)]
theorem hC_u50 {f : Nat → Int32} : hup (hX h ab be V O D) 50 (oI 24 f) = hX h ab be V (wA O 50 f) D := by
  show hup (hU (hC h ab be V O) 14 D) 50 (oI 24 f) = hU (hC h ab be V (wA O 50 f)) 14 D
  rw [hU_hup (by decide), hC_up (by decide) (ab2 := ab) (be2 := be) (V2 := V) (O2 := wA O 50 f) (by show oI 24 (wA O 50 f 50) = _; rw [wA_s]) (fun q _ h2 => cellC_o h2)]
theorem hC_u51 {f : Nat → Int32} : hup (hX h ab be V O D) 51 (oI 4 f) = hX h ab be V (wA O 51 f) D := by
  show hup (hU (hC h ab be V O) 14 D) 51 (oI 4 f) = hU (hC h ab be V (wA O 51 f)) 14 D
  rw [hU_hup (by decide), hC_up (by decide) (ab2 := ab) (be2 := be) (V2 := V) (O2 := wA O 51 f) (by show oI 4 (wA O 51 f 51) = _; rw [wA_s]) (fun q _ h2 => cellC_o h2)]
theorem hC_u52 {f : Nat → Int32} : hup (hX h ab be V O D) 52 (oI 6 f) = hX h ab be V (wA O 52 f) D := by
  show hup (hU (hC h ab be V O) 14 D) 52 (oI 6 f) = hU (hC h ab be V (wA O 52 f)) 14 D
  rw [hU_hup (by decide), hC_up (by decide) (ab2 := ab) (be2 := be) (V2 := V) (O2 := wA O 52 f) (by show oI 6 (wA O 52 f 52) = _; rw [wA_s]) (fun q _ h2 => cellC_o h2)]
theorem hC_u53 {f : Nat → Int32} : hup (hX h ab be V O D) 53 (oI 6 f) = hX h ab be V (wA O 53 f) D := by
  show hup (hU (hC h ab be V O) 14 D) 53 (oI 6 f) = hU (hC h ab be V (wA O 53 f)) 14 D
  rw [hU_hup (by decide), hC_up (by decide) (ab2 := ab) (be2 := be) (V2 := V) (O2 := wA O 53 f) (by show oI 6 (wA O 53 f 53) = _; rw [wA_s]) (fun q _ h2 => cellC_o h2)]
theorem hC_u55 {f : Nat → Int32} : hup (hX h ab be V O D) 55 (oI 10 f) = hX h ab be V (wA O 55 f) D := by
  show hup (hU (hC h ab be V O) 14 D) 55 (oI 10 f) = hU (hC h ab be V (wA O 55 f)) 14 D
  rw [hU_hup (by decide), hC_up (by decide) (ab2 := ab) (be2 := be) (V2 := V) (O2 := wA O 55 f) (by show oI 10 (wA O 55 f 55) = _; rw [wA_s]) (fun q _ h2 => cellC_o h2)]
theorem hC_u56 {f : Nat → Int32} : hup (hX h ab be V O D) 56 (oI 10 f) = hX h ab be V (wA O 56 f) D := by
  show hup (hU (hC h ab be V O) 14 D) 56 (oI 10 f) = hU (hC h ab be V (wA O 56 f)) 14 D
  rw [hU_hup (by decide), hC_up (by decide) (ab2 := ab) (be2 := be) (V2 := V) (O2 := wA O 56 f) (by show oI 10 (wA O 56 f 56) = _; rw [wA_s]) (fun q _ h2 => cellC_o h2)]
theorem hC_u57 {f : Nat → Int32} : hup (hX h ab be V O D) 57 (oI 3 f) = hX h ab be V (wA O 57 f) D := by
  show hup (hU (hC h ab be V O) 14 D) 57 (oI 3 f) = hU (hC h ab be V (wA O 57 f)) 14 D
  rw [hU_hup (by decide), hC_up (by decide) (ab2 := ab) (be2 := be) (V2 := V) (O2 := wA O 57 f) (by show oI 3 (wA O 57 f 57) = _; rw [wA_s]) (fun q _ h2 => cellC_o h2)]
def vq (x1 x2 x3 x4 x5 x6 x7 x8 : Int32) (k : Nat) : Int32 := match k with
  | 1 => x1
  | 2 => x2
  | 3 => x3
  | 4 => x4
  | 5 => x5
  | 6 => x6
  | 7 => x7
  | _ => x8
theorem hC_u45 {x1 x2 x3 x4 x5 x6 x7 x8 : Int32} : hup (hX h ab be V O D) 45 (oO 2 [.ref 46, .int x1, .int x2, .int x3, .int x4, .int x5, .int x6, .int x7, .int x8]) = hX h ab be (vq x1 x2 x3 x4 x5 x6 x7 x8) O D := by
  show hup (hU (hC h ab be V O) 14 D) 45 _ = hU (hC h ab be (vq x1 x2 x3 x4 x5 x6 x7 x8) O) 14 D
  rw [hU_hup (by decide), hC_up (by decide) (ab2 := ab) (be2 := be) (V2 := vq x1 x2 x3 x4 x5 x6 x7 x8) (O2 := O) (show cellC ab be (vq x1 x2 x3 x4 x5 x6 x7 x8) O 45 = oO 2 [.ref 46, .int x1, .int x2, .int x3, .int x4, .int x5, .int x6, .int x7, .int x8] from rfl) (fun q _ h2 => cellC_V h2)]
theorem hC_u49 {x0 x1 x2 : Int32} : hup (hX h ab be V O D) 49 (oO 4 [.ref 50, .ref 51, .ref 52, .ref 53, .int x0, .int x1, .int x2]) = hX h ab be V (wA O 49 (fq x0 x1 x2 0)) D := by
  show hup (hU (hC h ab be V O) 14 D) 49 _ = hU (hC h ab be V (wA O 49 (fq x0 x1 x2 0))) 14 D
  rw [hU_hup (by decide), hC_up (by decide) (ab2 := ab) (be2 := be) (V2 := V) (O2 := wA O 49 (fq x0 x1 x2 0)) (by show oO 4 [.ref 50, .ref 51, .ref 52, .ref 53, .int (wA O 49 (fq x0 x1 x2 0) 49 0), .int (wA O 49 (fq x0 x1 x2 0) 49 1), .int (wA O 49 (fq x0 x1 x2 0) 49 2)] = _; rw [wA_s]; rfl) (fun q _ h2 => cellC_o h2)]
theorem hC_u13 {ab2 be2 : Int32} : hup (hX h ab be V O D) 13 (oO 6 [.ref 14, .ref 29, .ref 44, .ref 45, .ref 47, .ref 49, .ref 54, .ref 57, .int ab2, .int be2]) = hX h ab2 be2 V O D := by
  show hup (hU (hC h ab be V O) 14 D) 13 _ = hU (hC h ab2 be2 V O) 14 D
  rw [hU_hup (by decide), hC_up (by decide) (ab2 := ab2) (be2 := be2) (V2 := V) (O2 := O) (show cellC ab2 be2 V O 13 = oO 6 [.ref 14, .ref 29, .ref 44, .ref 45, .ref 47, .ref 49, .ref 54, .ref 57, .int ab2, .int be2] from rfl) (fun q _ h2 => cellC_ab h2)]
theorem hX_o13 : isO ((hX h ab be V O D).2.2 13) 6 := by rw [hC_13]; exact isO_O
theorem hX_o45 : isO ((hX h ab be V O D).2.2 45) 2 := by rw [hC_45]; exact isO_O
theorem hX_o47 : isO ((hX h ab be V O D).2.2 47) 1 := by rw [hC_47]; exact isO_O
theorem hX_o49 : isO ((hX h ab be V O D).2.2 49) 4 := by rw [hC_49]; exact isO_O
theorem hX_o54 : isO ((hX h ab be V O D).2.2 54) 0 := by rw [hC_54]; exact isO_O
theorem hC_self (e : ∀ j, (j = 13 ∨ (45 ≤ j ∧ j < 58)) → h.2.2 j = cellC ab be V O j) : hC h ab be V O = h := by
  refine Prod.ext rfl (Prod.ext rfl (funext fun q => ?_))
  show (if q = 13 ∨ (45 ≤ q ∧ q < 58) then cellC ab be V O q else h.2.2 q) = h.2.2 q
  by_cases e2 : q = 13 ∨ (45 ≤ q ∧ q < 58)
  · rw [if_pos e2, e q e2]
  · rw [if_neg e2]
theorem hX_self (e : ∀ j, (j = 13 ∨ (45 ≤ j ∧ j < 58)) → h.2.2 j = cellC ab be V O j) (e2 : ∀ j, j < 15 → h.2.2 (14 + j) = cellU 14 D j) : hX h ab be V O D = h := by
  show hU (hC h ab be V O) 14 D = h
  rw [hC_self e, hU_self e2]
theorem hX_out {j : Nat} (hj : j < 13 ∨ (29 ≤ j ∧ j < 45) ∨ 58 ≤ j) : (hX h ab be V O D).2.2 j = h.2.2 j := by
  show (hU (hC h ab be V O) 14 D).2.2 j = h.2.2 j
  rw [hU_out (by omega), hC_out (by omega)]
theorem hX_C {j : Nat} (hj : j = 13 ∨ (45 ≤ j ∧ j < 58)) : (hX h ab be V O D).2.2 j = cellC ab be V O j := by
  show (hU (hC h ab be V O) 14 D).2.2 j = _
  rw [hU_out (by omega), hC_at hj]
theorem hX_U {j : Nat} (hj : j < 15) : (hX h ab be V O D).2.2 (14 + j) = cellU 14 D j := hU_at hj
/-- refusals -/
theorem C_refB {d : Nat} {Q : Pst} {u : Value} : T (d + 1) 116 0 [.ref 13, .int (-2), u] [] (hX h ab be V O D) Q ↔ Q (some (.int (-2))) (hX h ab be V (wA O 57 (rfU (O 57) 0)) D) := by
  have e : (-2 : Int32) - -2 = nI 0 := rfl
  simp (disch := first | assumption | omega | decide | exact hU_o | exact hU_o7 | exact hU_o9 | exact hU_o11 | exact hU_o13) only [t116_0, t116_2, t116_3, t116_4, t116_5, t116_6, t116_9, t116_10, t116_11, t116_14, t116_15, t116_18, t116_19, t116_20, t116_23, t116_24, hU_0, hU_7, hU_9, hU_11, hU_13, gF_5_0, gF_5_1, gF_5_2, gF_5_3, gF_5_4, gF_5_5, gF_5_6, gF_5_7, gF_5_8, gF_5_9, gF_5_10, gF_5_11, gF_5_12, gF_5_13, gF_3_0, gF_3_1, gF_3_2, gF_3_3, ln_add, nl_add, ln_mul, nl_mul, nI_add, nI_1, i32_nl, ite_not, lt_nn, lt_nl, lt_ln, eq_nn, eq_nl, eq_ln, if_true, if_false, kil_i, kil_r, kil_l, kil_u, rl_s, rl_n, Nat.zero_add, Nat.lt_irrefl, not_true_eq_false, not_false_eq_true, true_and, dp_1, dp_2, dp_3, dp_4, dp_5, dp_6, dp_7, dp_8, dp_9, dp_10, dp_11, dp_12, dp_13, dp_14, dp_15, dp_16, dp_17, dp_18, dp_19, dp_20, dp_21, dp_22, dp_23, dp_24, dp_25, dp_26, dp_27, dp_28, dp_29, dp_30, dp_31, dp_32, dp_33, dp_34, dp_35, dp_36, dp_37, dp_38, dp_39, e, hC_13, hC_57, hC_u57, gF_6_7, G_n (hC_57 (h := h) (ab := ab) (be := be) (V := V) (O := O) (D := D)) (show 0 < 3 by decide) (by decide), P_n (hC_57 (h := h) (ab := ab) (be := be) (V := V) (O := O) (D := D)) (show 0 < 3 by decide) (by decide), rfU]
theorem C_refN {d : Nat} {Q : Pst} {u : Value} : T (d + 1) 116 0 [.ref 13, .int (-3), u] [] (hX h ab be V O D) Q ↔ Q (some (.int (-3))) (hX h ab be V (wA O 57 (rfU (O 57) 1)) D) := by
  have e : (-2 : Int32) - -3 = nI 1 := rfl
  simp (disch := first | assumption | omega | decide | exact hU_o | exact hU_o7 | exact hU_o9 | exact hU_o11 | exact hU_o13) only [t116_0, t116_2, t116_3, t116_4, t116_5, t116_6, t116_9, t116_10, t116_11, t116_14, t116_15, t116_18, t116_19, t116_20, t116_23, t116_24, hU_0, hU_7, hU_9, hU_11, hU_13, gF_5_0, gF_5_1, gF_5_2, gF_5_3, gF_5_4, gF_5_5, gF_5_6, gF_5_7, gF_5_8, gF_5_9, gF_5_10, gF_5_11, gF_5_12, gF_5_13, gF_3_0, gF_3_1, gF_3_2, gF_3_3, ln_add, nl_add, ln_mul, nl_mul, nI_add, nI_1, i32_nl, ite_not, lt_nn, lt_nl, lt_ln, eq_nn, eq_nl, eq_ln, if_true, if_false, kil_i, kil_r, kil_l, kil_u, rl_s, rl_n, Nat.zero_add, Nat.lt_irrefl, not_true_eq_false, not_false_eq_true, true_and, dp_1, dp_2, dp_3, dp_4, dp_5, dp_6, dp_7, dp_8, dp_9, dp_10, dp_11, dp_12, dp_13, dp_14, dp_15, dp_16, dp_17, dp_18, dp_19, dp_20, dp_21, dp_22, dp_23, dp_24, dp_25, dp_26, dp_27, dp_28, dp_29, dp_30, dp_31, dp_32, dp_33, dp_34, dp_35, dp_36, dp_37, dp_38, dp_39, e, hC_13, hC_57, hC_u57, gF_6_7, G_n (hC_57 (h := h) (ab := ab) (be := be) (V := V) (O := O) (D := D)) (show 1 < 3 by decide) (by decide), P_n (hC_57 (h := h) (ab := ab) (be := be) (V := V) (O := O) (D := D)) (show 1 < 3 by decide) (by decide), rfU]
theorem C_refF {d : Nat} {Q : Pst} {u : Value} : T (d + 1) 116 0 [.ref 13, .int (-4), u] [] (hX h ab be V O D) Q ↔ Q (some (.int (-4))) (hX h ab be V (wA O 57 (rfU (O 57) 2)) D) := by
  have e : (-2 : Int32) - -4 = nI 2 := rfl
  simp (disch := first | assumption | omega | decide | exact hU_o | exact hU_o7 | exact hU_o9 | exact hU_o11 | exact hU_o13) only [t116_0, t116_2, t116_3, t116_4, t116_5, t116_6, t116_9, t116_10, t116_11, t116_14, t116_15, t116_18, t116_19, t116_20, t116_23, t116_24, hU_0, hU_7, hU_9, hU_11, hU_13, gF_5_0, gF_5_1, gF_5_2, gF_5_3, gF_5_4, gF_5_5, gF_5_6, gF_5_7, gF_5_8, gF_5_9, gF_5_10, gF_5_11, gF_5_12, gF_5_13, gF_3_0, gF_3_1, gF_3_2, gF_3_3, ln_add, nl_add, ln_mul, nl_mul, nI_add, nI_1, i32_nl, ite_not, lt_nn, lt_nl, lt_ln, eq_nn, eq_nl, eq_ln, if_true, if_false, kil_i, kil_r, kil_l, kil_u, rl_s, rl_n, Nat.zero_add, Nat.lt_irrefl, not_true_eq_false, not_false_eq_true, true_and, dp_1, dp_2, dp_3, dp_4, dp_5, dp_6, dp_7, dp_8, dp_9, dp_10, dp_11, dp_12, dp_13, dp_14, dp_15, dp_16, dp_17, dp_18, dp_19, dp_20, dp_21, dp_22, dp_23, dp_24, dp_25, dp_26, dp_27, dp_28, dp_29, dp_30, dp_31, dp_32, dp_33, dp_34, dp_35, dp_36, dp_37, dp_38, dp_39, e, hC_13, hC_57, hC_u57, gF_6_7, G_n (hC_57 (h := h) (ab := ab) (be := be) (V := V) (O := O) (D := D)) (show 2 < 3 by decide) (by decide), P_n (hC_57 (h := h) (ab := ab) (be := be) (V := V) (O := O) (D := D)) (show 2 < 3 by decide) (by decide), rfU]
end C0
