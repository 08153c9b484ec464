/-! the class: one uplands, fifteen cells from b on, told by their contents -/
def fq (x0 x1 x2 x3 : Int32) (k : Nat) : Int32 := match k with
  | 0 => x0
  | 1 => x1
  | 2 => x2
  | _ => x3
def cellU (b : Nat) (D : Nat → Nat → Int32) (j : Nat) : AC := match j with
  | 0 => oO 5 [.ref (b + 1), .ref (b + 2), .ref (b + 3), .ref (b + 4), .ref (b + 5), .ref (b + 6), .ref (b + 7), .ref (b + 9), .ref (b + 11), .ref (b + 13), .int (D 0 0), .int (D 0 1), .int (D 0 2), .int (D 0 3)]
  | 1 => oI 6 (D 1)
  | 2 => oI 6 (D 2)
  | 3 => oI 6 (D 3)
  | 4 => oI 4 (D 4)
  | 5 => oI 4 (D 5)
  | 6 => oI 4 (D 6)
  | 7 => oO 3 [.int 5, .int 4, .ref (b + 8), .int (D 7 0)]
  | 8 => oI 20 (D 8)
  | 9 => oO 3 [.int 6, .int 4, .ref (b + 10), .int (D 9 0)]
  | 10 => oI 24 (D 10)
  | 11 => oO 3 [.int 6, .int 5, .ref (b + 12), .int (D 11 0)]
  | 12 => oI 30 (D 12)
  | 13 => oO 3 [.int 8, .int 12, .ref (b + 14), .int (D 13 0)]
  | _ => oI 96 (D 14)
def hU (h : Hp) (b : Nat) (D : Nat → Nat → Int32) : Hp := (h.1, h.2.1, fun j => if b ≤ j ∧ j < b + 15 then cellU b D (j - b) else h.2.2 j)
/-- one array anew; one number anew -/
def wA (D : Nat → Nat → Int32) (a : Nat) (f : Nat → Int32) : Nat → Nat → Int32 := fun q => if q = a then f else D q
def wN (D : Nat → Nat → Int32) (a : Nat) (x : Int32) : Nat → Nat → Int32 := wA D a (fun _ => x)
section U0
variable {h : Hp} {b : Nat} {D : Nat → Nat → Int32}
theorem wA_s {a : Nat} {f : Nat → Int32} : wA D a f a = f := by unfold wA; rw [if_pos rfl]
theorem wA_o {a q : Nat} {f : Nat → Int32} (hq : q ≠ a) : wA D a f q = D q := by unfold wA; rw [if_neg hq]
theorem hU_at {j : Nat} (hj : j < 15) : (hU h b D).2.2 (b + j) = cellU b D j := by
  show (if b ≤ b + j ∧ b + j < b + 15 then cellU b D (b + j - b) else h.2.2 (b + j)) = cellU b D j
  rw [if_pos ⟨by omega, by omega⟩, Nat.add_sub_cancel_left]
theorem hU_out {j : Nat} (hj : j < b ∨ b + 15 ≤ j) : (hU h b D).2.2 j = h.2.2 j := by
  show (if b ≤ j ∧ j < b + 15 then cellU b D (j - b) else h.2.2 j) = h.2.2 j
  rw [if_neg (by omega)]
theorem hU_0 : (hU h b D).2.2 b = oO 5 [.ref (b + 1), .ref (b + 2), .ref (b + 3), .ref (b + 4), .ref (b + 5), .ref (b + 6), .ref (b + 7), .ref (b + 9), .ref (b + 11), .ref (b + 13), .int (D 0 0), .int (D 0 1), .int (D 0 2), .int (D 0 3)] := hU_at (j := 0) (by decide)
theorem hU_1 : (hU h b D).2.2 (b + 1) = oI 6 (D 1) := hU_at (j := 1) (by decide)
theorem hU_2 : (hU h b D).2.2 (b + 2) = oI 6 (D 2) := hU_at (j := 2) (by decide)
theorem hU_3 : (hU h b D).2.2 (b + 3) = oI 6 (D 3) := hU_at (j := 3) (by decide)
theorem hU_4 : (hU h b D).2.2 (b + 4) = oI 4 (D 4) := hU_at (j := 4) (by decide)
theorem hU_5 : (hU h b D).2.2 (b + 5) = oI 4 (D 5) := hU_at (j := 5) (by decide)
theorem hU_6 : (hU h b D).2.2 (b + 6) = oI 4 (D 6) := hU_at (j := 6) (by decide)
theorem hU_7 : (hU h b D).2.2 (b + 7) = oO 3 [.int 5, .int 4, .ref (b + 8), .int (D 7 0)] := hU_at (j := 7) (by decide)
theorem hU_8 : (hU h b D).2.2 (b + 8) = oI 20 (D 8) := hU_at (j := 8) (by decide)
theorem hU_9 : (hU h b D).2.2 (b + 9) = oO 3 [.int 6, .int 4, .ref (b + 10), .int (D 9 0)] := hU_at (j := 9) (by decide)
theorem hU_10 : (hU h b D).2.2 (b + 10) = oI 24 (D 10) := hU_at (j := 10) (by decide)
theorem hU_11 : (hU h b D).2.2 (b + 11) = oO 3 [.int 6, .int 5, .ref (b + 12), .int (D 11 0)] := hU_at (j := 11) (by decide)
theorem hU_12 : (hU h b D).2.2 (b + 12) = oI 30 (D 12) := hU_at (j := 12) (by decide)
theorem hU_13 : (hU h b D).2.2 (b + 13) = oO 3 [.int 8, .int 12, .ref (b + 14), .int (D 13 0)] := hU_at (j := 13) (by decide)
theorem hU_14 : (hU h b D).2.2 (b + 14) = oI 96 (D 14) := hU_at (j := 14) (by decide)
theorem hU_o : isO ((hU h b D).2.2 b) 5 := by rw [hU_0]; exact isO_O
theorem hU_o7 : isO ((hU h b D).2.2 (b + 7)) 3 := by rw [hU_7]; exact isO_O
theorem hU_o9 : isO ((hU h b D).2.2 (b + 9)) 3 := by rw [hU_9]; exact isO_O
theorem hU_o11 : isO ((hU h b D).2.2 (b + 11)) 3 := by rw [hU_11]; exact isO_O
theorem hU_o13 : isO ((hU h b D).2.2 (b + 13)) 3 := by rw [hU_13]; exact isO_O
/-- a cell of it anew -/
theorem hU_up {j : Nat} {D2 : Nat → Nat → Int32} {c : AC} (hj : j < 15) (hc : cellU b D2 j = c) (ho : ∀ q, q < 15 → q ≠ j → cellU b D2 q = cellU b D q) : hup (hU h b D) (b + j) c = hU h b D2 := by
  refine Prod.ext rfl (Prod.ext rfl (funext fun q => ?_))
  show (if q = b + j then c else (if b ≤ q ∧ q < b + 15 then cellU b D (q - b) else h.2.2 q)) = (if b ≤ q ∧ q < b + 15 then cellU b D2 (q - b) else h.2.2 q)
  by_cases e : q = b + j
  · rw [if_pos e, if_pos (by omega), e, Nat.add_sub_cancel_left, hc]
  · rw [if_neg e]
    by_cases e2 : b ≤ q ∧ q < b + 15
    · rw [if_pos e2, if_pos e2, ho (q - b) (by omega) (by omega)]
    · rw [if_neg e2, if_neg e2]
theorem cellU_o {a : Nat} {f : Nat → Int32} {q : Nat} (h1 : q ≠ a) (hq : q < 15) : cellU b (wA D a f) q = cellU b D q := by
  have e0 : (wA D a f) q = D q := wA_o h1
  match q, hq with
  | 0, _ => simp only [cellU, e0]
  | 1, _ => simp only [cellU, e0]
  | 2, _ => simp only [cellU, e0]
  | 3, _ => simp only [cellU, e0]
  | 4, _ => simp only [cellU, e0]
  | 5, _ => simp only [cellU, e0]
  | 6, _ => simp only [cellU, e0]
  | 7, _ => simp only [cellU, e0]
  | 8, _ => simp only [cellU, e0]
  | 9, _ => simp only [cellU, e0]
  | 10, _ => simp only [cellU, e0]
  | 11, _ => simp only [cellU, e0]
  | 12, _ => simp only [cellU, e0]
  | 13, _ => simp only [cellU, e0]
  | 14, _ => simp only [cellU, e0]
theorem hU_u1 {f : Nat → Int32} : hup (hU h b D) (b + 1) (oI 6 f) = hU h b (wA D 1 f) := hU_up (by decide) (by show oI 6 (wA D 1 f 1) = _; rw [wA_s]) (fun q h1 h2 => cellU_o h2 h1)
theorem hU_u2 {f : Nat → Int32} : hup (hU h b D) (b + 2) (oI 6 f) = hU h b (wA D 2 f) := hU_up (by decide) (by show oI 6 (wA D 2 f 2) = _; rw [wA_s]) (fun q h1 h2 => cellU_o h2 h1)
theorem hU_u3 {f : Nat → Int32} : hup (hU h b D) (b + 3) (oI 6 f) = hU h b (wA D 3 f) := hU_up (by decide) (by show oI 6 (wA D 3 f 3) = _; rw [wA_s]) (fun q h1 h2 => cellU_o h2 h1)
theorem hU_u4 {f : Nat → Int32} : hup (hU h b D) (b + 4) (oI 4 f) = hU h b (wA D 4 f) := hU_up (by decide) (by show oI 4 (wA D 4 f 4) = _; rw [wA_s]) (fun q h1 h2 => cellU_o h2 h1)
theorem hU_u5 {f : Nat → Int32} : hup (hU h b D) (b + 5) (oI 4 f) = hU h b (wA D 5 f) := hU_up (by decide) (by show oI 4 (wA D 5 f 5) = _; rw [wA_s]) (fun q h1 h2 => cellU_o h2 h1)
theorem hU_u6 {f : Nat → Int32} : hup (hU h b D) (b + 6) (oI 4 f) = hU h b (wA D 6 f) := hU_up (by decide) (by show oI 4 (wA D 6 f 6) = _; rw [wA_s]) (fun q h1 h2 => cellU_o h2 h1)
theorem hU_u8 {f : Nat → Int32} : hup (hU h b D) (b + 8) (oI 20 f) = hU h b (wA D 8 f) := hU_up (by decide) (by show oI 20 (wA D 8 f 8) = _; rw [wA_s]) (fun q h1 h2 => cellU_o h2 h1)
theorem hU_u10 {f : Nat → Int32} : hup (hU h b D) (b + 10) (oI 24 f) = hU h b (wA D 10 f) := hU_up (by decide) (by show oI 24 (wA D 10 f 10) = _; rw [wA_s]) (fun q h1 h2 => cellU_o h2 h1)
theorem hU_u12 {f : Nat → Int32} : hup (hU h b D) (b + 12) (oI 30 f) = hU h b (wA D 12 f) := hU_up (by decide) (by show oI 30 (wA D 12 f 12) = _; rw [wA_s]) (fun q h1 h2 => cellU_o h2 h1)
theorem hU_u14 {f : Nat → Int32} : hup (hU h b D) (b + 14) (oI 96 f) = hU h b (wA D 14 f) := hU_up (by decide) (by show oI 96 (wA D 14 f 14) = _; rw [wA_s]) (fun q h1 h2 => cellU_o h2 h1)
theorem hU_u7 {x : Int32} : hup (hU h b D) (b + 7) (oO 3 [.int 5, .int 4, .ref (b + 8), .int x]) = hU h b (wN D 7 x) := hU_up (by decide) (by show oO 3 [.int 5, .int 4, .ref (b + 8), .int (wA D 7 (fun _ => x) 7 0)] = _; rw [wA_s]) (fun q h1 h2 => cellU_o h2 h1)
theorem hU_u9 {x : Int32} : hup (hU h b D) (b + 9) (oO 3 [.int 6, .int 4, .ref (b + 10), .int x]) = hU h b (wN D 9 x) := hU_up (by decide) (by show oO 3 [.int 6, .int 4, .ref (b + 10), .int (wA D 9 (fun _ => x) 9 0)] = _; rw [wA_s]) (fun q h1 h2 => cellU_o h2 h1)
theorem hU_u11 {x : Int32} : hup (hU h b D) (b + 11) (oO 3 [.int 6, .int 5, .ref (b + 12), .int x]) = hU h b (wN D 11 x) := hU_up (by decide) (by show oO 3 [.int 6, .int 5, .ref (b + 12), .int (wA D 11 (fun _ => x) 11 0)] = _; rw [wA_s]) (fun q h1 h2 => cellU_o h2 h1)
theorem hU_u13 {x : Int32} : hup (hU h b D) (b + 13) (oO 3 [.int 8, .int 12, .ref (b + 14), .int x]) = hU h b (wN D 13 x) := hU_up (by decide) (by show oO 3 [.int 8, .int 12, .ref (b + 14), .int (wA D 13 (fun _ => x) 13 0)] = _; rw [wA_s]) (fun q h1 h2 => cellU_o h2 h1)
theorem hU_u0 {x0 x1 x2 x3 : Int32} : hup (hU h b D) b (oO 5 [.ref (b + 1), .ref (b + 2), .ref (b + 3), .ref (b + 4), .ref (b + 5), .ref (b + 6), .ref (b + 7), .ref (b + 9), .ref (b + 11), .ref (b + 13), .int x0, .int x1, .int x2, .int x3]) = hU h b (wA D 0 (fq x0 x1 x2 x3)) := hU_up (j := 0) (by decide) (by show oO 5 [.ref (b + 1), .ref (b + 2), .ref (b + 3), .ref (b + 4), .ref (b + 5), .ref (b + 6), .ref (b + 7), .ref (b + 9), .ref (b + 11), .ref (b + 13), .int (wA D 0 (fq x0 x1 x2 x3) 0 0), .int (wA D 0 (fq x0 x1 x2 x3) 0 1), .int (wA D 0 (fq x0 x1 x2 x3) 0 2), .int (wA D 0 (fq x0 x1 x2 x3) 0 3)] = _; rw [wA_s]; rfl) (fun q h1 h2 => cellU_o h2 h1)
theorem hU_hU {D2 : Nat → Nat → Int32} : hU (hU h b D) b D2 = hU h b D2 := by
  refine Prod.ext rfl (Prod.ext rfl (funext fun q => ?_))
  show (if b ≤ q ∧ q < b + 15 then cellU b D2 (q - b) else (if b ≤ q ∧ q < b + 15 then cellU b D (q - b) else h.2.2 q)) = (if b ≤ q ∧ q < b + 15 then cellU b D2 (q - b) else h.2.2 q)
  by_cases e2 : b ≤ q ∧ q < b + 15
  · rw [if_pos e2, if_pos e2]
  · rw [if_neg e2, if_neg e2, if_neg e2]
theorem hU_self (e : ∀ j, j < 15 → h.2.2 (b + j) = cellU b D j) : hU h b D = h := by
  refine Prod.ext rfl (Prod.ext rfl (funext fun q => ?_))
  show (if b ≤ q ∧ q < b + 15 then cellU b D (q - b) else h.2.2 q) = h.2.2 q
  by_cases e2 : b ≤ q ∧ q < b + 15
  · rw [if_pos e2, ← e (q - b) (by omega), show b + (q - b) = q by omega]
  · rw [if_neg e2]
theorem hU_sw {b2 : Nat} {D2 : Nat → Nat → Int32} (hb : b + 15 ≤ b2 ∨ b2 + 15 ≤ b) : hU (hU h b D) b2 D2 = hU (hU h b2 D2) b D := by
  refine Prod.ext rfl (Prod.ext rfl (funext fun q => ?_))
  show (if b2 ≤ q ∧ q < b2 + 15 then cellU b2 D2 (q - b2) else (if b ≤ q ∧ q < b + 15 then cellU b D (q - b) else h.2.2 q)) = (if b ≤ q ∧ q < b + 15 then cellU b D (q - b) else (if b2 ≤ q ∧ q < b2 + 15 then cellU b2 D2 (q - b2) else h.2.2 q))
  by_cases e2 : b2 ≤ q ∧ q < b2 + 15
  · rw [if_pos e2, if_pos e2, if_neg (by omega)]
  · rw [if_neg e2, if_neg e2]
theorem hU_hup {a : Nat} {c : AC} (ha : a < b ∨ b + 15 ≤ a) : hup (hU h b D) a c = hU (hup h a c) b D := by
  refine Prod.ext rfl (Prod.ext rfl (funext fun q => ?_))
  show (if q = a then c else (if b ≤ q ∧ q < b + 15 then cellU b D (q - b) else h.2.2 q)) = (if b ≤ q ∧ q < b + 15 then cellU b D (q - b) else if q = a then c else h.2.2 q)
  by_cases e2 : b ≤ q ∧ q < b + 15
  · rw [if_pos e2, if_pos e2, if_neg (by omega)]
  · rw [if_neg e2, if_neg e2]
end U0
