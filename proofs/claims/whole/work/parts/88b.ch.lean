/-! how many bits -/
theorem and_spl {p q r s : Nat} (hp : p < 256) (hr : r < 256) : (p + 256 * q) &&& (r + 256 * s) = (p &&& r) + 256 * (q &&& s) := by
  have h1 : ((p + 256 * q) &&& (r + 256 * s)) % 2 ^ 8 = p &&& r := by
    rw [Nat.and_mod_two_pow]
    congr 1 <;> omega
  have h2 : ((p + 256 * q) &&& (r + 256 * s)) / 2 ^ 8 = q &&& s := by
    rw [Nat.and_div_two_pow]
    congr 1 <;> omega
  have h3 := Nat.div_add_mod ((p + 256 * q) &&& (r + 256 * s)) (2 ^ 8)
  rw [h1, h2] at h3
  omega
def k1 (x : Nat) : Nat := x - ((x / 2) &&& 85)
def k2 (x : Nat) : Nat := (x &&& 51) + ((x / 4) &&& 51)
def k3 (x : Nat) : Nat := (x + x / 16) &&& 15
def p8 (x : Nat) : Nat := x % 2 + x / 2 % 2 + x / 4 % 2 + x / 8 % 2 + x / 16 % 2 + x / 32 % 2 + x / 64 % 2 + x / 128 % 2
set_option maxRecDepth 100000 in
theorem f1 : ∀ p, p < 256 → ∀ c, c < 2 → ((p / 2 + 128 * c) &&& 85 = (p / 2) &&& 85) ∧ (p / 2) &&& 85 ≤ p := by decide +kernel
set_option maxRecDepth 100000 in
theorem f2 : ∀ p, p < 256 → ∀ c, c < 4 → (p / 4 + 64 * c) &&& 51 = (p / 4) &&& 51 := by decide +kernel
set_option maxRecDepth 100000 in
theorem f3 : ∀ p, p ≤ 68 → ∀ c, c ≤ 4 → (p + p / 16 + 16 * c) &&& 15 = k3 p := by decide +kernel
set_option maxRecDepth 100000 in
theorem f4 : ∀ x, x < 256 → k1 x < 256 ∧ k2 (k1 x) ≤ 68 ∧ k2 (k1 x) % 16 ≤ 4 ∧ k3 (k2 (k1 x)) = p8 x ∧ p8 x ≤ 8 := by decide +kernel
def s1 (M x : Nat) : Nat := x - ((x / 2) &&& M)
def s2 (M x : Nat) : Nat := (x &&& M) + ((x / 4) &&& M)
def s3 (M x : Nat) : Nat := (x + x / 16) &&& M
theorem s1_s {p q M : Nat} (hp : p < 256) : s1 (85 + 256 * M) (p + 256 * q) = k1 p + 256 * s1 M q := by
  unfold s1 k1
  have e : (p + 256 * q) / 2 = (p / 2 + 128 * (q % 2)) + 256 * (q / 2) := by omega
  obtain ⟨g1, g2⟩ := f1 p hp (q % 2) (Nat.mod_lt _ (by decide))
  rw [e, and_spl (by omega) (by decide), g1]
  have g3 : (q / 2) &&& M ≤ q / 2 := Nat.and_le_left
  omega
theorem s2_s {p q M : Nat} (hp : p < 256) : s2 (51 + 256 * M) (p + 256 * q) = k2 p + 256 * s2 M q := by
  unfold s2 k2
  have e : (p + 256 * q) / 4 = (p / 4 + 64 * (q % 4)) + 256 * (q / 4) := by omega
  have g1 := f2 p hp (q % 4) (Nat.mod_lt _ (by decide))
  rw [e, and_spl hp (by decide), and_spl (by omega) (by decide), g1]
  omega
theorem s3_s {p q M : Nat} (hp : p ≤ 68) (hq : q % 16 ≤ 4) : s3 (15 + 256 * M) (p + 256 * q) = k3 p + 256 * s3 M q := by
  unfold s3
  have e : p + 256 * q + (p + 256 * q) / 16 = (p + p / 16 + 16 * (q % 16)) + 256 * (q + q / 16) := by omega
  have g1 := f3 p hp (q % 16) hq
  rw [e, and_spl (by omega) (by decide), g1]
def bcN (v : Nat) : Nat :=
  let c := s3 252645135 (s2 858993459 (s1 1431655765 v))
  let e := c + c / 256
  (e + e / 65536) % 64
theorem bcN_p {b0 b1 b2 b3 : Nat} (h0 : b0 < 256) (h1 : b1 < 256) (h2 : b2 < 256) (h3 : b3 < 256) : bcN (b0 + 256 * (b1 + 256 * (b2 + 256 * b3))) = p8 b0 + p8 b1 + p8 b2 + p8 b3 := by
  obtain ⟨x0, y0, z0, w0, v0⟩ := f4 b0 h0
  obtain ⟨x1, y1, z1, w1, v1⟩ := f4 b1 h1
  obtain ⟨x2, y2, z2, w2, v2⟩ := f4 b2 h2
  obtain ⟨x3, y3, z3, w3, v3⟩ := f4 b3 h3
  have e1 : s1 1431655765 (b0 + 256 * (b1 + 256 * (b2 + 256 * b3))) = k1 b0 + 256 * (k1 b1 + 256 * (k1 b2 + 256 * k1 b3)) := by
    rw [show 1431655765 = 85 + 256 * (85 + 256 * (85 + 256 * 85)) from rfl, s1_s h0, s1_s h1, s1_s h2]
    rfl
  have e2 : s2 858993459 (k1 b0 + 256 * (k1 b1 + 256 * (k1 b2 + 256 * k1 b3))) = k2 (k1 b0) + 256 * (k2 (k1 b1) + 256 * (k2 (k1 b2) + 256 * k2 (k1 b3))) := by
    rw [show 858993459 = 51 + 256 * (51 + 256 * (51 + 256 * 51)) from rfl, s2_s x0, s2_s x1, s2_s x2]
    rfl
  have e3 : s3 252645135 (k2 (k1 b0) + 256 * (k2 (k1 b1) + 256 * (k2 (k1 b2) + 256 * k2 (k1 b3)))) = p8 b0 + 256 * (p8 b1 + 256 * (p8 b2 + 256 * p8 b3)) := by
    rw [show 252645135 = 15 + 256 * (15 + 256 * (15 + 256 * 15)) from rfl, s3_s y0 (by omega), s3_s y1 (by omega), s3_s y2 (by omega), w0, w1, w2]
    show _ + 256 * (_ + 256 * (_ + 256 * k3 (k2 (k1 b3)))) = _
    rw [w3]
  unfold bcN
  rw [e1, e2, e3]
  simp only []
  clear e1 e2 e3 w0 w1 w2 w3 x0 x1 x2 x3 y0 y1 y2 y3 z0 z1 z2 z3
  generalize p8 b0 = c0 at *
  generalize p8 b1 = c1 at *
  generalize p8 b2 = c2 at *
  generalize p8 b3 = c3 at *
  have g1 : (c0 + 256 * (c1 + 256 * (c2 + 256 * c3))) / 256 = c1 + 256 * (c2 + 256 * c3) := by omega
  rw [g1]
  have g2 : (c0 + 256 * (c1 + 256 * (c2 + 256 * c3)) + (c1 + 256 * (c2 + 256 * c3))) / 65536 = c2 + c3 + 256 * c3 := by omega
  rw [g2]
  omega
theorem ush_n {v : Nat} (hv : v < 2 ^ 32) (s : Int32) (k : Nat) (hs : ((s.toUInt32 &&& Int32.toUInt32 31).toBitVec % 32).toNat = k) : ((nI v).toUInt32 >>> (s.toUInt32 &&& Int32.toUInt32 31)).toInt32 = nI (v / 2 ^ k) := pk_ushrN hv s k hs
theorem bc_n {v : Nat} (hv : v < 2 ^ 31) : bc (nI v) = nI (bcN v) := by
  have a1 : (v / 2) &&& 1431655765 ≤ v / 2 := Nat.and_le_left
  have e1 : nI v - (((nI v).toUInt32 >>> ((1 : Int32).toUInt32 &&& Int32.toUInt32 31)).toInt32 &&& 1431655765) = nI (s1 1431655765 v) := by
    rw [ush_n (by omega) 1 1 (by decide), show (1431655765 : Int32) = nI 1431655765 from rfl, and_nn, pk_sub (Nat.le_trans Nat.and_le_left (Nat.div_le_self _ _))]
    rfl
  have l1 : s1 1431655765 v < 2 ^ 31 := by unfold s1; omega
  have e2 : (nI (s1 1431655765 v) &&& 858993459) + (((nI (s1 1431655765 v)).toUInt32 >>> ((2 : Int32).toUInt32 &&& Int32.toUInt32 31)).toInt32 &&& 858993459) = nI (s2 858993459 (s1 1431655765 v)) := by
    rw [ush_n (by omega) 2 2 (by decide), show (858993459 : Int32) = nI 858993459 from rfl, and_nn, and_nn, nI_add]
    rfl
  have l2 : s2 858993459 (s1 1431655765 v) < 2 ^ 31 := by
    unfold s2
    have h1 : s1 1431655765 v &&& 858993459 ≤ 858993459 := Nat.and_le_right
    have h2 : s1 1431655765 v / 4 &&& 858993459 ≤ 858993459 := Nat.and_le_right
    omega
  generalize hb2 : s2 858993459 (s1 1431655765 v) = b at *
  have e3 : nI b + ((nI b).toUInt32 >>> ((4 : Int32).toUInt32 &&& Int32.toUInt32 31)).toInt32 &&& 252645135 = nI (s3 252645135 b) := by
    rw [ush_n (by omega) 4 4 (by decide), show (252645135 : Int32) = nI 252645135 from rfl, nI_add, and_nn]
    rfl
  have l3 : s3 252645135 b ≤ 252645135 := Nat.and_le_right
  unfold bc bcN
  simp only []
  rw [e1, e2, e3, hb2]
  generalize s3 252645135 b = c at *
  have e4 : nI c + ((nI c).toUInt32 >>> ((8 : Int32).toUInt32 &&& Int32.toUInt32 31)).toInt32 = nI (c + c / 256) := by
    rw [ush_n (by omega) 8 8 (by decide), nI_add]
  rw [e4]
  have e5 : nI (c + c / 256) + ((nI (c + c / 256)).toUInt32 >>> ((16 : Int32).toUInt32 &&& Int32.toUInt32 31)).toInt32 = nI (c + c / 256 + (c + c / 256) / 65536) := by
    rw [ush_n (by omega) 16 16 (by decide), nI_add]
  rw [e5, show (63 : Int32) = nI 63 from rfl, and_nn]
  congr 1
  exact Nat.and_two_pow_sub_one_eq_mod _ 6
/-- how many of the sizes -/
def cN30 (p : Nat → Bool) : Nat → Nat
  | 0 => 0
  | n + 1 => cN30 p n + bN (p n)
theorem bc_vB (p : Nat → Bool) : bc (nI (vB p 30)) = nI (cN30 p 30) := by
  have hv := vB_lt p 30
  rw [bc_n hv]
  congr 1
  have e : vB p 30 = vB p 30 % 256 + 256 * (vB p 30 / 256 % 256 + 256 * (vB p 30 / 65536 % 256 + 256 * (vB p 30 / 16777216))) := by omega
  rw [e, bcN_p (by omega) (by omega) (by omega) (by omega)]
  have h0 := vB_0 p 30
  have hb : ∀ k, k < 30 → vB p 30 / 2 ^ (k + 1) % 2 = bN (p k) := vB_bit p 30
  have b0 := hb 0 (by decide); have b1 := hb 1 (by decide); have b2 := hb 2 (by decide); have b3 := hb 3 (by decide); have b4 := hb 4 (by decide); have b5 := hb 5 (by decide); have b6 := hb 6 (by decide); have b7 := hb 7 (by decide); have b8 := hb 8 (by decide); have b9 := hb 9 (by decide)
  have b10 := hb 10 (by decide); have b11 := hb 11 (by decide); have b12 := hb 12 (by decide); have b13 := hb 13 (by decide); have b14 := hb 14 (by decide); have b15 := hb 15 (by decide); have b16 := hb 16 (by decide); have b17 := hb 17 (by decide); have b18 := hb 18 (by decide); have b19 := hb 19 (by decide)
  have b20 := hb 20 (by decide); have b21 := hb 21 (by decide); have b22 := hb 22 (by decide); have b23 := hb 23 (by decide); have b24 := hb 24 (by decide); have b25 := hb 25 (by decide); have b26 := hb 26 (by decide); have b27 := hb 27 (by decide); have b28 := hb 28 (by decide); have b29 := hb 29 (by decide)
  simp only [cN30, ← b0, ← b1, ← b2, ← b3, ← b4, ← b5, ← b6, ← b7, ← b8, ← b9, ← b10, ← b11, ← b12, ← b13, ← b14, ← b15, ← b16, ← b17, ← b18, ← b19, ← b20, ← b21, ← b22, ← b23, ← b24, ← b25, ← b26, ← b27, ← b28, ← b29]
  generalize vB p 30 = v at *
  unfold p8
  clear b0 b1 b2 b3 b4 b5 b6 b7 b8 b9 b10 b11 b12 b13 b14 b15 b16 b17 b18 b19 b20 b21 b22 b23 b24 b25 b26 b27 b28 b29 hb e
  have z31 : v / 2147483648 = 0 := Nat.div_eq_of_lt hv
  have d : ∀ a b, v / a / b = v / (a * b) := fun a b => Nat.div_div_eq_div_mul v a b
  have m0 : ∀ j, j < 8 → v % 256 / 2 ^ j % 2 = v / 2 ^ j % 2 := by
    intro j hj
    match j, hj with
    | 0, _ => omega
    | 1, _ => omega
    | 2, _ => omega
    | 3, _ => omega
    | 4, _ => omega
    | 5, _ => omega
    | 6, _ => omega
    | 7, _ => omega
  have mg : ∀ w j, j < 8 → w % 256 / 2 ^ j % 2 = w / 2 ^ j % 2 := by
    intro w j hj
    match j, hj with
    | 0, _ => omega
    | 1, _ => omega
    | 2, _ => omega
    | 3, _ => omega
    | 4, _ => omega
    | 5, _ => omega
    | 6, _ => omega
    | 7, _ => omega
  have g1 := fun j hj => mg (v / 256) j hj
  have g2 := fun j hj => mg (v / 65536) j hj
  simp only [Nat.reducePow, Nat.reduceAdd] at m0 g1 g2 ⊢
  have q0 := m0 1 (by decide); have q1 := m0 2 (by decide); have q2 := m0 3 (by decide); have q3 := m0 4 (by decide); have q4 := m0 5 (by decide); have q5 := m0 6 (by decide); have q6 := m0 7 (by decide)
  have r0 := g1 0 (by decide); have r1 := g1 1 (by decide); have r2 := g1 2 (by decide); have r3 := g1 3 (by decide); have r4 := g1 4 (by decide); have r5 := g1 5 (by decide); have r6 := g1 6 (by decide); have r7 := g1 7 (by decide)
  have t0 := g2 0 (by decide); have t1 := g2 1 (by decide); have t2 := g2 2 (by decide); have t3 := g2 3 (by decide); have t4 := g2 4 (by decide); have t5 := g2 5 (by decide); have t6 := g2 6 (by decide); have t7 := g2 7 (by decide)
  simp only [Nat.reducePow, Nat.div_one, Nat.div_div_eq_div_mul, Nat.reduceMul] at q0 q1 q2 q3 q4 q5 q6 r0 r1 r2 r3 r4 r5 r6 r7 t0 t1 t2 t3 t4 t5 t6 t7 ⊢
  have hm : v % 256 % 2 = 0 := by omega
  have z128 : v / 16777216 / 128 = 0 := by rw [Nat.div_div_eq_div_mul]; exact z31
  rw [q0, q1, q2, q3, q4, q5, q6, r0, r1, r2, r3, r4, r5, r6, r7, t0, t1, t2, t3, t4, t5, t6, t7, hm]
  rw [z31]
  omega
