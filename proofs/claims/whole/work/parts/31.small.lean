/-! the smallest methods: numbers alone, rows looked up -/
theorem i32_lt {x y : Int32} : x < y ↔ x.toInt < y.toInt := Int32.lt_iff_toInt_lt
theorem i32_le {x y : Int32} : x ≤ y ↔ x.toInt ≤ y.toInt := Int32.le_iff_toInt_le
theorem i32_0 : (0 : Int32).toInt = 0 := by decide
/-- 1 or 0 -/
def zb (c : Prop) [Decidable c] : Int32 := if c then 1 else 0
theorem E_within {d : Nat} {x a b : Int32} {h : Hp} {Q : Pst} : T d 118 0 [.int x, .int a, .int b] [] h Q ↔ Q (some (.int (zb (a ≤ x ∧ x ≤ b)))) h := by
  simp only [t118_0, t118_1, t118_2, t118_5, t118_6, t118_7, t118_10, t118_11, t118_14, t118_15, nar_0, nar_1, true_and, zb, i32_lt, i32_le]
  by_cases h1 : a.toInt ≤ x.toInt <;> by_cases h2 : x.toInt ≤ b.toInt
  · simp [h1, h2, show ¬ x.toInt < a.toInt by omega, show ¬ b.toInt < x.toInt by omega]
  · simp [h2, show ¬ x.toInt < a.toInt by omega, show b.toInt < x.toInt by omega]
  · simp [h1, show x.toInt < a.toInt by omega]
  · simp [h1, show x.toInt < a.toInt by omega]
theorem E_in {d : Nat} {x a b : Int32} {h : Hp} {Q : Pst} : T d 126 0 [.int x, .int a, .int b] [] h Q ↔ Q (some (.int (zb (a ≤ x ∧ x ≤ b)))) h := by
  simp only [t126_0, t126_1, t126_2, t126_5, t126_6, t126_7, t126_10, t126_11, t126_14, t126_15, nar_0, nar_1, true_and, zb, i32_lt, i32_le]
  by_cases h1 : a.toInt ≤ x.toInt <;> by_cases h2 : x.toInt ≤ b.toInt
  · simp [h1, h2, show ¬ x.toInt < a.toInt by omega, show ¬ b.toInt < x.toInt by omega]
  · simp [h2, show ¬ x.toInt < a.toInt by omega, show b.toInt < x.toInt by omega]
  · simp [h1, show x.toInt < a.toInt by omega]
  · simp [h1, show x.toInt < a.toInt by omega]
def hb (s k : Int32) : Int32 := zb ((s >>> (k &&& 31)) &&& 1 = 1)
theorem E_hasBit {d : Nat} {x a : Int32} {h : Hp} {Q : Pst} : T d 119 0 [.int x, .int a] [] h Q ↔ Q (some (.int (hb x a))) h := by
  simp only [t119_0, t119_1, t119_2, t119_3, t119_4, t119_5, t119_6, t119_9, t119_10, t119_13, t119_14, nar_0, nar_1, true_and, hb, zb]
  by_cases h1 : (x >>> (a &&& 31)) &&& 1 = 1 <;> simp [h1]
theorem E_has {d : Nat} {x a : Int32} {h : Hp} {Q : Pst} : T d 127 0 [.int x, .int a] [] h Q ↔ Q (some (.int (hb x a))) h := by
  simp only [t127_0, t127_1, t127_2, t127_3, t127_4, t127_5, t127_6, t127_9, t127_10, t127_13, t127_14, nar_0, nar_1, true_and, hb, zb]
  by_cases h1 : (x >>> (a &&& 31)) &&& 1 = 1 <;> simp [h1]
/-- get: a place of a row; 0 beside it -/
theorem E_get {d a n : Nat} {f : Nat → Int32} {k : Int32} {h : Hp} {Q : Pst} (ha : h.2.2 a = oI n f) (hn : n < 2 ^ 31) : T d 122 0 [.ref a, .int k] [] h Q ↔ Q (some (.int (if 0 ≤ k.toInt ∧ k.toInt < n then f k.toNatClampNeg else 0))) h := by
  have e : (Int32.ofNat n).toInt = n := nI_toInt hn
  simp only [t122_0, t122_1, t122_1N, t122_4, t122_5, t122_8, t122_9, t122_10, t122_11, t122_14, t122_15, t122_16, t122_17, t122_20, t122_21, ha, cN_I, aL_I, i32_lt, i32_le, i32_0, e]
  by_cases h1 : 0 ≤ k.toInt
  · by_cases h2 : k.toInt < n
    · simp [h1, h2, show ¬ k.toInt < 0 by omega, show ¬ (n : Int) ≤ k.toInt by omega]
    · simp [h1, h2, show ¬ k.toInt < 0 by omega, show (n : Int) ≤ k.toInt by omega]
  · simp [h1, show k.toInt < 0 by omega]
theorem E_put {d a n : Nat} {f : Nat → Int32} {k x : Int32} {h : Hp} {Q : Pst} (ha : h.2.2 a = oI n f) (hn : n < 2 ^ 31) : T d 123 0 [.ref a, .int k, .int x] [] h Q ↔ Q none (if 0 ≤ k.toInt ∧ k.toInt < n then hup h a (oI n (upd f k.toNatClampNeg x)) else h) := by
  have e : (Int32.ofNat n).toInt = n := nI_toInt hn
  simp only [t123_0, t123_1, t123_1N, t123_4, t123_5, t123_8, t123_9, t123_10, t123_11, t123_14, t123_15, t123_16, t123_17, t123_18, ha, cN_I, aS_I, i32_lt, i32_le, i32_0, e]
  by_cases h1 : 0 ≤ k.toInt
  · by_cases h2 : k.toInt < n
    · simp [h1, h2, show ¬ k.toInt < 0 by omega, show ¬ (n : Int) ≤ k.toInt by omega]
    · simp [h1, h2, show ¬ k.toInt < 0 by omega, show (n : Int) ≤ k.toInt by omega]
  · simp [h1, show k.toInt < 0 by omega]
