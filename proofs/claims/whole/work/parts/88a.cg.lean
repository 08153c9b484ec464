/-! sets of sizes as bits -/
theorem nI_bv (a : Nat) : (nI a).toBitVec = BitVec.ofNat 32 a := rfl
theorem or_nn (a b : Nat) : nI a ||| nI b = nI (a ||| b) := by
  apply Int32.toBitVec_inj.mp
  rw [Int32.toBitVec_or, nI_bv, nI_bv, nI_bv]
  apply BitVec.eq_of_toNat_eq
  rw [BitVec.toNat_or, BitVec.toNat_ofNat, BitVec.toNat_ofNat, BitVec.toNat_ofNat, Nat.or_mod_two_pow]
theorem and_nn (a b : Nat) : nI a &&& nI b = nI (a &&& b) := by
  apply Int32.toBitVec_inj.mp
  rw [Int32.toBitVec_and, nI_bv, nI_bv, nI_bv]
  apply BitVec.eq_of_toNat_eq
  rw [BitVec.toNat_and, BitVec.toNat_ofNat, BitVec.toNat_ofNat, BitVec.toNat_ofNat, Nat.and_mod_two_pow]
theorem shl_1 : ∀ k, k < 31 → (1 : Int32) <<< (nI k &&& 31) = nI (2 ^ k) := by decide
theorem smod_k : ∀ k, k < 32 → ((nI k &&& 31).toBitVec.smod 32).toNat = k := by decide
theorem hb_n {v k : Nat} (hv : v < 2 ^ 31) (hk : k < 32) : hb (nI v) (nI k) = nI (v / 2 ^ k % 2) := by
  unfold hb
  rw [pk_shrN hv _ k (smod_k k hk), show (1 : Int32) = nI 1 from rfl, and_nn, Nat.and_one_is_mod]
  have : v / 2 ^ k % 2 < 2 := Nat.mod_lt _ (by decide)
  generalize v / 2 ^ k % 2 = m at *
  match m, this with
  | 0, _ => rfl
  | 1, _ => rfl
/-- the set of the sizes that are so -/
def vB (p : Nat → Bool) : Nat → Nat
  | 0 => 0
  | n + 1 => vB p n + bN (p n) * 2 ^ (n + 1)
theorem bN_le (b : Bool) : bN b ≤ 1 := by cases b <;> decide
theorem vB_lt (p : Nat → Bool) : ∀ n, vB p n < 2 ^ (n + 1) := by
  intro n
  induction n with
  | zero => exact Nat.two_pow_pos 1
  | succ n ih =>
    unfold vB
    have h := bN_le (p n)
    have h2 : bN (p n) * 2 ^ (n + 1) ≤ 1 * 2 ^ (n + 1) := Nat.mul_le_mul_right _ h
    rw [Nat.pow_succ 2 (n + 1)]
    omega
theorem vB_bit (p : Nat → Bool) : ∀ n k, k < n → vB p n / 2 ^ (k + 1) % 2 = bN (p k) := by
  intro n
  induction n with
  | zero => intro k h; omega
  | succ n ih =>
    intro k hk
    unfold vB
    by_cases q : k = n
    · subst q
      have hp : 0 < 2 ^ (k + 1) := Nat.two_pow_pos _
      rw [Nat.mul_comm, Nat.add_mul_div_left _ _ hp, Nat.div_eq_of_lt (vB_lt p k), Nat.zero_add]
      have := bN_le (p k)
      omega
    · have hp : 0 < 2 ^ (k + 1) := Nat.two_pow_pos _
      have e : bN (p n) * 2 ^ (n + 1) = 2 ^ (k + 1) * (2 * (bN (p n) * 2 ^ (n - k - 1))) := by
        have : 2 ^ (n + 1) = 2 ^ (k + 1) * (2 * 2 ^ (n - k - 1)) := by
          rw [← Nat.pow_succ', ← Nat.pow_add]; congr 1; omega
        rw [this, Nat.mul_left_comm, Nat.mul_left_comm (bN (p n)) 2]
      rw [e, Nat.add_mul_div_left _ _ hp, Nat.add_mul_mod_self_left]
      exact ih k (by omega)
theorem vB_0 (p : Nat → Bool) : ∀ n, vB p n % 2 = 0 := by
  intro n
  induction n with
  | zero => rfl
  | succ n ih =>
    unfold vB
    rw [Nat.pow_succ, ← Nat.mul_assoc, Nat.add_mul_mod_self_right]
    exact ih
theorem vB_z (p : Nat → Bool) : ∀ n, vB p n = 0 ↔ ∀ k, k < n → p k = false := by
  intro n
  constructor
  · intro h k hk
    have := vB_bit p n k hk
    rw [h, Nat.zero_div] at this
    cases q : p k with
    | false => rfl
    | true => rw [q] at this; exact absurd this (by decide)
  · induction n with
    | zero => intro _; rfl
    | succ n ih =>
      intro h
      unfold vB
      rw [ih (fun k hk => h k (by omega)), h n (by omega)]
      simp [bN]
/-- the class's way to it -/
def sbF1 (p : Nat → Bool) (n : Nat) (b : Int32) : Int32 := if p n = true then b ||| ((1 : Int32) <<< (nI (1 + n) &&& 31)) else b
theorem sb_v (p : Nat → Bool) : ∀ n m, m + n ≤ 30 → itr (sbF1 p) n m (nI (vB p m)) = nI (vB p (m + n)) := by
  intro n
  induction n with
  | zero => intro m _; rfl
  | succ n ih =>
    intro m hm
    have e : sbF1 p m (nI (vB p m)) = nI (vB p (m + 1)) := by
      unfold sbF1
      show _ = nI (vB p m + bN (p m) * 2 ^ (m + 1))
      cases q : p m with
      | false => rw [if_neg (by decide)]; simp [bN]
      | true =>
        rw [if_pos rfl, shl_1 _ (by omega), or_nn]
        congr 1
        have h := vB_lt p m
        have e2 := Nat.two_pow_add_eq_or_of_lt h 1
        rw [Nat.mul_one] at e2
        rw [show 1 + m = m + 1 by omega, Nat.or_comm, ← e2]
        show 2 ^ (m + 1) + vB p m = vB p m + 1 * 2 ^ (m + 1)
        omega
    unfold itr
    rw [e, ih (m + 1) (by omega), show m + 1 + n = m + (n + 1) by omega]
