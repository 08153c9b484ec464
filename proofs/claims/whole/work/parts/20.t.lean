/-! what a run comes to, as a rule an instruction -/
theorem ex_succ : ∀ (n d mi pc : Nat) (ls st : List Value) (h : Hp) (x : Option Value × Hp), ex n d mi pc ls st h = some x → ex (n + 1) d mi pc ls st h = some x := by
  intro n
  induction n with
  | zero => intro d mi pc ls st h x e; cases e
  | succ n ih =>
    intro d mi pc ls st h x e
    unfold ex at e ⊢
    split at e
    · rename_i pc' ls' st' h' hs
      exact ih _ _ _ _ _ _ _ e
    · rename_i j as pc' ls' st' h' hs
      split at e
      · rename_i r1 h1 hc
        rw [ih _ _ _ _ _ _ _ hc]
        exact ih _ _ _ _ _ _ _ e
      · cases e
    · rename_i rh hs
      exact e
    · cases e
theorem ex_le {n k d mi pc : Nat} {ls st : List Value} {h : Hp} {x : Option Value × Hp} (hk : n ≤ k) (e : ex n d mi pc ls st h = some x) : ex k d mi pc ls st h = some x := by
  induction hk with
  | refl => exact e
  | step _ ih => exact ex_succ _ _ _ _ _ _ _ _ ih
abbrev Pst : Type := Option Value → Hp → Prop
def T (d mi pc : Nat) (ls st : List Value) (h : Hp) (Q : Pst) : Prop := ∃ (n : Nat) (r : Option Value) (h2 : Hp), ex n d mi pc ls st h = some (r, h2) ∧ Q r h2
theorem T.mono {d mi pc : Nat} {ls st : List Value} {h : Hp} {Q Q2 : Pst} (t : T d mi pc ls st h Q) (k : ∀ r h2, Q r h2 → Q2 r h2) : T d mi pc ls st h Q2 := by
  obtain ⟨n, r, h2, e, q⟩ := t
  exact ⟨n, r, h2, e, k _ _ q⟩
def TA (d mi : Nat) (a : Act) (Q : Pst) : Prop := match a with
  | some (.inl (pc', ls', st', h')) => T d mi pc' ls' st' h' Q
  | some (.inr (.inl (j, as, pc', ls', st', h'))) => T (d - 1) j 0 (ent (mR j).2.2.2.1 as) [] h' (fun r h2 => T d mi pc' ls' (rl r st') h2 Q)
  | some (.inr (.inr (r, h'))) => Q r h'
  | none => False
theorem T_stp {d mi pc : Nat} {ls st : List Value} {h : Hp} {Q : Pst} : T d mi pc ls st h Q ↔ TA d mi (stp d mi pc ls st h) Q := by
  constructor
  · rintro ⟨n, r, h2, e, q⟩
    cases n with
    | zero => cases e
    | succ n =>
      unfold ex at e
      split at e
      · rename_i pc' ls' st' h' hs
        rw [hs]
        exact ⟨n, r, h2, e, q⟩
      · rename_i j as pc' ls' st' h' hs
        rw [hs]
        split at e
        · rename_i r1 h1 hc
          exact ⟨n, r1, h1, hc, n, r, h2, e, q⟩
        · cases e
      · rename_i rh hs
        rw [hs]
        cases e
        exact q
      · cases e
  · intro t
    unfold TA at t
    split at t
    · rename_i pc' ls' st' h' hs
      obtain ⟨n, r, h2, e, q⟩ := t
      refine ⟨n + 1, r, h2, ?_, q⟩
      unfold ex
      rw [hs]
      exact e
    · rename_i j as pc' ls' st' h' hs
      obtain ⟨n, r1, h1, e1, k, r, h2, e, q⟩ := t
      refine ⟨max n k + 1, r, h2, ?_, q⟩
      unfold ex
      rw [hs]
      simp only
      rw [ex_le (Nat.le_max_left n k) e1]
      exact ex_le (Nat.le_max_right n k) e
    · rename_i r h' hs
      refine ⟨1, r, h', ?_, t⟩
      unfold ex
      rw [hs]
    · exact t.elim
theorem T_ins {d mi pc : Nat} {ls st : List Value} {h : Hp} {Q : Pst} {I : Instr} {len : Nat} (hc : cod mi pc = some (I, len)) : T d mi pc ls st h Q ↔ TA d mi (stI d mi (mR mi).1 I len pc ls st h) Q := by
  rw [T_stp, stp, hc]
theorem TA_if {d mi : Nat} {c : Prop} [Decidable c] {a b : Act} {Q : Pst} : TA d mi (if c then a else b) Q ↔ if c then TA d mi a Q else TA d mi b Q := by
  by_cases h : c <;> simp [h]
-- what an instruction asks of a cell
def gF (cell : AC) (c k : Nat) (K : Value → Prop) : Prop := match cell with
  | .inr (.inr (c1, fs)) => c = c1 ∧ k < clN c ∧ (match fs[k]? with
    | some v => K v
    | none => False)
  | _ => False
def pF (cell : AC) (c k : Nat) (v : Value) (K : AC → Prop) : Prop := match cell with
  | .inr (.inr (c1, fs)) => c = c1 ∧ k < clN c ∧ k < fs.length ∧ okv (clTy c k) v = true ∧ K (oO c (fs.set k v))
  | _ => False
def aL (cell : AC) (i : Int32) (K : Int32 → Prop) : Prop := match cell with
  | .inl (0, n, f) => (0 ≤ i.toInt ∧ i.toInt < n) ∧ K (f i.toNatClampNeg)
  | .inl (3, n, f) => (0 ≤ i.toInt ∧ i.toInt < n) ∧ K (f i.toNatClampNeg)
  | _ => False
def bL (cell : AC) (i : Int32) (K : Int32 → Prop) : Prop := match cell with
  | .inl (1, n, f) => (0 ≤ i.toInt ∧ i.toInt < n) ∧ K (f i.toNatClampNeg)
  | .inl (2, n, f) => (0 ≤ i.toInt ∧ i.toInt < n) ∧ K (f i.toNatClampNeg)
  | _ => False
def qL (cell : AC) (i : Int32) (K : Option Nat → Prop) : Prop := match cell with
  | .inr (.inl (n, f)) => (0 ≤ i.toInt ∧ i.toInt < n) ∧ K (f i.toNatClampNeg)
  | _ => False
def aS (cell : AC) (i x : Int32) (K : AC → Prop) : Prop := match cell with
  | .inl (0, n, f) => (0 ≤ i.toInt ∧ i.toInt < n) ∧ K (oI n (upd f i.toNatClampNeg x))
  | _ => False
def bS (cell : AC) (i x : Int32) (K : AC → Prop) : Prop := match cell with
  | .inl (1, n, f) => ((0 ≤ i.toInt ∧ i.toInt < n) ∧ (x = 0 ∨ x = 1)) ∧ K (oZ n (upd f i.toNatClampNeg x))
  | _ => False
def qS (cell q : AC) (i : Int32) (v : Nat) (K : AC → Prop) : Prop := match cell, q with
  | .inr (.inl (n, f)), .inr (.inr (5, _)) => (0 ≤ i.toInt ∧ i.toInt < n) ∧ K (oQ n (va_up f i.toNatClampNeg (some v)))
  | _, _ => False
def cN (cell : AC) (K : Nat → Prop) : Prop := match cell with
  | .inl (_, n, _) => K n
  | .inr (.inl (n, _)) => K n
  | _ => False
def isO (cell : AC) (c : Nat) : Prop := match cell with
  | .inr (.inr (c1, _)) => c = c1
  | _ => False
def cpO (c0 c1 : AC) (sp dp n : Int32) (K : AC → Prop) : Prop := match c0, c1 with
  | .inl (0, n0, f), .inl (0, n1, g) => (0 ≤ sp.toInt ∧ 0 ≤ dp.toInt ∧ 0 ≤ n.toInt ∧ sp.toInt + n.toInt ≤ n0 ∧ dp.toInt + n.toInt ≤ n1) ∧ K (oI n1 (cpy f g sp.toNatClampNeg dp.toNatClampNeg n.toNatClampNeg))
  | _, _ => False
section TR
variable {d mi pc : Nat} {ls st : List Value} {h : Hp} {Q : Pst}
theorem T_iconst {n : Int} (hc : cod mi pc = some (.iconst n, 1)) : T d mi pc ls st h Q ↔ T d mi (pc + 1) ls (.int (Int32.ofInt n) :: st) h Q := T_ins hc
theorem T_bipush {n : Int} (hc : cod mi pc = some (.bipush n, 2)) : T d mi pc ls st h Q ↔ T d mi (pc + 2) ls (.int (Int8.ofInt n).toInt32 :: st) h Q := T_ins hc
theorem T_sipush {n : Int} (hc : cod mi pc = some (.sipush n, 3)) : T d mi pc ls st h Q ↔ T d mi (pc + 3) ls (.int (Int16.ofInt n).toInt32 :: st) h Q := T_ins hc
theorem T_lconst {n : Fin 2} (hc : cod mi pc = some (.lconst n, 1)) : T d mi pc ls st h Q ↔ T d mi (pc + 1) ls (.long (Int64.ofNat (n : Nat)) :: st) h Q := T_ins hc
theorem T_ldc {k : Nat} {v : Int32} (hc : cod mi pc = some (.ldc k, 2)) (hv : ic (mR mi).1 k = some v) : T d mi pc ls st h Q ↔ T d mi (pc + 2) ls (.int v :: st) h Q := by
  rw [T_ins hc]; simp only [stI, hv]; rfl
theorem T_ldcs {k i : Nat} (hc : cod mi pc = some (.ldc k, 2)) (hn : ic (mR mi).1 k = none) (hv : sc (mR mi).1 k = some i) : T d mi pc ls st h Q ↔ T d mi (pc + 2) ls (.ref (1 + i) :: st) h Q := by
  rw [T_ins hc]; simp only [stI, hv, hn]; rfl
theorem T_ldc_w {k : Nat} {v : Int32} (hc : cod mi pc = some (.ldc_w k, 3)) (hv : ic (mR mi).1 k = some v) : T d mi pc ls st h Q ↔ T d mi (pc + 3) ls (.int v :: st) h Q := by
  rw [T_ins hc]; simp only [stI, hv]; rfl
theorem T_ldc2_w {k : Nat} {v : Int64} (hc : cod mi pc = some (.ldc2_w k, 3)) (hv : lc (mR mi).1 k = some v) : T d mi pc ls st h Q ↔ T d mi (pc + 3) ls (.long v :: st) h Q := by
  rw [T_ins hc]; simp only [stI, hv]; rfl
theorem T_iload {k : Nat} {x : Int32} (hc : cod mi pc = some (.iload k, 2)) (hl : getL ls k = .int x) : T d mi pc ls st h Q ↔ T d mi (pc + 2) ls (.int x :: st) h Q := by
  rw [T_ins hc]; simp only [stI, hl]; rfl
theorem T_iload_n {k : Fin 4} {x : Int32} (hc : cod mi pc = some (.iload_n k, 1)) (hl : getL ls k.val = .int x) : T d mi pc ls st h Q ↔ T d mi (pc + 1) ls (.int x :: st) h Q := by
  rw [T_ins hc]; simp only [stI, hl]; rfl
theorem T_lload {k : Nat} {x : Int64} (hc : cod mi pc = some (.lload k, 2)) (hl : getL ls k = .long x) : T d mi pc ls st h Q ↔ T d mi (pc + 2) ls (.long x :: st) h Q := by
  rw [T_ins hc]; simp only [stI, hl]; rfl
theorem T_lload_n {k : Fin 4} {x : Int64} (hc : cod mi pc = some (.lload_n k, 1)) (hl : getL ls k.val = .long x) : T d mi pc ls st h Q ↔ T d mi (pc + 1) ls (.long x :: st) h Q := by
  rw [T_ins hc]; simp only [stI, hl]; rfl
theorem T_aload {k x : Nat} (hc : cod mi pc = some (.aload k, 2)) (hl : getL ls k = .ref x) : T d mi pc ls st h Q ↔ T d mi (pc + 2) ls (.ref x :: st) h Q := by
  rw [T_ins hc]; simp only [stI, hl]; rfl
theorem T_aload_n {k : Fin 4} {x : Nat} (hc : cod mi pc = some (.aload_n k, 1)) (hl : getL ls k.val = .ref x) : T d mi pc ls st h Q ↔ T d mi (pc + 1) ls (.ref x :: st) h Q := by
  rw [T_ins hc]; simp only [stI, hl]; rfl
theorem T_aload_nR {k : Fin 4} {x : Nat} (hc : cod mi pc = some (.aload_n k, 1)) (hl : getL ls k.val = .retAddr x) : T d mi pc ls st h Q ↔ T d mi (pc + 1) ls (.retAddr x :: st) h Q := by
  rw [T_ins hc]; simp only [stI, hl]; rfl
theorem T_istore {k : Nat} {x : Int32} (hc : cod mi pc = some (.istore k, 2)) (hl : k < ls.length) : T d mi pc ls (.int x :: st) h Q ↔ T d mi (pc + 2) (stL ls k (.int x)) st h Q := by
  rw [T_ins hc]; simp only [stI, p1, hl, if_true]; rfl
theorem T_istore_n {k : Fin 4} {x : Int32} (hc : cod mi pc = some (.istore_n k, 1)) (hl : k.val < ls.length) : T d mi pc ls (.int x :: st) h Q ↔ T d mi (pc + 1) (stL ls k.val (.int x)) st h Q := by
  rw [T_ins hc]; simp only [stI, p1, hl, if_true]; rfl
theorem T_lstore {k : Nat} {x : Int64} (hc : cod mi pc = some (.lstore k, 2)) (hl : k + 1 < ls.length) : T d mi pc ls (.long x :: st) h Q ↔ T d mi (pc + 2) (stL2 ls k (.long x)) st h Q := by
  rw [T_ins hc]; simp only [stI, q1, hl, if_true]; rfl
theorem T_lstore_n {k : Fin 4} {x : Int64} (hc : cod mi pc = some (.lstore_n k, 1)) (hl : k.val + 1 < ls.length) : T d mi pc ls (.long x :: st) h Q ↔ T d mi (pc + 1) (stL2 ls k.val (.long x)) st h Q := by
  rw [T_ins hc]; simp only [stI, q1, hl, if_true]; rfl
theorem T_astore {k x : Nat} (hc : cod mi pc = some (.astore k, 2)) (hl : k < ls.length) : T d mi pc ls (.ref x :: st) h Q ↔ T d mi (pc + 2) (stL ls k (.ref x)) st h Q := by
  rw [T_ins hc]; simp only [stI, hl, if_true]; rfl
theorem T_astore_n {k : Fin 4} {x : Nat} (hc : cod mi pc = some (.astore_n k, 1)) (hl : k.val < ls.length) : T d mi pc ls (.ref x :: st) h Q ↔ T d mi (pc + 1) (stL ls k.val (.ref x)) st h Q := by
  rw [T_ins hc]; simp only [stI, hl, if_true]; rfl
theorem T_iinc {k : Nat} {n : Int} {x : Int32} (hc : cod mi pc = some (.iinc k n, 3)) (hg : getL ls k = .int x) (hl : k < ls.length) : T d mi pc ls st h Q ↔ T d mi (pc + 3) (stL ls k (.int (x + Int32.ofInt n))) st h Q := by
  rw [T_ins hc]; simp only [stI, hg, hl, if_true]; rfl
theorem T_iadd {x y : Int32} (hc : cod mi pc = some (.iadd, 1)) : T d mi pc ls (.int y :: .int x :: st) h Q ↔ T d mi (pc + 1) ls (.int (x + y) :: st) h Q := T_ins hc
theorem T_isub {x y : Int32} (hc : cod mi pc = some (.isub, 1)) : T d mi pc ls (.int y :: .int x :: st) h Q ↔ T d mi (pc + 1) ls (.int (x - y) :: st) h Q := T_ins hc
theorem T_imul {x y : Int32} (hc : cod mi pc = some (.imul, 1)) : T d mi pc ls (.int y :: .int x :: st) h Q ↔ T d mi (pc + 1) ls (.int (x * y) :: st) h Q := T_ins hc
theorem T_iand {x y : Int32} (hc : cod mi pc = some (.iand, 1)) : T d mi pc ls (.int y :: .int x :: st) h Q ↔ T d mi (pc + 1) ls (.int (x &&& y) :: st) h Q := T_ins hc
theorem T_ior {x y : Int32} (hc : cod mi pc = some (.ior, 1)) : T d mi pc ls (.int y :: .int x :: st) h Q ↔ T d mi (pc + 1) ls (.int (x ||| y) :: st) h Q := T_ins hc
theorem T_ixor {x y : Int32} (hc : cod mi pc = some (.ixor, 1)) : T d mi pc ls (.int y :: .int x :: st) h Q ↔ T d mi (pc + 1) ls (.int (x ^^^ y) :: st) h Q := T_ins hc
theorem T_ishl {x y : Int32} (hc : cod mi pc = some (.ishl, 1)) : T d mi pc ls (.int y :: .int x :: st) h Q ↔ T d mi (pc + 1) ls (.int (x <<< (y &&& 31)) :: st) h Q := T_ins hc
theorem T_ishr {x y : Int32} (hc : cod mi pc = some (.ishr, 1)) : T d mi pc ls (.int y :: .int x :: st) h Q ↔ T d mi (pc + 1) ls (.int (x >>> (y &&& 31)) :: st) h Q := T_ins hc
theorem T_iushr {x y : Int32} (hc : cod mi pc = some (.iushr, 1)) : T d mi pc ls (.int y :: .int x :: st) h Q ↔ T d mi (pc + 1) ls (.int (x.toUInt32 >>> (y.toUInt32 &&& Int32.toUInt32 31)).toInt32 :: st) h Q := T_ins hc
theorem T_idiv {x y : Int32} (hc : cod mi pc = some (.idiv, 1)) : T d mi pc ls (.int y :: .int x :: st) h Q ↔ (¬ y = 0 ∧ T d mi (pc + 1) ls (.int (x / y) :: st) h Q) := by
  rw [T_ins hc]; simp only [stI, p2, TA_if]; by_cases q : y = 0 <;> simp [q, TA]
theorem T_irem {x y : Int32} (hc : cod mi pc = some (.irem, 1)) : T d mi pc ls (.int y :: .int x :: st) h Q ↔ (¬ y = 0 ∧ T d mi (pc + 1) ls (.int (x - x / y * y) :: st) h Q) := by
  rw [T_ins hc]; simp only [stI, p2, TA_if]; by_cases q : y = 0 <;> simp [q, TA]
theorem T_ladd {x y : Int64} (hc : cod mi pc = some (.ladd, 1)) : T d mi pc ls (.long y :: .long x :: st) h Q ↔ T d mi (pc + 1) ls (.long (x + y) :: st) h Q := T_ins hc
theorem T_lmul {x y : Int64} (hc : cod mi pc = some (.lmul, 1)) : T d mi pc ls (.long y :: .long x :: st) h Q ↔ T d mi (pc + 1) ls (.long (x * y) :: st) h Q := T_ins hc
theorem T_ldiv {x y : Int64} (hc : cod mi pc = some (.ldiv, 1)) : T d mi pc ls (.long y :: .long x :: st) h Q ↔ (¬ y = 0 ∧ T d mi (pc + 1) ls (.long (x / y) :: st) h Q) := by
  rw [T_ins hc]; simp only [stI, q2, TA_if]; by_cases q : y = 0 <;> simp [q, TA]
theorem T_lrem {x y : Int64} (hc : cod mi pc = some (.lrem, 1)) : T d mi pc ls (.long y :: .long x :: st) h Q ↔ (¬ y = 0 ∧ T d mi (pc + 1) ls (.long (x - x / y * y) :: st) h Q) := by
  rw [T_ins hc]; simp only [stI, q2, TA_if]; by_cases q : y = 0 <;> simp [q, TA]
theorem T_lcmp {x y : Int64} (hc : cod mi pc = some (.lcmp, 1)) : T d mi pc ls (.long y :: .long x :: st) h Q ↔ T d mi (pc + 1) ls (.int (lg_cmp x y) :: st) h Q := T_ins hc
theorem T_i2l {x : Int32} (hc : cod mi pc = some (.i2l, 1)) : T d mi pc ls (.int x :: st) h Q ↔ T d mi (pc + 1) ls (.long x.toInt64 :: st) h Q := T_ins hc
theorem T_i2c {x : Int32} (hc : cod mi pc = some (.i2c, 1)) : T d mi pc ls (.int x :: st) h Q ↔ T d mi (pc + 1) ls (.int (x.toUInt32 % 65536).toInt32 :: st) h Q := T_ins hc
theorem T_l2i {x : Int64} (hc : cod mi pc = some (.l2i, 1)) : T d mi pc ls (.long x :: st) h Q ↔ T d mi (pc + 1) ls (.int x.toInt32 :: st) h Q := T_ins hc
theorem T_dup {v : Value} (hc : cod mi pc = some (.dup, 1)) (hv : v.category = 1) : T d mi pc ls (v :: st) h Q ↔ T d mi (pc + 1) ls (v :: v :: st) h Q := by
  rw [T_ins hc]; simp only [stI, hv, if_true]; rfl
theorem T_pop {v : Value} (hc : cod mi pc = some (.pop, 1)) (hv : v.category = 1) : T d mi pc ls (v :: st) h Q ↔ T d mi (pc + 1) ls st h Q := by
  rw [T_ins hc]; simp only [stI, hv, if_true]; rfl
theorem T_dup2 {v w : Value} (hc : cod mi pc = some (.dup2, 1)) (hv : v.category = 1) (hw : w.category = 1) : T d mi pc ls (v :: w :: st) h Q ↔ T d mi (pc + 1) ls (v :: w :: v :: w :: st) h Q := by
  rw [T_ins hc]; simp only [stI, hv, hw, and_self, if_true]; rfl
theorem go_eq {pc t : Nat} {off : Int} {K : Nat → Act} (h : (pc : Int) + off = (t : Int)) : go pc off K = K t := by
  unfold go
  rw [if_pos (by omega), h]
  rfl
theorem T_goto {off : Int} {t : Nat} (hc : cod mi pc = some (.goto off, 3)) (ht : (pc : Int) + off = (t : Int)) : T d mi pc ls st h Q ↔ T d mi t ls st h Q := by
  rw [T_ins hc]; simp only [stI, go_eq ht]; rfl
theorem T_ifnull {off : Int} {x : Nat} (hc : cod mi pc = some (.ifnull off, 3)) : T d mi pc ls (.ref x :: st) h Q ↔ T d mi (pc + 3) ls st h Q := T_ins hc
theorem T_ifnullN {off : Int} {t : Nat} (hc : cod mi pc = some (.ifnull off, 3)) (ht : (pc : Int) + off = (t : Int)) : T d mi pc ls (.null :: st) h Q ↔ T d mi t ls st h Q := by
  rw [T_ins hc]; simp only [stI, go_eq ht]; rfl
theorem T_ifnonnull {off : Int} {x t : Nat} (hc : cod mi pc = some (.ifnonnull off, 3)) (ht : (pc : Int) + off = (t : Int)) : T d mi pc ls (.ref x :: st) h Q ↔ T d mi t ls st h Q := by
  rw [T_ins hc]; simp only [stI, go_eq ht]; rfl
theorem T_ifnonnullN {off : Int} (hc : cod mi pc = some (.ifnonnull off, 3)) : T d mi pc ls (.null :: st) h Q ↔ T d mi (pc + 3) ls st h Q := T_ins hc
theorem T_if_eq {off : Int} {t : Nat} {x : Int32} (hc : cod mi pc = some (.ifCond .eq off, 3)) (ht : (pc : Int) + off = (t : Int)) : T d mi pc ls (.int x :: st) h Q ↔ (if x = 0 then T d mi t ls st h Q else T d mi (pc + 3) ls st h Q) := by
  rw [T_ins hc]; simp only [stI, p1, go_eq ht, TA_if]; rfl
theorem T_icmp_eq {off : Int} {t : Nat} {x y : Int32} (hc : cod mi pc = some (.if_icmp .eq off, 3)) (ht : (pc : Int) + off = (t : Int)) : T d mi pc ls (.int y :: .int x :: st) h Q ↔ (if x = y then T d mi t ls st h Q else T d mi (pc + 3) ls st h Q) := by
  rw [T_ins hc]; simp only [stI, p2, go_eq ht, TA_if]; rfl
theorem T_if_ne {off : Int} {t : Nat} {x : Int32} (hc : cod mi pc = some (.ifCond .ne off, 3)) (ht : (pc : Int) + off = (t : Int)) : T d mi pc ls (.int x :: st) h Q ↔ (if ¬ x = 0 then T d mi t ls st h Q else T d mi (pc + 3) ls st h Q) := by
  rw [T_ins hc]; simp only [stI, p1, go_eq ht, TA_if]; rfl
theorem T_icmp_ne {off : Int} {t : Nat} {x y : Int32} (hc : cod mi pc = some (.if_icmp .ne off, 3)) (ht : (pc : Int) + off = (t : Int)) : T d mi pc ls (.int y :: .int x :: st) h Q ↔ (if ¬ x = y then T d mi t ls st h Q else T d mi (pc + 3) ls st h Q) := by
  rw [T_ins hc]; simp only [stI, p2, go_eq ht, TA_if]; rfl
theorem T_if_lt {off : Int} {t : Nat} {x : Int32} (hc : cod mi pc = some (.ifCond .lt off, 3)) (ht : (pc : Int) + off = (t : Int)) : T d mi pc ls (.int x :: st) h Q ↔ (if x < 0 then T d mi t ls st h Q else T d mi (pc + 3) ls st h Q) := by
  rw [T_ins hc]; simp only [stI, p1, go_eq ht, TA_if]; rfl
theorem T_icmp_lt {off : Int} {t : Nat} {x y : Int32} (hc : cod mi pc = some (.if_icmp .lt off, 3)) (ht : (pc : Int) + off = (t : Int)) : T d mi pc ls (.int y :: .int x :: st) h Q ↔ (if x < y then T d mi t ls st h Q else T d mi (pc + 3) ls st h Q) := by
  rw [T_ins hc]; simp only [stI, p2, go_eq ht, TA_if]; rfl
theorem T_if_ge {off : Int} {t : Nat} {x : Int32} (hc : cod mi pc = some (.ifCond .ge off, 3)) (ht : (pc : Int) + off = (t : Int)) : T d mi pc ls (.int x :: st) h Q ↔ (if 0 ≤ x then T d mi t ls st h Q else T d mi (pc + 3) ls st h Q) := by
  rw [T_ins hc]; simp only [stI, p1, go_eq ht, TA_if]; rfl
theorem T_icmp_ge {off : Int} {t : Nat} {x y : Int32} (hc : cod mi pc = some (.if_icmp .ge off, 3)) (ht : (pc : Int) + off = (t : Int)) : T d mi pc ls (.int y :: .int x :: st) h Q ↔ (if y ≤ x then T d mi t ls st h Q else T d mi (pc + 3) ls st h Q) := by
  rw [T_ins hc]; simp only [stI, p2, go_eq ht, TA_if]; rfl
theorem T_if_gt {off : Int} {t : Nat} {x : Int32} (hc : cod mi pc = some (.ifCond .gt off, 3)) (ht : (pc : Int) + off = (t : Int)) : T d mi pc ls (.int x :: st) h Q ↔ (if 0 < x then T d mi t ls st h Q else T d mi (pc + 3) ls st h Q) := by
  rw [T_ins hc]; simp only [stI, p1, go_eq ht, TA_if]; rfl
theorem T_icmp_gt {off : Int} {t : Nat} {x y : Int32} (hc : cod mi pc = some (.if_icmp .gt off, 3)) (ht : (pc : Int) + off = (t : Int)) : T d mi pc ls (.int y :: .int x :: st) h Q ↔ (if y < x then T d mi t ls st h Q else T d mi (pc + 3) ls st h Q) := by
  rw [T_ins hc]; simp only [stI, p2, go_eq ht, TA_if]; rfl
theorem T_if_le {off : Int} {t : Nat} {x : Int32} (hc : cod mi pc = some (.ifCond .le off, 3)) (ht : (pc : Int) + off = (t : Int)) : T d mi pc ls (.int x :: st) h Q ↔ (if x ≤ 0 then T d mi t ls st h Q else T d mi (pc + 3) ls st h Q) := by
  rw [T_ins hc]; simp only [stI, p1, go_eq ht, TA_if]; rfl
theorem T_icmp_le {off : Int} {t : Nat} {x y : Int32} (hc : cod mi pc = some (.if_icmp .le off, 3)) (ht : (pc : Int) + off = (t : Int)) : T d mi pc ls (.int y :: .int x :: st) h Q ↔ (if x ≤ y then T d mi t ls st h Q else T d mi (pc + 3) ls st h Q) := by
  rw [T_ins hc]; simp only [stI, p2, go_eq ht, TA_if]; rfl
theorem T_tswi {dflt lo hi : Int} {offs : Array Int} {len : Nat} {x : Int32} (hc : cod mi pc = some (.tableswitch dflt lo hi offs, len)) : T d mi pc ls (.int x :: st) h Q ↔ TA d mi (if x.toInt < lo ∨ hi < x.toInt then go pc dflt fun t => aN t ls st h else (match offs[(x.toInt - lo).toNat]? with
    | some off => go pc off fun t => aN t ls st h
    | none => none)) Q := T_ins hc
theorem T_lswi {dflt : Int} {ps : Array (Int × Int)} {len : Nat} {x : Int32} (hc : cod mi pc = some (.lookupswitch dflt ps, len)) : T d mi pc ls (.int x :: st) h Q ↔ TA d mi (if (ps.toList.zip (ps.toList.drop 1)).all (fun (a, next) => a.1 < next.1) = true then go pc (Op.lookupswitch.offset ps.toList dflt x.toInt) fun t => aN t ls st h else none) Q := T_ins hc
theorem T_getfield {k a c j : Nat} (hc : cod mi pc = some (.getfield k, 3)) (hf : fl (mR mi).1 k = some (c, j)) : T d mi pc ls (.ref a :: st) h Q ↔ gF (h.2.2 a) c j (fun v => T d mi (pc + 3) ls (v :: st) h Q) := by
  have h8 := (fl_ok hf).2.1
  rw [T_ins hc]; simp only [stI, hf]
  unfold gF
  generalize h.2.2 a = cell
  rcases cell with ⟨t, n, f⟩ | ⟨n, f⟩ | ⟨c1, fs⟩
  · simp [TA]
  · simp [TA]
  · simp only [TA_if, h8, true_and]
    by_cases q : c = c1 ∧ j < clN c
    · rw [if_pos q]
      obtain ⟨rfl, q2⟩ := q
      cases fs[j]? <;> simp [TA, q2]
    · rw [if_neg q]
      simp only [TA, false_iff]
      exact fun z => q ⟨z.1, z.2.1⟩
theorem T_putfield {k a c j : Nat} {v : Value} (hc : cod mi pc = some (.putfield k, 3)) (hf : fl (mR mi).1 k = some (c, j)) (hi : fin mi c j = true) : T d mi pc ls (v :: .ref a :: st) h Q ↔ pF (h.2.2 a) c j v (fun cell => T d mi (pc + 3) ls st (hup h a cell) Q) := by
  have h8 := (fl_ok hf).2.1
  rw [T_ins hc]; simp only [stI, hf]
  unfold pF
  generalize h.2.2 a = cell
  rcases cell with ⟨t, n, f⟩ | ⟨n, f⟩ | ⟨c1, fs⟩
  · simp [TA]
  · simp [TA]
  · simp only [TA_if, h8, hi, true_and, and_true]
    by_cases q : c = c1 ∧ j < clN c ∧ j < fs.length ∧ okv (clTy c j) v = true
    · rw [if_pos q]
      obtain ⟨rfl, q2, q3, q4⟩ := q
      simp [TA, q2, q3, q4]
    · rw [if_neg q]
      simp only [TA, false_iff]
      exact fun z => q ⟨z.1, z.2.1, z.2.2.1, z.2.2.2.1⟩
theorem T_iaload {a : Nat} {i : Int32} (hc : cod mi pc = some (.iaload, 1)) : T d mi pc ls (.int i :: .ref a :: st) h Q ↔ aL (h.2.2 a) i (fun x => T d mi (pc + 1) ls (.int x :: st) h Q) := by
  rw [T_ins hc]; simp only [stI]
  unfold aL
  generalize h.2.2 a = cell
  rcases cell with ⟨_ | _ | _ | _ | t, n, f⟩ | ⟨n, f⟩ | ⟨c1, fs⟩
  · simp only [TA_if]; by_cases q : 0 ≤ i.toInt ∧ i.toInt < n <;> simp [TA, q]
  · simp [TA]
  · simp [TA]
  · simp only [TA_if]; by_cases q : 0 ≤ i.toInt ∧ i.toInt < n <;> simp [TA, q]
  · simp [TA]
  · simp [TA]
  · simp [TA]
theorem T_baload {a : Nat} {i : Int32} (hc : cod mi pc = some (.baload, 1)) : T d mi pc ls (.int i :: .ref a :: st) h Q ↔ bL (h.2.2 a) i (fun x => T d mi (pc + 1) ls (.int x :: st) h Q) := by
  rw [T_ins hc]; simp only [stI]
  unfold bL
  generalize h.2.2 a = cell
  rcases cell with ⟨_ | _ | _ | t, n, f⟩ | ⟨n, f⟩ | ⟨c1, fs⟩
  · simp [TA]
  · simp only [TA_if]; by_cases q : 0 ≤ i.toInt ∧ i.toInt < n <;> simp [TA, q]
  · simp only [TA_if]; by_cases q : 0 ≤ i.toInt ∧ i.toInt < n <;> simp [TA, q]
  · simp [TA]
  · simp [TA]
  · simp [TA]
theorem T_aaload {a : Nat} {i : Int32} (hc : cod mi pc = some (.aaload, 1)) : T d mi pc ls (.int i :: .ref a :: st) h Q ↔ qL (h.2.2 a) i (fun x => T d mi (pc + 1) ls (va_rf x :: st) h Q) := by
  rw [T_ins hc]; simp only [stI]
  unfold qL
  generalize h.2.2 a = cell
  rcases cell with ⟨t, n, f⟩ | ⟨n, f⟩ | ⟨c1, fs⟩
  · simp [TA]
  · simp only [TA_if]; by_cases q : 0 ≤ i.toInt ∧ i.toInt < n <;> simp [TA, q]
  · simp [TA]
theorem T_iastore {a : Nat} {i x : Int32} (hc : cod mi pc = some (.iastore, 1)) : T d mi pc ls (.int x :: .int i :: .ref a :: st) h Q ↔ aS (h.2.2 a) i x (fun c => T d mi (pc + 1) ls st (hup h a c) Q) := by
  rw [T_ins hc]; simp only [stI]
  unfold aS
  generalize h.2.2 a = cell
  rcases cell with ⟨_ | t, n, f⟩ | ⟨n, f⟩ | ⟨c1, fs⟩
  · simp only [TA_if]; by_cases q : 0 ≤ i.toInt ∧ i.toInt < n <;> simp [TA, q]
  · simp [TA]
  · simp [TA]
  · simp [TA]
theorem T_bastore {a : Nat} {i x : Int32} (hc : cod mi pc = some (.bastore, 1)) : T d mi pc ls (.int x :: .int i :: .ref a :: st) h Q ↔ bS (h.2.2 a) i x (fun c => T d mi (pc + 1) ls st (hup h a c) Q) := by
  rw [T_ins hc]; simp only [stI]
  unfold bS
  generalize h.2.2 a = cell
  rcases cell with ⟨_ | _ | t, n, f⟩ | ⟨n, f⟩ | ⟨c1, fs⟩
  · simp [TA]
  · simp only [TA_if]; by_cases q : (0 ≤ i.toInt ∧ i.toInt < n) ∧ (x = 0 ∨ x = 1) <;> simp [TA, q]
  · simp [TA]
  · simp [TA]
  · simp [TA]
theorem T_aastore {a q0 : Nat} {i : Int32} (hc : cod mi pc = some (.aastore, 1)) : T d mi pc ls (.ref q0 :: .int i :: .ref a :: st) h Q ↔ qS (h.2.2 a) (h.2.2 q0) i q0 (fun c => T d mi (pc + 1) ls st (hup h a c) Q) := by
  rw [T_ins hc]; simp only [stI]
  unfold qS
  generalize h.2.2 a = cell
  generalize h.2.2 q0 = cq
  split
  · simp only [TA_if]; rename_i n f _; by_cases q : 0 ≤ i.toInt ∧ i.toInt < n <;> simp [TA, q]
  · simp [TA]
theorem T_alen {a : Nat} (hc : cod mi pc = some (.arraylength, 1)) : T d mi pc ls (.ref a :: st) h Q ↔ cN (h.2.2 a) (fun n => T d mi (pc + 1) ls (.int (Int32.ofNat n) :: st) h Q) := by
  rw [T_ins hc]; simp only [stI]
  unfold cN
  generalize h.2.2 a = cell
  rcases cell with ⟨t, n, f⟩ | ⟨n, f⟩ | ⟨c1, fs⟩ <;> simp [TA]
theorem T_new {k c n : Nat} (hc : cod mi pc = some (.new k, 3)) (hn : nw (mR mi).1 k = some (c, n)) (h8 : c < 8 ∧ n = clN c) : T d mi pc ls st h Q ↔ T d mi (pc + 3) ls (.ref h.1 :: st) (hnew h n (oO c (dfl c))) Q := by
  rw [T_ins hc]; simp only [stI, hn, h8, and_self, if_true]; rfl
theorem T_newi {x : Int32} (hc : cod mi pc = some (.newarray .int, 2)) : T d mi pc ls (.int x :: st) h Q ↔ ((0 ≤ x.toInt ∧ x.toInt ≤ 100000) ∧ T d mi (pc + 2) ls (.ref h.1 :: st) (hnew h x.toNatClampNeg (oI x.toNatClampNeg fun _ => 0)) Q) := by
  rw [T_ins hc]; simp only [stI, p1, TA_if]; by_cases q : 0 ≤ x.toInt ∧ x.toInt ≤ 100000 <;> simp [q, TA]
theorem T_newz {x : Int32} (hc : cod mi pc = some (.newarray .boolean, 2)) : T d mi pc ls (.int x :: st) h Q ↔ ((0 ≤ x.toInt ∧ x.toInt ≤ 100000) ∧ T d mi (pc + 2) ls (.ref h.1 :: st) (hnew h x.toNatClampNeg (oZ x.toNatClampNeg fun _ => 0)) Q) := by
  rw [T_ins hc]; simp only [stI, p1, TA_if]; by_cases q : 0 ≤ x.toInt ∧ x.toInt ≤ 100000 <;> simp [q, TA]
theorem T_anew {k : Nat} {x : Int32} (hc : cod mi pc = some (.anewarray k, 3)) (hn : an (mR mi).1 k = some 5) : T d mi pc ls (.int x :: st) h Q ↔ ((0 ≤ x.toInt ∧ x.toInt ≤ 100000) ∧ T d mi (pc + 3) ls (.ref h.1 :: st) (hnew h x.toNatClampNeg (oQ x.toNatClampNeg fun _ => none)) Q) := by
  rw [T_ins hc]; simp only [stI, p1, hn, TA_if]; by_cases q : 0 ≤ x.toInt ∧ x.toInt ≤ 100000 <;> simp [q, TA]
-- calls; 'as' the arguments in their order
theorem cal_T {j : Nat} {as r : List Value} (hw : (wrd as).length ≤ (mR j).2.2.2.1) (hs : stk r ≤ 8) : TA (d + 1) mi (cal j as pc ls r h) Q ↔ T d j 0 (ent (mR j).2.2.2.1 as) [] h (fun x h2 => T (d + 1) mi (pc + 3) ls (rl x r) h2 Q) := by
  unfold cal
  rw [if_pos ⟨hw, hs⟩]
  rfl
theorem T_static {k kind j : Nat} {as r : List Value} {L : List Value} (hc : cod mi pc = some (.invokestatic k, 3)) (hm : ml (mR mi).1 k = some (kind, j)) (hk : kind = 0 ∨ kind = 3) (hn : as.length = (mR j).2.2.2.2.2) (h45 : (mR j).2.2.2.1 ≤ 45) (hst : st = as.reverse ++ r) (hw : (wrd as).length ≤ (mR j).2.2.2.1) (hs : stk r ≤ 8) (hL : ent (mR j).2.2.2.1 as = L) : T (d + 1) mi pc ls st h Q ↔ T d j 0 L [] h (fun x h2 => T (d + 1) mi (pc + 3) ls (rl x r) h2 Q) := by
  subst hL
  rw [T_ins hc]
  have e : stI (d + 1) mi (mR mi).1 (.invokestatic k) 3 pc ls st h = inv (d + 1) kind j (mR j).2.2.2.2.2 pc ls st h := by
    rcases hk with rfl | rfl <;> simp only [stI, hm]
  have e2 : inv (d + 1) kind j (mR j).2.2.2.2.2 pc ls st h = cal j as pc ls r h := by
    have h1 : ¬ (st.length < (mR j).2.2.2.2.2 ∨ 45 < (mR j).2.2.2.1 ∨ d + 1 = 0) := by
      rw [hst]; simp; omega
    have h2 : (st.take (mR j).2.2.2.2.2).reverse = as := by
      rw [hst, ← hn, ← List.length_reverse, List.take_left', List.reverse_reverse]
      rfl
    have h3 : st.drop (mR j).2.2.2.2.2 = r := by
      rw [hst, ← hn, ← List.length_reverse, List.drop_left']
      rfl
    rcases hk with rfl | rfl <;> simp only [inv, if_neg h1, h2, h3]
  rw [e, e2, cal_T hw hs]
theorem T_special {k kind j a : Nat} {as r : List Value} {L : List Value} (hc : cod mi pc = some (.invokespecial k, 3)) (hm : ml (mR mi).1 k = some (kind, j)) (hk : kind = 2 ∨ kind = 5) (hn : as.length = (mR j).2.2.2.2.2) (h45 : (mR j).2.2.2.1 ≤ 45) (hst : st = as.reverse ++ .ref a :: r) (hw : (wrd (.ref a :: as)).length ≤ (mR j).2.2.2.1) (hs : stk r ≤ 8) (hL : ent (mR j).2.2.2.1 (.ref a :: as) = L) : T (d + 1) mi pc ls st h Q ↔ T d j 0 L [] h (fun x h2 => T (d + 1) mi (pc + 3) ls (rl x r) h2 Q) := by
  subst hL
  rw [T_ins hc]
  have e : stI (d + 1) mi (mR mi).1 (.invokespecial k) 3 pc ls st h = inv (d + 1) kind j (mR j).2.2.2.2.2 pc ls st h := by
    rcases hk with rfl | rfl <;> simp only [stI, hm]
  have e2 : inv (d + 1) kind j (mR j).2.2.2.2.2 pc ls st h = cal j (.ref a :: as) pc ls r h := by
    have h1 : ¬ (st.length < (mR j).2.2.2.2.2 ∨ 45 < (mR j).2.2.2.1 ∨ d + 1 = 0) := by
      rw [hst]; simp; omega
    have h2 : (st.take (mR j).2.2.2.2.2).reverse = as := by
      rw [hst, ← hn, ← List.length_reverse, List.take_left', List.reverse_reverse]
      rfl
    have h3 : st.drop (mR j).2.2.2.2.2 = .ref a :: r := by
      rw [hst, ← hn, ← List.length_reverse, List.drop_left']
      rfl
    rcases hk with rfl | rfl <;> simp only [inv, if_neg h1, h2, h3]
  rw [e, e2, cal_T hw hs]
theorem T_virtual {k j a c0 : Nat} {as r : List Value} {L : List Value} (hc : cod mi pc = some (.invokevirtual k, 3)) (hm : ml (mR mi).1 k = some (1, j)) (hn : as.length = (mR j).2.2.2.2.2) (h45 : (mR j).2.2.2.1 ≤ 45) (hst : st = as.reverse ++ .ref a :: r) (hw : (wrd (.ref a :: as)).length ≤ (mR j).2.2.2.1) (hs : stk r ≤ 8) (hL : ent (mR j).2.2.2.1 (.ref a :: as) = L) (hcl : c0 = 100 ∧ (mR j).2.1.cls = "java/lang/String" ∨ c0 < 8 ∧ clR c0 = (mR j).2.1.cls) (ho : isO (h.2.2 a) c0) : T (d + 1) mi pc ls st h Q ↔ T d j 0 L [] h (fun x h2 => T (d + 1) mi (pc + 3) ls (rl x r) h2 Q) := by
  subst hL
  rw [T_ins hc]
  have e : stI (d + 1) mi (mR mi).1 (.invokevirtual k) 3 pc ls st h = inv (d + 1) 1 j (mR j).2.2.2.2.2 pc ls st h := by
    simp only [stI, hm]
  have e2 : inv (d + 1) 1 j (mR j).2.2.2.2.2 pc ls st h = cal j (.ref a :: as) pc ls r h := by
    have h1 : ¬ (st.length < (mR j).2.2.2.2.2 ∨ 45 < (mR j).2.2.2.1 ∨ d + 1 = 0) := by
      rw [hst]; simp; omega
    have h2 : (st.take (mR j).2.2.2.2.2).reverse = as := by
      rw [hst, ← hn, ← List.length_reverse, List.take_left', List.reverse_reverse]
      rfl
    have h3 : st.drop (mR j).2.2.2.2.2 = .ref a :: r := by
      rw [hst, ← hn, ← List.length_reverse, List.drop_left']
      rfl
    unfold isO at ho
    split at ho
    · rename_i c1 fs hcell
      subst ho
      simp only [inv, if_neg h1, h2, h3, hcell, if_pos hcl]
    · exact ho.elim
  rw [e, e2, cal_T hw hs]
theorem T_max {k j : Nat} {x y : Int32} (hc : cod mi pc = some (.invokestatic k, 3)) (hm : ml (mR mi).1 k = some (6, j)) (hs : stk st ≤ 8) : T (d + 1) mi pc ls (.int y :: .int x :: st) h Q ↔ T (d + 1) mi (pc + 3) ls (.int (if x < y then y else x) :: st) h Q := by
  rw [T_ins hc]; simp only [stI, hm, p2, hs, true_and, ne_eq, Nat.add_eq_zero_iff, Nat.one_ne_zero, and_false, not_false_eq_true, if_true]; rfl
theorem T_min {k j : Nat} {x y : Int32} (hc : cod mi pc = some (.invokestatic k, 3)) (hm : ml (mR mi).1 k = some (7, j)) (hs : stk st ≤ 8) : T (d + 1) mi pc ls (.int y :: .int x :: st) h Q ↔ T (d + 1) mi (pc + 3) ls (.int (if y < x then y else x) :: st) h Q := by
  rw [T_ins hc]; simp only [stI, hm, p2, hs, true_and, ne_eq, Nat.add_eq_zero_iff, Nat.one_ne_zero, and_false, not_false_eq_true, if_true]; rfl
theorem T_objinit {k j a : Nat} (hc : cod mi pc = some (.invokespecial k, 3)) (hm : ml (mR mi).1 k = some (9, j)) (hs : stk st ≤ 8) : T (d + 1) mi pc ls (.ref a :: st) h Q ↔ T (d + 1) mi (pc + 3) ls st h Q := by
  rw [T_ins hc]; simp only [stI, hm, hs, true_and, ne_eq, Nat.add_eq_zero_iff, Nat.one_ne_zero, and_false, not_false_eq_true, if_true]; rfl
theorem T_arc {k j a0 a1 : Nat} {sp dp n : Int32} (hc : cod mi pc = some (.invokestatic k, 3)) (hm : ml (mR mi).1 k = some (8, j)) (hs : stk st ≤ 8) : T (d + 1) mi pc ls (.int n :: .int dp :: .ref a1 :: .int sp :: .ref a0 :: st) h Q ↔ cpO (h.2.2 a0) (h.2.2 a1) sp dp n (fun c => T (d + 1) mi (pc + 3) ls st (hup h a1 c) Q) := by
  rw [T_ins hc]; simp only [stI, hm, arc]
  unfold cpO
  generalize h.2.2 a0 = c0
  generalize h.2.2 a1 = c1
  split
  · rename_i n0 f n1 g
    simp only [TA_if, hs, true_and, and_true, ne_eq, Nat.add_eq_zero_iff, Nat.one_ne_zero, and_false, not_false_eq_true]
    by_cases q : 0 ≤ sp.toInt ∧ 0 ≤ dp.toInt ∧ 0 ≤ n.toInt ∧ sp.toInt + n.toInt ≤ n0 ∧ dp.toInt + n.toInt ≤ n1
    · rw [if_pos q]; simp [TA, q]
    · rw [if_neg q]; simp [TA, q]
  · simp [TA]
theorem T_ireturn {x : Int32} {ty : FieldType} (hc : cod mi pc = some (.ireturn, 1)) (hr : (mR mi).2.2.2.2.1 = some ty) : T d mi pc ls [.int x] h Q ↔ (narrow ty (.int x) = .int x ∧ Q (some (.int x)) h) := by
  rw [T_ins hc]; simp only [stI, hr, TA_if]; by_cases q : narrow ty (.int x) = .int x <;> simp [TA, q]
theorem T_lreturn {x : Int64} (hc : cod mi pc = some (.lreturn, 1)) (hr : (mR mi).2.2.2.2.1 = some .long) : T d mi pc ls [.long x] h Q ↔ Q (some (.long x)) h := by
  rw [T_ins hc]; simp only [stI, hr]; rfl
theorem T_areturn {x : Nat} {nm : String} (hc : cod mi pc = some (.areturn, 1)) (hr : (mR mi).2.2.2.2.1 = some (.object nm)) : T d mi pc ls [.ref x] h Q ↔ Q (some (.ref x)) h := by
  rw [T_ins hc]; simp only [stI, hr]; rfl
theorem T_return (hc : cod mi pc = some (.return_, 1)) (hr : (mR mi).2.2.2.2.1 = none) : T d mi pc ls [] h Q ↔ Q none h := by
  rw [T_ins hc]; simp only [stI, hr]; rfl
end TR
