/-! THE REFLECTED MACHINE: a small interpreter of the bytecode over numbered cells (no proof yet): what it answers, the machine answers (part 05) -/
abbrev AC : Type := (Nat × Nat × (Nat → Int32)) ⊕ ((Nat × (Nat → Option Nat)) ⊕ (Nat × List Value))
abbrev oI (n : Nat) (f : Nat → Int32) : AC := .inl (0, n, f)
abbrev oZ (n : Nat) (f : Nat → Int32) : AC := .inl (1, n, f)
abbrev oQ (n : Nat) (f : Nat → Option Nat) : AC := .inr (.inl (n, f))
abbrev oO (c : Nat) (fs : List Value) : AC := .inr (.inr (c, fs))
abbrev Hp : Type := Nat × Nat × (Nat → AC)
abbrev Act : Type := Option ((Nat × List Value × List Value × Hp) ⊕ ((Nat × List Value × Nat × List Value × List Value × Hp) ⊕ (Option Value × Hp)))
/-- no value: a local variable that holds none -/
def un : Value := .float 0
abbrev aN (pc : Nat) (ls st : List Value) (h : Hp) : Act := some (.inl (pc, ls, st, h))
abbrev aC (mi : Nat) (as : List Value) (pc : Nat) (ls st : List Value) (h : Hp) : Act := some (.inr (.inl (mi, as, pc, ls, st, h)))
abbrev aR (v : Option Value) (h : Hp) : Act := some (.inr (.inr (v, h)))
def hup (h : Hp) (a : Nat) (c : AC) : Hp := (h.1, h.2.1, fun j => if j = a then c else h.2.2 j)
def hnew (h : Hp) (n : Nat) (c : AC) : Hp := (h.1 + 1, h.2.1 + n, fun j => if j = h.1 then c else h.2.2 j)
def kil : Value → Value
  | .long _ => un
  | v => v
def stL : List Value → Nat → Value → List Value
  | [], _, _ => []
  | _ :: l, 0, v => v :: l
  | a :: l, 1, v => kil a :: stL l 0 v
  | a :: l, n + 2, v => a :: stL l (n + 1) v
def stL2 (ls : List Value) (i : Nat) (v : Value) : List Value := (stL ls i v).set (i + 1) un
def getL : List Value → Nat → Value
  | [], _ => un
  | a :: _, 0 => a
  | _ :: l, n + 1 => getL l n
def wrd (as : List Value) : List Value := as.flatMap fun v => if v.category = 2 then [v, un] else [v]
def ent (nL : Nat) (as : List Value) : List Value := wrd as ++ List.replicate (nL - (wrd as).length) un
def rl (r : Option Value) (st : List Value) : List Value := r.toList ++ st
def stk (st : List Value) : Nat := (st.map fun v => v.category).sum
-- what a pool entry links to
def ml (o idx : Nat) : Option (Nat × Nat) := (mlT.find? fun e => e.1 == o && e.2.1 == idx).map fun e => (e.2.2.1, e.2.2.2.1)
def fl (o idx : Nat) : Option (Nat × Nat) := (flT.find? fun e => e.1 == o && e.2.1 == idx).map fun e => (e.2.2.1, e.2.2.2.1)
def nw (o idx : Nat) : Option (Nat × Nat) := (nwT.find? fun e => e.1 == o && e.2.1 == idx).map fun e => (e.2.2.1, e.2.2.2.1)
def an (o idx : Nat) : Option Nat := (anT.find? fun e => e.1 == o && e.2.1 == idx).map fun e => e.2.2.1
def ic (o idx : Nat) : Option Int32 := (inT.find? fun e => e.1 == o && e.2.1 == idx).map fun e => e.2.2.1
def lc (o idx : Nat) : Option Int64 := (loT.find? fun e => e.1 == o && e.2.1 == idx).map fun e => e.2.2.1
def sc (o idx : Nat) : Option Nat := (stT.find? fun e => e.1 == o && e.2.1 == idx).map fun e => e.2.2
-- the classes' fields by place
def clT (c : Nat) : u_T := match c with | 0 => TX0 | 1 => TX1 | 2 => TX2 | 3 => TX3 | 4 => TX4 | 5 => TX6 | 6 => TX7 | _ => TX8
def clN (c : Nat) : Nat := match c with | 0 => 2 | 1 => 1 | 2 => 9 | 3 => 4 | 4 => 7 | 5 => 14 | 6 => 10 | _ => 18
def clTy (c : Nat) : Nat → FieldType := match c with | 0 => tyX0 | 1 => tyX1 | 2 => tyX2 | 3 => tyX3 | 4 => tyX4 | 5 => tyX6 | 6 => tyX7 | _ => tyX8
def clR (c : Nat) : String := match c with | 0 => RX0 | 1 => RX1 | 2 => RX2 | 3 => RX3 | 4 => RX4 | 5 => RX6 | 6 => RX7 | _ => RX8
/-- the value fits a variable of the type -/
def okv (ty : FieldType) (v : Value) : Bool := match ty, v with
  | .int, .int _ => true
  | .boolean, .int x => x == 0 || x == 1
  | .long, .long _ => true
  | .object _, .ref _ => true
  | .array _, .ref _ => true
  | .object _, .null => true
  | .array _, .null => true
  | _, _ => false
def dfl (c : Nat) : List Value := (List.range (clN c)).map fun k => defaultValue (clTy c k)
/-- may this method store into that field? -/
def fin (mi c k : Nat) : Bool := !(clT c k).2.2.2 || ((mR mi).2.1.name == "<init>" && (clT c k).1 == oN (mR mi).1)
def cod (mi pc : Nat) : Option (Instr × Nat) := match decode (mR mi).2.2.1 pc with
  | .ok x => some x
  | .error _ => none
abbrev p1 (st : List Value) (K : Int32 → List Value → Act) : Act := match st with
  | .int x :: r => K x r
  | _ => none
abbrev p2 (st : List Value) (K : Int32 → Int32 → List Value → Act) : Act := match st with
  | .int y :: .int x :: r => K x y r
  | _ => none
abbrev q1 (st : List Value) (K : Int64 → List Value → Act) : Act := match st with
  | .long x :: r => K x r
  | _ => none
abbrev q2 (st : List Value) (K : Int64 → Int64 → List Value → Act) : Act := match st with
  | .long y :: .long x :: r => K x y r
  | _ => none
abbrev go (pc : Nat) (off : Int) (K : Nat → Act) : Act := if 0 ≤ (pc : Int) + off then K ((pc : Int) + off).toNat else none
def cal (callee : Nat) (as : List Value) (pc : Nat) (ls r : List Value) (h : Hp) : Act := if (wrd as).length ≤ (mR callee).2.2.2.1 ∧ stk r ≤ 8 then aC callee as (pc + 3) ls r h else none
/-- a call: its arguments from the stack -/
def inv (d kind callee : Nat) (n : Nat) (pc : Nat) (ls st : List Value) (h : Hp) : Act :=
  if st.length < n ∨ 45 < (mR callee).2.2.2.1 ∨ d = 0 then none else
  match kind with
  | 0 => cal callee (st.take n).reverse pc ls (st.drop n) h
  | 3 => cal callee (st.take n).reverse pc ls (st.drop n) h
  | 1 => (match st.drop n with
    | .ref a :: r => (match h.2.2 a with
      | .inr (.inr (c, _)) => if c = 100 ∧ (mR callee).2.1.cls = "java/lang/String" ∨ c < 8 ∧ clR c = (mR callee).2.1.cls then cal callee (.ref a :: (st.take n).reverse) pc ls r h else none
      | _ => none)
    | _ => none)
  | 2 => (match st.drop n with
    | .ref a :: r => cal callee (.ref a :: (st.take n).reverse) pc ls r h
    | _ => none)
  | 5 => (match st.drop n with
    | .ref a :: r => cal callee (.ref a :: (st.take n).reverse) pc ls r h
    | _ => none)
  | _ => none
def cpy (f g : Nat → Int32) (sp dp n : Nat) : Nat → Int32 := va_cpy f g sp dp n
/-- System.arraycopy of ints -/
def arc (d pc : Nat) (ls st : List Value) (h : Hp) : Act := match st with
  | .int n :: .int dp :: .ref a1 :: .int sp :: .ref a0 :: r =>
    (match h.2.2 a0, h.2.2 a1 with
    | .inl (0, n0, f), .inl (0, n1, g) =>
      if 0 ≤ sp.toInt ∧ 0 ≤ dp.toInt ∧ 0 ≤ n.toInt ∧ sp.toInt + n.toInt ≤ n0 ∧ dp.toInt + n.toInt ≤ n1 ∧ stk r ≤ 8 ∧ d ≠ 0 then
        aN (pc + 3) ls r (hup h a1 (oI n1 (cpy f g sp.toNatClampNeg dp.toNatClampNeg n.toNatClampNeg)))
      else none
    | _, _ => none)
  | _ => none
set_option maxHeartbeats 4000000 in
/-- one instruction -/
def stI (d mi o : Nat) (I : Instr) (len pc : Nat) (ls st : List Value) (h : Hp) : Act := match I, len with
  | .iconst n, 1 => aN (pc + 1) ls (.int (Int32.ofInt n) :: st) h
  | .bipush n, 2 => aN (pc + 2) ls (.int (Int8.ofInt n).toInt32 :: st) h
  | .sipush n, 3 => aN (pc + 3) ls (.int (Int16.ofInt n).toInt32 :: st) h
  | .lconst n, 1 => aN (pc + 1) ls (.long (Int64.ofNat (n : Nat)) :: st) h
  | .ldc k, 2 => (match ic o k, sc o k with
    | some v, _ => aN (pc + 2) ls (.int v :: st) h
    | none, some i => aN (pc + 2) ls (.ref (1 + i) :: st) h
    | none, none => none)
  | .ldc_w k, 3 => (match ic o k with
    | some v => aN (pc + 3) ls (.int v :: st) h
    | none => none)
  | .ldc2_w k, 3 => (match lc o k with
    | some v => aN (pc + 3) ls (.long v :: st) h
    | none => none)
  | .iload k, 2 => (match getL ls k with
    | .int x => aN (pc + 2) ls (.int x :: st) h
    | _ => none)
  | .iload_n k, 1 => (match getL ls k.val with
    | .int x => aN (pc + 1) ls (.int x :: st) h
    | _ => none)
  | .lload k, 2 => (match getL ls k with
    | .long x => aN (pc + 2) ls (.long x :: st) h
    | _ => none)
  | .lload_n k, 1 => (match getL ls k.val with
    | .long x => aN (pc + 1) ls (.long x :: st) h
    | _ => none)
  | .aload k, 2 => (match getL ls k with
    | .ref x => aN (pc + 2) ls (.ref x :: st) h
    | .null => aN (pc + 2) ls (.null :: st) h
    | .retAddr x => aN (pc + 2) ls (.retAddr x :: st) h
    | _ => none)
  | .aload_n k, 1 => (match getL ls k.val with
    | .ref x => aN (pc + 1) ls (.ref x :: st) h
    | .null => aN (pc + 1) ls (.null :: st) h
    | .retAddr x => aN (pc + 1) ls (.retAddr x :: st) h
    | _ => none)
  | .istore k, 2 => p1 st fun x r => if k < ls.length then aN (pc + 2) (stL ls k (.int x)) r h else none
  | .lstore k, 2 => q1 st fun x r => if k + 1 < ls.length then aN (pc + 2) (stL2 ls k (.long x)) r h else none
  | .astore k, 2 => (match st with
    | .ref x :: r => if k < ls.length then aN (pc + 2) (stL ls k (.ref x)) r h else none
    | _ => none)
  | .istore_n k, 1 => p1 st fun x r => if k.val < ls.length then aN (pc + 1) (stL ls k.val (.int x)) r h else none
  | .lstore_n k, 1 => q1 st fun x r => if k.val + 1 < ls.length then aN (pc + 1) (stL2 ls k.val (.long x)) r h else none
  | .astore_n k, 1 => (match st with
    | .ref x :: r => if k.val < ls.length then aN (pc + 1) (stL ls k.val (.ref x)) r h else none
    | _ => none)
  | .iinc k n, 3 => (match getL ls k with
    | .int x => if k < ls.length then aN (pc + 3) (stL ls k (.int (x + Int32.ofInt n))) st h else none
    | _ => none)
  | .iadd, 1 => p2 st fun x y r => aN (pc + 1) ls (.int (x + y) :: r) h
  | .isub, 1 => p2 st fun x y r => aN (pc + 1) ls (.int (x - y) :: r) h
  | .imul, 1 => p2 st fun x y r => aN (pc + 1) ls (.int (x * y) :: r) h
  | .iand, 1 => p2 st fun x y r => aN (pc + 1) ls (.int (x &&& y) :: r) h
  | .ior, 1 => p2 st fun x y r => aN (pc + 1) ls (.int (x ||| y) :: r) h
  | .ixor, 1 => p2 st fun x y r => aN (pc + 1) ls (.int (x ^^^ y) :: r) h
  | .ishl, 1 => p2 st fun x y r => aN (pc + 1) ls (.int (x <<< (y &&& 31)) :: r) h
  | .ishr, 1 => p2 st fun x y r => aN (pc + 1) ls (.int (x >>> (y &&& 31)) :: r) h
  | .iushr, 1 => p2 st fun x y r => aN (pc + 1) ls (.int ((x.toUInt32 >>> (y.toUInt32 &&& Int32.toUInt32 31)).toInt32) :: r) h
  | .idiv, 1 => p2 st fun x y r => if y = 0 then none else aN (pc + 1) ls (.int (x / y) :: r) h
  | .irem, 1 => p2 st fun x y r => if y = 0 then none else aN (pc + 1) ls (.int (x - x / y * y) :: r) h
  | .ladd, 1 => q2 st fun x y r => aN (pc + 1) ls (.long (x + y) :: r) h
  | .lmul, 1 => q2 st fun x y r => aN (pc + 1) ls (.long (x * y) :: r) h
  | .ldiv, 1 => q2 st fun x y r => if y = 0 then none else aN (pc + 1) ls (.long (x / y) :: r) h
  | .lrem, 1 => q2 st fun x y r => if y = 0 then none else aN (pc + 1) ls (.long (x - x / y * y) :: r) h
  | .lcmp, 1 => q2 st fun x y r => aN (pc + 1) ls (.int (lg_cmp x y) :: r) h
  | .i2l, 1 => p1 st fun x r => aN (pc + 1) ls (.long x.toInt64 :: r) h
  | .i2c, 1 => p1 st fun x r => aN (pc + 1) ls (.int (x.toUInt32 % 65536).toInt32 :: r) h
  | .l2i, 1 => q1 st fun x r => aN (pc + 1) ls (.int x.toInt32 :: r) h
  | .dup, 1 => (match st with
    | v :: r => if v.category = 1 then aN (pc + 1) ls (v :: v :: r) h else none
    | _ => none)
  | .pop, 1 => (match st with
    | v :: r => if v.category = 1 then aN (pc + 1) ls r h else none
    | _ => none)
  | .dup2, 1 => (match st with
    | v :: w :: r => if v.category = 1 ∧ w.category = 1 then aN (pc + 1) ls (v :: w :: v :: w :: r) h else none
    | _ => none)
  | .ifCond .eq off, 3 => p1 st fun x r => go pc off fun t => if x = 0 then aN t ls r h else aN (pc + 3) ls r h
  | .if_icmp .eq off, 3 => p2 st fun x y r => go pc off fun t => if x = y then aN t ls r h else aN (pc + 3) ls r h
  | .ifCond .ne off, 3 => p1 st fun x r => go pc off fun t => if ¬ x = 0 then aN t ls r h else aN (pc + 3) ls r h
  | .if_icmp .ne off, 3 => p2 st fun x y r => go pc off fun t => if ¬ x = y then aN t ls r h else aN (pc + 3) ls r h
  | .ifCond .lt off, 3 => p1 st fun x r => go pc off fun t => if x < 0 then aN t ls r h else aN (pc + 3) ls r h
  | .if_icmp .lt off, 3 => p2 st fun x y r => go pc off fun t => if x < y then aN t ls r h else aN (pc + 3) ls r h
  | .ifCond .ge off, 3 => p1 st fun x r => go pc off fun t => if 0 ≤ x then aN t ls r h else aN (pc + 3) ls r h
  | .if_icmp .ge off, 3 => p2 st fun x y r => go pc off fun t => if y ≤ x then aN t ls r h else aN (pc + 3) ls r h
  | .ifCond .gt off, 3 => p1 st fun x r => go pc off fun t => if 0 < x then aN t ls r h else aN (pc + 3) ls r h
  | .if_icmp .gt off, 3 => p2 st fun x y r => go pc off fun t => if y < x then aN t ls r h else aN (pc + 3) ls r h
  | .ifCond .le off, 3 => p1 st fun x r => go pc off fun t => if x ≤ 0 then aN t ls r h else aN (pc + 3) ls r h
  | .if_icmp .le off, 3 => p2 st fun x y r => go pc off fun t => if x ≤ y then aN t ls r h else aN (pc + 3) ls r h
  | .ifnull off, 3 => (match st with
    | .ref _ :: r => aN (pc + 3) ls r h
    | .null :: r => go pc off fun t => aN t ls r h
    | _ => none)
  | .ifnonnull off, 3 => (match st with
    | .ref _ :: r => go pc off fun t => aN t ls r h
    | .null :: r => aN (pc + 3) ls r h
    | _ => none)
  | .goto off, 3 => go pc off fun t => aN t ls st h
  | .tableswitch dflt lo hi offs, _ => p1 st fun x r => if x.toInt < lo ∨ hi < x.toInt then go pc dflt fun t => aN t ls r h else
    (match offs[(x.toInt - lo).toNat]? with
    | some off => go pc off fun t => aN t ls r h
    | none => none)
  | .lookupswitch dflt ps, _ => p1 st fun x r => if (ps.toList.zip (ps.toList.drop 1)).all (fun (a, next) => a.1 < next.1) = true then go pc (Op.lookupswitch.offset ps.toList dflt x.toInt) fun t => aN t ls r h else none
  | .getfield k, 3 => (match st with
    | .ref a :: r => (match fl o k, h.2.2 a with
      | some (c, j), .inr (.inr (c1, fs)) => if c = c1 ∧ c < 8 ∧ j < clN c then (match fs[j]? with
        | some v => aN (pc + 3) ls (v :: r) h
        | none => none) else none
      | none, .inr (.inr (100, [v, w])) => if o = 10 ∧ k = 9 then aN (pc + 3) ls (v :: r) h else if o = 10 ∧ k = 15 then aN (pc + 3) ls (w :: r) h else none
      | _, _ => none)
    | _ => none)
  | .putfield k, 3 => (match st with
    | v :: .ref a :: r => (match fl o k, h.2.2 a with
      | some (c, j), .inr (.inr (c1, fs)) => if c = c1 ∧ c < 8 ∧ j < clN c ∧ j < fs.length ∧ okv (clTy c j) v = true ∧ fin mi c j = true then aN (pc + 3) ls r (hup h a (oO c (fs.set j v))) else none
      | _, _ => none)
    | _ => none)
  | .getstatic k, 3 => if o = 10 ∧ k = 38 then aN (pc + 3) ls (.int 1 :: st) h else if o = 10 ∧ k = 1053 then aN (pc + 3) ls (.retAddr 0 :: st) h else none
  | .iaload, 1 => (match st with
    | .int i :: .ref a :: r => (match h.2.2 a with
      | .inl (0, n, f) => if 0 ≤ i.toInt ∧ i.toInt < n then aN (pc + 1) ls (.int (f i.toNatClampNeg) :: r) h else none
      | .inl (3, n, f) => if 0 ≤ i.toInt ∧ i.toInt < n then aN (pc + 1) ls (.int (f i.toNatClampNeg) :: r) h else none
      | _ => none)
    | _ => none)
  | .baload, 1 => (match st with
    | .int i :: .ref a :: r => (match h.2.2 a with
      | .inl (1, n, f) => if 0 ≤ i.toInt ∧ i.toInt < n then aN (pc + 1) ls (.int (f i.toNatClampNeg) :: r) h else none
      | .inl (2, n, f) => if 0 ≤ i.toInt ∧ i.toInt < n then aN (pc + 1) ls (.int (f i.toNatClampNeg) :: r) h else none
      | _ => none)
    | _ => none)
  | .aaload, 1 => (match st with
    | .int i :: .ref a :: r => (match h.2.2 a with
      | .inr (.inl (n, f)) => if 0 ≤ i.toInt ∧ i.toInt < n then aN (pc + 1) ls (va_rf (f i.toNatClampNeg) :: r) h else none
      | _ => none)
    | _ => none)
  | .iastore, 1 => (match st with
    | .int x :: .int i :: .ref a :: r => (match h.2.2 a with
      | .inl (0, n, f) => if 0 ≤ i.toInt ∧ i.toInt < n then aN (pc + 1) ls r (hup h a (oI n (upd f i.toNatClampNeg x))) else none
      | _ => none)
    | _ => none)
  | .bastore, 1 => (match st with
    | .int x :: .int i :: .ref a :: r => (match h.2.2 a with
      | .inl (1, n, f) => if (0 ≤ i.toInt ∧ i.toInt < n) ∧ (x = 0 ∨ x = 1) then aN (pc + 1) ls r (hup h a (oZ n (upd f i.toNatClampNeg x))) else none
      | _ => none)
    | _ => none)
  | .aastore, 1 => (match st with
    | .ref q :: .int i :: .ref a :: r => (match h.2.2 a, h.2.2 q with
      | .inr (.inl (n, f)), .inr (.inr (5, _)) => if 0 ≤ i.toInt ∧ i.toInt < n then aN (pc + 1) ls r (hup h a (oQ n (va_up f i.toNatClampNeg (some q)))) else none
      | _, _ => none)
    | _ => none)
  | .arraylength, 1 => (match st with
    | .ref a :: r => (match h.2.2 a with
      | .inl (_, n, _) => aN (pc + 1) ls (.int (Int32.ofNat n) :: r) h
      | .inr (.inl (n, _)) => aN (pc + 1) ls (.int (Int32.ofNat n) :: r) h
      | _ => none)
    | _ => none)
  | .new k, 3 => (match nw o k with
    | some (c, n) => if c < 8 ∧ n = clN c then aN (pc + 3) ls (.ref h.1 :: st) (hnew h n (oO c (dfl c))) else none
    | none => none)
  | .newarray .int, 2 => p1 st fun x r => if 0 ≤ x.toInt ∧ x.toInt ≤ 100000 then aN (pc + 2) ls (.ref h.1 :: r) (hnew h x.toNatClampNeg (oI x.toNatClampNeg fun _ => 0)) else none
  | .newarray .boolean, 2 => p1 st fun x r => if 0 ≤ x.toInt ∧ x.toInt ≤ 100000 then aN (pc + 2) ls (.ref h.1 :: r) (hnew h x.toNatClampNeg (oZ x.toNatClampNeg fun _ => 0)) else none
  | .anewarray k, 3 => p1 st fun x r => (match an o k with
    | some 5 => if 0 ≤ x.toInt ∧ x.toInt ≤ 100000 then aN (pc + 3) ls (.ref h.1 :: r) (hnew h x.toNatClampNeg (oQ x.toNatClampNeg fun _ => none)) else none
    | _ => none)
  | .invokestatic k, 3 => (match ml o k with
    | some (8, _) => arc d pc ls st h
    | some (6, _) => p2 st fun x y r => if stk r ≤ 8 ∧ d ≠ 0 then aN (pc + 3) ls (.int (if x < y then y else x) :: r) h else none
    | some (7, _) => p2 st fun x y r => if stk r ≤ 8 ∧ d ≠ 0 then aN (pc + 3) ls (.int (if y < x then y else x) :: r) h else none
    | some (0, j) => inv d 0 j (mR j).2.2.2.2.2 pc ls st h
    | some (3, j) => inv d 3 j (mR j).2.2.2.2.2 pc ls st h
    | _ => none)
  | .invokevirtual k, 3 => (match ml o k with
    | some (1, j) => inv d 1 j (mR j).2.2.2.2.2 pc ls st h
    | _ => none)
  | .invokespecial k, 3 => (match ml o k with
    | some (9, _) => (match st with
      | .ref _ :: r => if stk r ≤ 8 ∧ d ≠ 0 then aN (pc + 3) ls r h else none
      | _ => none)
    | some (2, j) => inv d 2 j (mR j).2.2.2.2.2 pc ls st h
    | some (5, j) => inv d 5 j (mR j).2.2.2.2.2 pc ls st h
    | _ => none)
  | .ireturn, 1 => (match st, (mR mi).2.2.2.2.1 with
    | [.int x], some ty => if narrow ty (.int x) = .int x then aR (some (.int x)) h else none
    | _, _ => none)
  | .lreturn, 1 => (match st, (mR mi).2.2.2.2.1 with
    | [.long x], some .long => aR (some (.long x)) h
    | _, _ => none)
  | .areturn, 1 => (match st, (mR mi).2.2.2.2.1 with
    | [.ref x], some (.object _) => aR (some (.ref x)) h
    | _, _ => none)
  | .return_, 1 => (match st, (mR mi).2.2.2.2.1 with
    | [], none => aR none h
    | _, _ => none)
  | _, _ => none
def stp (d mi pc : Nat) (ls st : List Value) (h : Hp) : Act := match cod mi pc with
  | some (I, len) => stI d mi (mR mi).1 I len pc ls st h
  | none => none
/-- a run of at most n instructions, calls at most d deep -/
def ex : Nat → Nat → Nat → Nat → List Value → List Value → Hp → Option (Option Value × Hp)
  | 0, _, _, _, _, _, _ => none
  | n + 1, d, mi, pc, ls, st, h => match stp d mi pc ls st h with
    | some (.inl (pc', ls', st', h')) => ex n d mi pc' ls' st' h'
    | some (.inr (.inl (mi', as, pc', ls', st', h'))) => (match ex n (d - 1) mi' 0 (ent (mR mi').2.2.2.1 as) [] h' with
      | some (r, h2) => ex n d mi pc' ls' (rl r st') h2
      | none => none)
    | some (.inr (.inr rh)) => some rh
    | none => none
