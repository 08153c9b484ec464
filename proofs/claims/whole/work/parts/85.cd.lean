/-! sets of kinds as bits -/
theorem itr_ff {p : Nat → Bool} : ∀ n i, itr (fun r b => b && p r) n i false = false := by
  intro n
  induction n with
  | zero => intro i; rfl
  | succ n ih => intro i; unfold itr; rw [Bool.false_and]; exact ih (i + 1)
theorem all_fnd {p : Nat → Bool} : ∀ n i, itr (fun r b => b && p r) n i true = (fnd (fun r (_ : Unit) => !p r) (fun _ s => s) n i ()).1.isNone := by
  intro n
  induction n with
  | zero => intro i; rfl
  | succ n ih =>
    intro i
    unfold itr fnd
    cases q : p i with
    | true => rw [Bool.and_self]; simp only [Bool.not_true, Bool.false_eq_true, if_false]; exact ih (i + 1)
    | false => rw [Bool.and_false, itr_ff]; simp only [Bool.not_false, if_true, Option.isNone]
def bN (b : Bool) : Nat := if b = true then 1 else 0
def mk6 (p : Nat → Bool) : Nat := bN (p 0) + 2 * bN (p 1) + 4 * bN (p 2) + 8 * bN (p 3) + 16 * bN (p 4) + 32 * bN (p 5)
def g6 (b0 b1 b2 b3 b4 b5 : Bool) : Nat := bN b0 + 2 * bN b1 + 4 * bN b2 + 8 * bN b3 + 16 * bN b4 + 32 * bN b5
theorem mk6_lt (p : Nat → Bool) : mk6 p < 64 := by
  unfold mk6
  have : ∀ b, bN b ≤ 1 := by decide
  have h0 := this (p 0); have h1 := this (p 1); have h2 := this (p 2); have h3 := this (p 3); have h4 := this (p 4); have h5 := this (p 5)
  omega
def ok1 (kd : Nat) (set : Int32) (c : Bool) : Int32 := set &&& (if c = true then (63 : Int32) else ((1 : Int32) <<< (nI kd &&& 31)) ^^^ (-1))
set_option maxRecDepth 100000 in
theorem and_dec : ∀ v, v < 64 → ∀ kd, kd < 6 → ok1 kd (nI v) true = nI v ∧ ok1 kd (nI v) false = nI (v - (v / 2 ^ kd % 2) * 2 ^ kd) := by decide +kernel
set_option maxRecDepth 100000 in
theorem g6_clr : ∀ b0 b1 b2 b3 b4 b5, (g6 b0 b1 b2 b3 b4 b5 - (g6 b0 b1 b2 b3 b4 b5 / 2 ^ 0 % 2) * 2 ^ 0 = g6 false b1 b2 b3 b4 b5) ∧ (g6 b0 b1 b2 b3 b4 b5 - (g6 b0 b1 b2 b3 b4 b5 / 2 ^ 1 % 2) * 2 ^ 1 = g6 b0 false b2 b3 b4 b5) ∧ (g6 b0 b1 b2 b3 b4 b5 - (g6 b0 b1 b2 b3 b4 b5 / 2 ^ 2 % 2) * 2 ^ 2 = g6 b0 b1 false b3 b4 b5) ∧ (g6 b0 b1 b2 b3 b4 b5 - (g6 b0 b1 b2 b3 b4 b5 / 2 ^ 3 % 2) * 2 ^ 3 = g6 b0 b1 b2 false b4 b5) ∧ (g6 b0 b1 b2 b3 b4 b5 - (g6 b0 b1 b2 b3 b4 b5 / 2 ^ 4 % 2) * 2 ^ 4 = g6 b0 b1 b2 b3 false b5) ∧ (g6 b0 b1 b2 b3 b4 b5 - (g6 b0 b1 b2 b3 b4 b5 / 2 ^ 5 % 2) * 2 ^ 5 = g6 b0 b1 b2 b3 b4 false) := by decide +kernel
theorem g6_lt (b0 b1 b2 b3 b4 b5 : Bool) : g6 b0 b1 b2 b3 b4 b5 < 64 := mk6_lt (fun k => match k with | 0 => b0 | 1 => b1 | 2 => b2 | 3 => b3 | 4 => b4 | _ => b5)
theorem and6 (b c : Nat → Bool) : itr (fun kd set => ok1 kd set (c kd)) 6 0 (nI (mk6 b)) = nI (mk6 (fun kd => b kd && c kd)) := by
  have step : ∀ kd, kd < 6 → ∀ v, v < 64 → ok1 kd (nI v) (c kd) = nI (if c kd = true then v else v - (v / 2 ^ kd % 2) * 2 ^ kd) := by
    intro kd hk v hv
    cases c kd with
    | true => rw [(and_dec v hv kd hk).1, if_pos rfl]
    | false => rw [(and_dec v hv kd hk).2, if_neg (by decide)]
  have s0 : ∀ b0 b1 b2 b3 b4 b5, ok1 0 (nI (g6 b0 b1 b2 b3 b4 b5)) (c 0) = nI (g6 (b0 && c 0) b1 b2 b3 b4 b5) := fun b0 b1 b2 b3 b4 b5 => by
    rw [step 0 (by decide) _ (g6_lt _ _ _ _ _ _)]
    cases c 0 with
    | true => rw [if_pos rfl, Bool.and_true]
    | false => rw [if_neg (by decide), Bool.and_false, (g6_clr b0 b1 b2 b3 b4 b5).1]
  have s1 : ∀ b0 b1 b2 b3 b4 b5, ok1 1 (nI (g6 b0 b1 b2 b3 b4 b5)) (c 1) = nI (g6 b0 (b1 && c 1) b2 b3 b4 b5) := fun b0 b1 b2 b3 b4 b5 => by
    rw [step 1 (by decide) _ (g6_lt _ _ _ _ _ _)]
    cases c 1 with
    | true => rw [if_pos rfl, Bool.and_true]
    | false => rw [if_neg (by decide), Bool.and_false, (g6_clr b0 b1 b2 b3 b4 b5).2.1]
  have s2 : ∀ b0 b1 b2 b3 b4 b5, ok1 2 (nI (g6 b0 b1 b2 b3 b4 b5)) (c 2) = nI (g6 b0 b1 (b2 && c 2) b3 b4 b5) := fun b0 b1 b2 b3 b4 b5 => by
    rw [step 2 (by decide) _ (g6_lt _ _ _ _ _ _)]
    cases c 2 with
    | true => rw [if_pos rfl, Bool.and_true]
    | false => rw [if_neg (by decide), Bool.and_false, (g6_clr b0 b1 b2 b3 b4 b5).2.2.1]
  have s3 : ∀ b0 b1 b2 b3 b4 b5, ok1 3 (nI (g6 b0 b1 b2 b3 b4 b5)) (c 3) = nI (g6 b0 b1 b2 (b3 && c 3) b4 b5) := fun b0 b1 b2 b3 b4 b5 => by
    rw [step 3 (by decide) _ (g6_lt _ _ _ _ _ _)]
    cases c 3 with
    | true => rw [if_pos rfl, Bool.and_true]
    | false => rw [if_neg (by decide), Bool.and_false, (g6_clr b0 b1 b2 b3 b4 b5).2.2.2.1]
  have s4 : ∀ b0 b1 b2 b3 b4 b5, ok1 4 (nI (g6 b0 b1 b2 b3 b4 b5)) (c 4) = nI (g6 b0 b1 b2 b3 (b4 && c 4) b5) := fun b0 b1 b2 b3 b4 b5 => by
    rw [step 4 (by decide) _ (g6_lt _ _ _ _ _ _)]
    cases c 4 with
    | true => rw [if_pos rfl, Bool.and_true]
    | false => rw [if_neg (by decide), Bool.and_false, (g6_clr b0 b1 b2 b3 b4 b5).2.2.2.2.1]
  have s5 : ∀ b0 b1 b2 b3 b4 b5, ok1 5 (nI (g6 b0 b1 b2 b3 b4 b5)) (c 5) = nI (g6 b0 b1 b2 b3 b4 (b5 && c 5)) := fun b0 b1 b2 b3 b4 b5 => by
    rw [step 5 (by decide) _ (g6_lt _ _ _ _ _ _)]
    cases c 5 with
    | true => rw [if_pos rfl, Bool.and_true]
    | false => rw [if_neg (by decide), Bool.and_false, (g6_clr b0 b1 b2 b3 b4 b5).2.2.2.2.2]
  show ok1 5 (ok1 4 (ok1 3 (ok1 2 (ok1 1 (ok1 0 (nI (g6 (b 0) (b 1) (b 2) (b 3) (b 4) (b 5))) (c 0)) (c 1)) (c 2)) (c 3)) (c 4)) (c 5) = nI (g6 (b 0 && c 0) (b 1 && c 1) (b 2 && c 2) (b 3 && c 3) (b 4 && c 4) (b 5 && c 5))
  rw [s0, s1, s2, s3, s4, s5]
theorem and6s {c : Nat → Nat → Bool} : ∀ n i (b : Nat → Bool), itr (fun r set => itr (fun kd set => ok1 kd set (c r kd)) 6 0 set) n i (nI (mk6 b)) = nI (mk6 (fun kd => itr (fun r b => b && c r kd) n i (b kd))) := by
  intro n
  induction n with
  | zero => intro i b; rfl
  | succ n ih =>
    intro i b
    unfold itr
    rw [and6 b (c i)]
    exact ih (i + 1) (fun kd => b kd && c i kd)
def or1 (kd : Nat) (set : Int32) (c : Bool) : Int32 := if c = true then set ||| ((1 : Int32) <<< (nI kd &&& 31)) else set
set_option maxRecDepth 100000 in
theorem or6_dec : ∀ c0 c1 c2 c3 c4 c5, or1 5 (or1 4 (or1 3 (or1 2 (or1 1 (or1 0 0 c0) c1) c2) c3) c4) c5 = nI (g6 c0 c1 c2 c3 c4 c5) := by decide +kernel
theorem or6 (c : Nat → Bool) : itr (fun kd set => or1 kd set (c kd)) 6 0 0 = nI (mk6 c) := or6_dec (c 0) (c 1) (c 2) (c 3) (c 4) (c 5)
theorem kdS_m {R : Nat → Int32} {i nn : Nat} : kdS R i nn = nI (mk6 (fun kd => itr (fun r b => b && kdC R i r kd) nn 0 true)) := and6s (c := fun r kd => kdC R i r kd) nn 0 (fun _ => true)
theorem svS_m {R : Nat → Int32} {j mn : Nat} : svS R j mn = nI (mk6 (fun kd => itr (fun r b => b && svC R j r kd) mn 0 true)) := and6s (c := fun r kd => svC R j r kd) mn 0 (fun _ => true)
/-- how many at most come to the same -/
theorem alkS_n {C : Nat → Int32} {set : Int32} {k : Nat} : ∃ v, v ≤ 6 ∧ alkS C set k = nI v := by
  have key : ∀ n q s, ∃ v, v ≤ s + n ∧ itr (alkF C set k) n q (nI s) = nI v := by
    intro n
    induction n with
    | zero => intro q s; exact ⟨s, by omega, rfl⟩
    | succ n ih =>
      intro q s
      have e : ∃ x, x ≤ 1 ∧ alkF C set k q (nI s) = nI (s + x) := by
        unfold alkF
        by_cases z : ¬ hb set (nI k) = 0 ∧ ¬ hb set (nI q) = 0 ∧ C k = C q
        · rw [if_pos z]; exact ⟨1, by omega, nI_1 s⟩
        · rw [if_neg z, Int32.add_zero]; exact ⟨0, by omega, rfl⟩
      obtain ⟨x, h1, h2⟩ := e
      unfold itr
      rw [h2]
      obtain ⟨v, h3, h4⟩ := ih (q + 1) (s + x)
      exact ⟨v, by omega, h4⟩
  obtain ⟨v, h1, h2⟩ := key 6 0 0
  exact ⟨v, by omega, h2⟩
theorem malk_n {C : Nat → Int32} {set : Int32} : ∃ v, v ≤ 6 ∧ malk C set = nI v := by
  have key : ∀ n k s, s ≤ 6 → ∃ v, v ≤ 6 ∧ itr (malkF C set) n k (nI s) = nI v := by
    intro n
    induction n with
    | zero => intro k s hs; exact ⟨s, hs, rfl⟩
    | succ n ih =>
      intro k s hs
      obtain ⟨x, h1, h2⟩ := @alkS_n C set k
      unfold itr
      have e : ∃ y, y ≤ 6 ∧ malkF C set k (nI s) = nI y := by
        unfold malkF
        rw [h2]
        split
        · exact ⟨x, h1, rfl⟩
        · exact ⟨s, hs, rfl⟩
      obtain ⟨y, h3, h4⟩ := e
      rw [h4]
      exact ih (k + 1) y h3
  exact key 6 0 0 (by omega)
/-- the first of all is less than either beginning -/
theorem itr_beg {f : Nat → Int32} {w : Nat → Int32} {a b : Int32} {n : Nat} (hn : 0 < n) (h1 : f 0 < a) (h2 : f 0 < b) : itr (fun p (s : Int32 × Int32) => (if f p < s.2 then w p else s.1, if f p < s.2 then f p else s.2)) n 0 (-1, a) = itr (fun p (s : Int32 × Int32) => (if f p < s.2 then w p else s.1, if f p < s.2 then f p else s.2)) n 0 (-1, b) := by
  cases n with
  | zero => omega
  | succ n =>
    unfold itr
    simp only [h1, h2, if_true]
theorem itr_nest {σ : Type} {F : Nat → σ → σ} {m : Nat} : ∀ n i s, itr (fun w s => itr (fun x s => F (m * w + x) s) m 0 s) n i s = itr F (m * n) (m * i) s := by
  have shift : ∀ k x i s, itr (fun x s => F (m * i + x) s) k x s = itr F k (m * i + x) s := by
    intro k
    induction k with
    | zero => intro x i s; rfl
    | succ k ih => intro x i s; unfold itr; exact ih (x + 1) i _
  have app : ∀ a b i s, itr F (a + b) i s = itr F b (i + a) (itr F a i s) := by
    intro a
    induction a with
    | zero => intro b i s; rw [Nat.zero_add]; rfl
    | succ a ih =>
      intro b i s
      rw [show a + 1 + b = (a + b) + 1 by omega]
      show itr F (a + b) (i + 1) (F i s) = itr F b (i + (a + 1)) (itr F a (i + 1) (F i s))
      rw [ih b (i + 1), show i + 1 + a = i + (a + 1) by omega]
  intro n
  induction n with
  | zero => intro i s; rfl
  | succ n ih =>
    intro i s
    rw [show m * (n + 1) = m + m * n by rw [Nat.mul_succ]; omega, app]
    show itr (fun w s => itr (fun x s => F (m * w + x) s) m 0 s) n (i + 1) (itr (fun x s => F (m * i + x) s) m 0 s) = _
    rw [ih, shift, Nat.mul_succ]
    rfl
/-- the greater part of them, staying or not -/
def grh (c : Nat → Bool) (set : Int32) : Int32 :=
  let st := itr (fun k s => if ¬ hb set (nI k) = 0 ∧ c k = true then s + 1 else s) 6 0 0
  if st < bc set - st then bc set - st else st
def fb (c : Nat) (k : Nat) : Bool := decide (c / 2 ^ k % 2 = 1)
set_option maxRecDepth 1000000 in
set_option maxHeartbeats 4000000 in
theorem grh_dec : ∀ c, c < 64 → ∀ v, v < 64 → malk (fun k => if fb c k = true then 1 else 0) (nI v) = grh (fb c) (nI v) := by decide +kernel
theorem fb_g6 : ∀ b0 b1 b2 b3 b4 b5, fb (g6 b0 b1 b2 b3 b4 b5) 0 = b0 ∧ fb (g6 b0 b1 b2 b3 b4 b5) 1 = b1 ∧ fb (g6 b0 b1 b2 b3 b4 b5) 2 = b2 ∧ fb (g6 b0 b1 b2 b3 b4 b5) 3 = b3 ∧ fb (g6 b0 b1 b2 b3 b4 b5) 4 = b4 ∧ fb (g6 b0 b1 b2 b3 b4 b5) 5 = b5 := by decide +kernel
theorem fb_m6 (c : Nat → Bool) : ∀ k, k < 6 → fb (mk6 c) k = c k := by
  obtain ⟨h0, h1, h2, h3, h4, h5⟩ := fb_g6 (c 0) (c 1) (c 2) (c 3) (c 4) (c 5)
  intro k hk
  match k, hk with
  | 0, _ => exact h0
  | 1, _ => exact h1
  | 2, _ => exact h2
  | 3, _ => exact h3
  | 4, _ => exact h4
  | 5, _ => exact h5
theorem grh_malk (c : Nat → Bool) {v : Nat} (hv : v < 64) : malk (fun k => if c k = true then 1 else 0) (nI v) = grh c (nI v) := by
  have h := grh_dec (mk6 c) (mk6_lt c) v hv
  have e1 : malk (fun k => if fb (mk6 c) k = true then 1 else 0) (nI v) = malk (fun k => if c k = true then 1 else 0) (nI v) := malk_congr (fun k hk => by simp only [fb_m6 c k hk])
  have e2 : grh (fb (mk6 c)) (nI v) = grh c (nI v) := by
    unfold grh
    have : itr (fun k s => if ¬ hb (nI v) (nI k) = 0 ∧ fb (mk6 c) k = true then s + 1 else s) 6 0 (0 : Int32) = itr (fun k s => if ¬ hb (nI v) (nI k) = 0 ∧ c k = true then s + 1 else s) 6 0 0 := itr_congr 6 0 0 (fun k s _ hk => by simp only [fb_m6 c k (by omega)])
    rw [this]
  rw [← e1, ← e2, h]
