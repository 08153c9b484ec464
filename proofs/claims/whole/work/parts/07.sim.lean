/-! the reflected machine's steps are the machine's: all but calls -/
def lenS : List Nat := [7, 5, 5, 4, 4, 8]
def bytS : List (List Int32) := [[117, 112, 108, 97, 110, 100, 115], [103, 117, 101, 115, 116], [104, 111, 117, 115, 101], [99, 97, 108, 108], [104, 111, 109, 101], [101, 118, 101, 110, 105, 110, 103, 115]]
def stN (i : Nat) : String := (["uplands", "guest", "house", "call", "home", "evenings"] : List String).getD i ""
def KK (G : Gp) (U : State) : Prop := va_K (gD G) vwCl [] U ∧ (∀ e ∈ nsT, va_Nw (.methodLinkNest (oN e.1) e.2.1 (mR e.2.2.1).2.1 "SieveGuests") U) ∧ va_AO RX6 U ∧ ∀ e ∈ stT, vk_R (oN e.1) e.2.1 (stN e.2.2) (G.2.2.1 e.2.2) U
def EX (G : Gp) (U : State) (H : Heap) : Prop := vk_S 6 lenS bytS G.2.2.1 G.2.2.2.1 (gA G) U H ∧ va_Z "java/lang/String" "COMPACT_STRINGS" "Z" (.int 1) (gA G) U H ∧ va_Z "jdk/internal/util/Preconditions" "SIOOBE_FORMATTER" "Ljava/util/function/BiFunction;" G.2.2.2.2.1 (gA G) U H
theorem KK.warm {G : Gp} {s U : State} (hW : s.WarmedH U.vm) (h : KK G s) : KK G U := ⟨va_K.moved hW.alike h.1, fun e he => va_Nw.warmM hW (h.2.1 e he), va_AO.moved hW.alike h.2.2.1, fun e he => vk_R.warm hW (h.2.2.2 e he)⟩
theorem KK.same {G : Gp} {s U : State} (hv : U.vm = s.vm) (h : KK G s) : KK G U := ⟨va_K.moved (by rw [hv]; exact Vm.Alike.refl _) h.1, fun e he => va_Nw.same rfl hv.symm (h.2.1 e he), va_AO.moved (by rw [hv]; exact Vm.Alike.refl _) h.2.2.1, fun e he => vk_R.same hv (h.2.2.2 e he)⟩
theorem EX.moved {G : Gp} {s U : State} {H : Heap} (hv : s.vm.Alike U.vm) (h : EX G s H) : EX G U H := ⟨vk_S.moved hv h.1, va_Z.moved hv h.2.1, va_Z.moved hv h.2.2⟩
theorem EX.kept {G : Gp} {U : State} {H H1 : Heap} (h : EX G U H) (hq : ∀ a : Nat, a < H.size → ¬ gA G a → H1[a]? = H[a]?) : EX G U H1 := ⟨vk_S.kept h.1 hq, va_Z.kept h.2.1 hq, va_Z.kept h.2.2 hq⟩
/-- what holds where a method of ours is walked -/
def Cx (G : Gp) (p : Program) (R : Room) (s : State) (m : MethodId) (args : Array Value) (meth : Method) (c : Code) (mi d : Nat) : Prop :=
  p.tables.exec = Jvm.exec ∧ c.code = (mR mi).2.2.1 ∧ c.maxLocals = (mR mi).2.2.2.1 ∧ s.vm.findClass (oN (mR mi).1) = some m.cls ∧ (∀ w ∈ tblG, w.before args s = true) ∧ KK G s ∧ EX G s s.heap ∧ ((mR mi).2.1.name = "<init>" → meth.name = "<init>") ∧ d ≤ R.frames ∧ 64 * d ≤ R.locals ∧ gOK G ∧ ovOK G
/-- a state on the way -/
def Vx (G : Gp) (s : State) (R : Room) (n0 s0 nL : Nat) (h : Hp) (ls : List Value) (H : Heap) (locs : List Loc) (cells slots : Nat) (arr : Array Slot) : Prop :=
  cells + n0 = h.1 ∧ slots + s0 = h.2.1 ∧ LR G nL ls arr ∧ Wd G s h H ∧ va_S (gA G) s.heap H locs
theorem p2_ok {st : List Value} {K : Int32 → Int32 → List Value → Act} {a : _} (h : p2 st K = some a) : ∃ x y r, st = .int y :: .int x :: r ∧ K x y r = some a := by
  unfold p2 at h
  split at h
  · exact ⟨_, _, _, rfl, h⟩
  · cases h
theorem p1_ok {st : List Value} {K : Int32 → List Value → Act} {a : _} (h : p1 st K = some a) : ∃ x r, st = .int x :: r ∧ K x r = some a := by
  unfold p1 at h
  split at h
  · exact ⟨_, _, rfl, h⟩
  · cases h
theorem q2_ok {st : List Value} {K : Int64 → Int64 → List Value → Act} {a : _} (h : q2 st K = some a) : ∃ x y r, st = .long y :: .long x :: r ∧ K x y r = some a := by
  unfold q2 at h
  split at h
  · exact ⟨_, _, _, rfl, h⟩
  · cases h
theorem q1_ok {st : List Value} {K : Int64 → List Value → Act} {a : _} (h : q1 st K = some a) : ∃ x r, st = .long x :: r ∧ K x r = some a := by
  unfold q1 at h
  split at h
  · exact ⟨_, _, rfl, h⟩
  · cases h
theorem go_ok {pc : Nat} {off : Int} {K : Nat → Act} {a : _} (h : go pc off K = some a) : ∃ t : Nat, (pc : Int) + off = (t : Int) ∧ K t = some a := by
  unfold go at h
  split at h
  · rename_i q
    exact ⟨_, (Int.toNat_of_nonneg q).symm, h⟩
  · cases h
theorem if_ok {P : Prop} [Decidable P] {a b : Act} {x : _} (h : (if P then a else b) = some x) : (P ∧ a = some x) ∨ (¬ P ∧ b = some x) := by
  by_cases q : P
  · rw [if_pos q] at h; exact Or.inl ⟨q, h⟩
  · rw [if_neg q] at h; exact Or.inr ⟨q, h⟩
theorem if_none {P : Prop} [Decidable P] {a : Act} {x : _} (h : (if P then a else none) = some x) : P ∧ a = some x := by
  rcases if_ok h with h | h
  · exact h
  · cases h.2
theorem none_if {P : Prop} [Decidable P] {a : Act} {x : _} (h : (if P then none else a) = some x) : ¬ P ∧ a = some x := by
  rcases if_ok h with h | h
  · cases h.2
  · exact h
theorem vx_in {i : Int32} {n : Nat} (h : 0 ≤ i.toInt ∧ i.toInt < n) : ¬ (i < 0 ∨ n ≤ i.toNatClampNeg) := vp_in_iff.mpr h
theorem jn_i {t n : Nat} {f : Nat → Int32} : (.inl (t, n, f) : AC) ≠ jnk := fun h => by cases h
theorem jn_q {n : Nat} {f : Nat → Option Nat} : (.inr (.inl (n, f)) : AC) ≠ jnk := fun h => by cases h
theorem jn_o {c : Nat} {fs : List Value} (hc : c ≠ 999) : (.inr (.inr (c, fs)) : AC) ≠ jnk := fun h => by
  have h := Sum.inr.inj (Sum.inr.inj h)
  exact hc (congrArg Prod.fst h)
theorem stk_cv {G : Gp} (ho : ovOK G) (st : List Value) : stk (st.map (cv G)) = stk st := by
  unfold stk
  rw [List.map_map]
  congr 1
  refine List.map_congr_left fun v _ => ?_
  exact cv_cat ho v
theorem cal_ok {callee : Nat} {as : List Value} {pc : Nat} {ls r : List Value} {h : Hp} {x : _} (e : cal callee as pc ls r h = some x) : ((wrd as).length ≤ (mR callee).2.2.2.1 ∧ stk r ≤ 8) ∧ x = .inr (.inl (callee, as, pc + 3, ls, r, h)) := by
  unfold cal at e
  obtain ⟨h1, e⟩ := if_none e
  exact ⟨h1, (Option.some.inj e).symm⟩
theorem inv_n (d kind callee n pc : Nat) (ls st : List Value) (h : Hp) (x : Nat × List Value × List Value × Hp) : ¬ inv d kind callee n pc ls st h = some (.inl x) := by
  intro e
  unfold inv at e
  obtain ⟨-, e⟩ := none_if e
  split at e
  · cases (cal_ok e).2
  · cases (cal_ok e).2
  · split at e
    · split at e
      · obtain ⟨-, e⟩ := if_none e
        cases (cal_ok e).2
      · cases e
    · cases e
  · split at e
    · cases (cal_ok e).2
    · cases e
  · split at e
    · cases (cal_ok e).2
    · cases e
  · cases e
theorem i32_nn {x : Int32} (h : 0 ≤ x.toInt) : ¬ x < 0 := fun z => by
  have := Int32.lt_iff_toInt_lt.mp z
  simp at this
  omega
theorem i32_tn {x : Int32} (h : 0 ≤ x.toInt) : (x.toNatClampNeg : Int) = x.toInt := by
  show ((x.toInt.toNat : Nat) : Int) = x.toInt
  omega
section CP
variable {p : Program} {l : Launch} {e : Env} {R : Room} {s : State} {m : MethodId} {args : Array Value} {below : List Frame} {meth : Method} {c : Code} {H : Heap} {locs : List Loc} {cells slots : Nat} {Q : State → Prop} {pc : Nat} {ls : Array Slot} {rest : List Value}
theorem ri_copy {cc : ByteArray} (hexec : p.tables.exec = Jvm.exec) (hb : c.code = cc) (hml : c.maxLocals = ls.size) {own : String} {index : Nat} (hown : s.vm.findClass own = some m.cls) (hlink : (Cond.methodLink own index arraycopyName).before args s = true) (hnat : (Cond.native arraycopyName).before args s = true) (hstat : (Cond.static arraycopyName).before args s = true) (hini : (Cond.initialized "java/lang/System").before args s = true)
    {a a0 : Nat} {c0 c1 : ClassId} {n0 n1 : Nat} {f g : Nat → Int32} (hc0 : H[a0]? = some (arrV c0 n0 (fun j => .int (f j)))) (hc1 : H[a]? = some (arrV c1 n1 (fun j => .int (g j)))) (ht0 : ArrOfT s c0 .int) (ht1 : ArrOfT s c1 .int)
    {sp dp n : Int32} (h1 : ¬ sp < 0) (h2 : ¬ dp < 0) (h3 : ¬ n < 0) (h4 : sp.toNatClampNeg + n.toNatClampNeg ≤ n0) (h5 : dp.toNatClampNeg + n.toNatClampNeg ≤ n1)
    (hframes : 1 ≤ R.frames) (hlocals : (rest.map fun v => v.category).sum + (nativeFrameWords "java/lang/System" "arraycopy" 5 + 11) ≤ R.locals) (hdg : decode cc pc = .ok (.invokestatic index, 3))
    (kk : ∀ (H1 : Heap) (locs1 : List Loc), H1[a]? = some (arrV c1 n1 (fun j => .int (va_cpy f g sp.toNatClampNeg dp.toNatClampNeg n.toNatClampNeg j))) → H1.size = H.size → (∀ q, q ≠ a → H1[q]? = H[q]?) → (∀ q ∈ locs1, q ∈ locs ∨ q.base = a) → W p l e R s m args below meth c H1 locs1 cells slots Q (F0 m (pc + 3) ls rest)) : W p l e R s m args below meth c H locs cells slots Q (F0 m pc ls (.int n :: .int dp :: .ref a :: .int sp :: .ref a0 :: rest)) := by
  have nn : ∀ z : Int32, ¬ z < 0 → z.toInt = (z.toNatClampNeg : Int) := by
    intro z hz
    have hz0 : (0 : Int) ≤ z.toInt := by
      have := Int32.not_lt.mp hz
      simpa using Int32.le_iff_toInt_le.mp this
    show z.toInt = ((z.toInt.toNat : Nat) : Int)
    omega
  intro T hT X
  obtain ⟨-, k0, hk0, cm0, hkk0⟩ := ht0 n0 (fun j => .int (f j))
  obtain ⟨-, k1, hk1, cm1, hkk1⟩ := ht1 n1 (fun j => .int (g j))
  obtain ⟨vm', X', step⟩ := X.arraycopy hexec hown hlink hnat hstat hini (src := a0) (dst := a) (cs := arrV c0 n0 (fun j => .int (f j))) (cd := arrV c1 n1 (fun j => .int (g j))) (srcPos := sp) (destPos := dp) (n := n) (by rw [hT]; exact hc0) (by rw [hT]; exact hc1)
    (fun _ h => by cases h) (fun _ h => by cases h) (fun h => by cases h) (fun h => by cases h) hk0 hk1 hkk0 hkk1 (by simp [refKind]) h1 h2 h3
    (by rw [nn sp h1, nn n h3]; show ¬ _ > ((arrV c0 n0 (fun j => .int (f j))).slots.size : Int); rw [arrV_size]; omega)
    (by rw [nn dp h2, nn n h3]; show ¬ _ > ((arrV c1 n1 (fun j => .int (g j))).slots.size : Int); rw [arrV_size]; omega)
    (fun vm₁ _ i hi => by
      have e : (arrV c0 n0 (fun j => .int (f j))).slots.getD (sp.toNatClampNeg + i) .null = .int (f (sp.toNatClampNeg + i)) := by
        rw [Array.getD_eq_getD_getElem?, arrV_read _ _ (by omega)]
        rfl
      refine ⟨?_, ?_⟩
      · rw [e]; rfl
      · rw [e]
        exact trivial)
    (g := F0 m pc ls (.int n :: .int dp :: .ref a :: .int sp :: .ref a0 :: rest)) rfl (by rw [hml]) (rest := rest) rfl (by rw [hb]; exact hdg) hframes (by show 2 * 0 + _ + _ ≤ _; omega)
  have e1 : copied (arrV c0 n0 (fun j => .int (f j))) (arrV c1 n1 (fun j => .int (g j))) sp dp n = arrV c1 n1 (fun j => .int (va_cpy f g sp.toNatClampNeg dp.toNatClampNeg n.toNatClampNeg j)) := va_copied (fun z => .int z) c0 c1 f g h4
  rw [e1] at X' step
  have hl : a < H.size := (Array.getElem?_eq_some_iff.mp hc1).1
  generalize hCC : arrV c1 n1 (fun j => Value.int (va_cpy f g sp.toNatClampNeg dp.toNatClampNeg n.toNatClampNeg j)) = CC at X' step kk
  have hheap : ((T.setVm vm').setCell a CC).heap = H.setIfInBounds a CC := by rw [← hT]; rfl
  have oq : ∀ q : Nat, q ≠ a → (H.setIfInBounds a CC)[q]? = H[q]? := fun q hq => by simp [Array.getElem?_setIfInBounds, Ne.symm hq]
  obtain ⟨t, a1, b1⟩ := kk _ _ (show (H.setIfInBounds a _)[a]? = some _ by simp [Array.getElem?_setIfInBounds, hl]) (by simp) oq (fun q hq => by
      rcases List.mem_append.mp hq with h | h
      · exact Or.inl h
      · obtain ⟨z, -, hz⟩ := List.mem_map.mp h
        exact Or.inr (by rw [← hz])) _ hheap X'
  exact ⟨t, step t a1, b1⟩
end CP
