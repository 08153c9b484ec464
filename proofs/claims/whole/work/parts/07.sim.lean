/-! the reflected machine's steps are the machine's: all but calls -/
def lenS : List Nat := [7, 5, 5, 4, 4, 8]
def bytS : List (List Int32) := [[117, 112, 108, 97, 110, 100, 115], [103, 117, 101, 115, 116], [104, 111, 117, 115, 101], [99, 97, 108, 108], [104, 111, 109, 101], [101, 118, 101, 110, 105, 110, 103, 115]]
def stN (i : Nat) : String := (["uplands", "guest", "house", "call", "home", "evenings"] : List String).getD i ""
def KK (G : Gp) (U : State) : Prop := va_K (gD G) vwCl [] U ∧ (∀ e ∈ nsT, va_Nw (.methodLinkNest (oN e.1) e.2.1 (mR e.2.2.1).2.1 "SieveGuests") U) ∧ va_AO RX6 U ∧ ∀ e ∈ stT, vk_R (oN e.1) e.2.1 (stN e.2.2) (G.2.2.1 e.2.2) U
def EX (G : Gp) (U : State) (H : Heap) : Prop := vk_S 6 lenS bytS G.2.2.1 G.2.2.2.1 (gA G) U H ∧ va_Z "java/lang/String" "COMPACT_STRINGS" "Z" (.int 1) (gA G) U H ∧ va_Z "jdk/internal/util/Preconditions" "SIOOBE_FORMATTER" "Ljava/util/function/BiFunction;" G.2.2.2.2.1 (gA G) U H
theorem KK.warm {G : Gp} {s U : State} (hW : s.WarmedH U.vm) (h : KK G s) : KK G U := ⟨va_K.moved hW.alike h.1, fun e he => va_Nw.warmM hW (h.2.1 e he), va_AO.moved hW.alike h.2.2.1, fun e he => vk_R.warm hW (h.2.2.2 e he)⟩
theorem KK.same {G : Gp} {s U : State} (hv : U.vm = s.vm) (h : KK G s) : KK G U := ⟨va_K.moved (by rw [hv]; exact Vm.Alike.refl _) h.1, fun e he => va_Nw.same rfl hv.symm (h.2.1 e he), va_AO.moved (by rw [hv]; exact Vm.Alike.refl _) h.2.2.1, fun e he => vk_R.same hv (h.2.2.2 e he)⟩
theorem EX.moved {G : Gp} {s U : State} {H : Heap} (hv : s.vm.Alike U.vm) (h : EX G s H) : EX G U H := ⟨vk_S.moved hv h.1, va_Z.moved hv h.2.1, va_Z.moved hv h.2.2⟩
theorem EX.kept {G : Gp} {U : State} {H H1 : Heap} (h : EX G U H) (hq : ∀ a : Nat, a < H.size → ¬ gA G a → H1[a]? = H[a]?) : EX G U H1 := ⟨vk_S.kept h.1 hq, va_Z.kept h.2.1 hq, va_Z.kept h.2.2 hq⟩
/-- what holds where a method of ours is walked -/
def Cx (G : Gp) (p : Program) (R : Room) (s : State) (m : MethodId) (args : Array Value) (meth : Method) (c : Code) (mi d : Nat) : Prop :=
  p.tables.exec = Jvm.exec ∧ c.code = (mR mi).2.2.1 ∧ c.maxLocals = (mR mi).2.2.2.1 ∧ s.vm.findClass (oN (mR mi).1) = some m.cls ∧ (∀ w ∈ tblG, w.before args s = true) ∧ KK G s ∧ EX G s s.heap ∧ ((mR mi).2.1.name = "<init>" → meth.name = "<init>") ∧ d ≤ R.frames ∧ 64 * d ≤ R.locals ∧ gOK G ∧ ovOK G
/-- a state on the way -/
def Vx (G : Gp) (s : State) (R : Room) (n0 s0 nL : Nat) (h : Hp) (ls : List Value) (H : Heap) (locs : List Loc) (cells slots : Nat) (arr : Array Slot) : Prop :=
  cells + n0 = h.1 ∧ slots + s0 = h.2.1 ∧ LR G nL ls arr ∧ Wd G s h H ∧ va_S (gA G) s.heap H locs
theorem p2_ok {st : List Value} {K : Int32 → Int32 → List Value → Act} {a : _} (h : p2 st K = some a) : ∃ x y r, st = .int y :: .int x :: r ∧ K x y r = some a := by
  unfold p2 at h
  split at h
  · exact ⟨_, _, _, rfl, h⟩
  · cases h
theorem p1_ok {st : List Value} {K : Int32 → List Value → Act} {a : _} (h : p1 st K = some a) : ∃ x r, st = .int x :: r ∧ K x r = some a := by
  unfold p1 at h
  split at h
  · exact ⟨_, _, rfl, h⟩
  · cases h
theorem q2_ok {st : List Value} {K : Int64 → Int64 → List Value → Act} {a : _} (h : q2 st K = some a) : ∃ x y r, st = .long y :: .long x :: r ∧ K x y r = some a := by
  unfold q2 at h
  split at h
  · exact ⟨_, _, _, rfl, h⟩
  · cases h
theorem q1_ok {st : List Value} {K : Int64 → List Value → Act} {a : _} (h : q1 st K = some a) : ∃ x r, st = .long x :: r ∧ K x r = some a := by
  unfold q1 at h
  split at h
  · exact ⟨_, _, rfl, h⟩
  · cases h
theorem go_ok {pc : Nat} {off : Int} {K : Nat → Act} {a : _} (h : go pc off K = some a) : ∃ t : Nat, (pc : Int) + off = (t : Int) ∧ K t = some a := by
  unfold go at h
  split at h
  · rename_i q
    exact ⟨_, (Int.toNat_of_nonneg q).symm, h⟩
  · cases h
theorem if_ok {P : Prop} [Decidable P] {a b : Act} {x : _} (h : (if P then a else b) = some x) : (P ∧ a = some x) ∨ (¬ P ∧ b = some x) := by
  by_cases q : P
  · rw [if_pos q] at h; exact Or.inl ⟨q, h⟩
  · rw [if_neg q] at h; exact Or.inr ⟨q, h⟩
theorem if_none {P : Prop} [Decidable P] {a : Act} {x : _} (h : (if P then a else none) = some x) : P ∧ a = some x := by
  rcases if_ok h with h | h
  · exact h
  · cases h.2
theorem none_if {P : Prop} [Decidable P] {a : Act} {x : _} (h : (if P then none else a) = some x) : ¬ P ∧ a = some x := by
  rcases if_ok h with h | h
  · cases h.2
  · exact h
theorem vx_in {i : Int32} {n : Nat} (h : 0 ≤ i.toInt ∧ i.toInt < n) : ¬ (i < 0 ∨ n ≤ i.toNatClampNeg) := vp_in_iff.mpr h
theorem jn_i {t n : Nat} {f : Nat → Int32} : (.inl (t, n, f) : AC) ≠ jnk := fun h => by cases h
theorem jn_q {n : Nat} {f : Nat → Option Nat} : (.inr (.inl (n, f)) : AC) ≠ jnk := fun h => by cases h
theorem jn_o {c : Nat} {fs : List Value} (hc : c ≠ 999) : (.inr (.inr (c, fs)) : AC) ≠ jnk := fun h => by
  have h := Sum.inr.inj (Sum.inr.inj h)
  exact hc (congrArg Prod.fst h)
theorem stk_cv {G : Gp} (ho : ovOK G) (st : List Value) : stk (st.map (cv G)) = stk st := by
  unfold stk
  rw [List.map_map]
  congr 1
  refine List.map_congr_left fun v _ => ?_
  exact cv_cat ho v
theorem inv_n (d kind callee n pc : Nat) (ls st : List Value) (h : Hp) (x : Nat × List Value × List Value × Hp) : ¬ inv d kind callee n pc ls st h = some (.inl x) := by
  intro e
  unfold inv at e
  simp only at e
  obtain ⟨-, e⟩ := none_if e
  split at e
  · obtain ⟨-, e⟩ := if_none e; cases e
  · obtain ⟨-, e⟩ := if_none e; cases e
  · split at e
    · split at e
      · obtain ⟨-, e⟩ := if_none e; cases e
      · cases e
    · cases e
  · split at e
    · obtain ⟨-, e⟩ := if_none e; cases e
    · cases e
  · split at e
    · obtain ⟨-, e⟩ := if_none e; cases e
    · cases e
  · cases e
theorem i32_nn {x : Int32} (h : 0 ≤ x.toInt) : ¬ x < 0 := fun z => by
  have := Int32.lt_iff_toInt_lt.mp z
  simp at this
  omega
theorem i32_tn {x : Int32} (h : 0 ≤ x.toInt) : (x.toNatClampNeg : Int) = x.toInt := by
  show ((x.toInt.toNat : Nat) : Int) = x.toInt
  omega
section CP
variable {p : Program} {l : Launch} {e : Env} {R : Room} {s : State} {m : MethodId} {args : Array Value} {below : List Frame} {meth : Method} {c : Code} {H : Heap} {locs : List Loc} {cells slots : Nat} {Q : State → Prop} {pc : Nat} {ls : Array Slot} {rest : List Value}
theorem ri_copy {cc : ByteArray} (hexec : p.tables.exec = Jvm.exec) (hb : c.code = cc) (hml : c.maxLocals = ls.size) {own : String} {index : Nat} (hown : s.vm.findClass own = some m.cls) (hlink : (Cond.methodLink own index arraycopyName).before args s = true) (hnat : (Cond.native arraycopyName).before args s = true) (hstat : (Cond.static arraycopyName).before args s = true) (hini : (Cond.initialized "java/lang/System").before args s = true)
    {a a0 : Nat} {c0 c1 : ClassId} {n0 n1 : Nat} {f g : Nat → Int32} (hc0 : H[a0]? = some (arrV c0 n0 (fun j => .int (f j)))) (hc1 : H[a]? = some (arrV c1 n1 (fun j => .int (g j)))) (ht0 : ArrOfT s c0 .int) (ht1 : ArrOfT s c1 .int)
    {sp dp n : Int32} (h1 : ¬ sp < 0) (h2 : ¬ dp < 0) (h3 : ¬ n < 0) (h4 : sp.toNatClampNeg + n.toNatClampNeg ≤ n0) (h5 : dp.toNatClampNeg + n.toNatClampNeg ≤ n1)
    (hframes : 1 ≤ R.frames) (hlocals : (rest.map fun v => v.category).sum + (nativeFrameWords "java/lang/System" "arraycopy" 5 + 11) ≤ R.locals) (hdg : decode cc pc = .ok (.invokestatic index, 3))
    (kk : ∀ (H1 : Heap) (locs1 : List Loc), H1[a]? = some (arrV c1 n1 (fun j => .int (va_cpy f g sp.toNatClampNeg dp.toNatClampNeg n.toNatClampNeg j))) → H1.size = H.size → (∀ q, q ≠ a → H1[q]? = H[q]?) → (∀ q ∈ locs1, q ∈ locs ∨ q.base = a) → W p l e R s m args below meth c H1 locs1 cells slots Q (F0 m (pc + 3) ls rest)) : W p l e R s m args below meth c H locs cells slots Q (F0 m pc ls (.int n :: .int dp :: .ref a :: .int sp :: .ref a0 :: rest)) := by
  have nn : ∀ z : Int32, ¬ z < 0 → z.toInt = (z.toNatClampNeg : Int) := by
    intro z hz
    have hz0 : (0 : Int) ≤ z.toInt := by
      have := Int32.not_lt.mp hz
      simpa using Int32.le_iff_toInt_le.mp this
    show z.toInt = ((z.toInt.toNat : Nat) : Int)
    omega
  intro T hT X
  obtain ⟨-, k0, hk0, cm0, hkk0⟩ := ht0 n0 (fun j => .int (f j))
  obtain ⟨-, k1, hk1, cm1, hkk1⟩ := ht1 n1 (fun j => .int (g j))
  obtain ⟨vm', X', step⟩ := X.arraycopy hexec hown hlink hnat hstat hini (src := a0) (dst := a) (cs := arrV c0 n0 (fun j => .int (f j))) (cd := arrV c1 n1 (fun j => .int (g j))) (srcPos := sp) (destPos := dp) (n := n) (by rw [hT]; exact hc0) (by rw [hT]; exact hc1)
    (fun _ h => by cases h) (fun _ h => by cases h) (fun h => by cases h) (fun h => by cases h) hk0 hk1 hkk0 hkk1 (by simp [refKind]) h1 h2 h3
    (by rw [nn sp h1, nn n h3]; show ¬ _ > ((arrV c0 n0 (fun j => .int (f j))).slots.size : Int); rw [arrV_size]; omega)
    (by rw [nn dp h2, nn n h3]; show ¬ _ > ((arrV c1 n1 (fun j => .int (g j))).slots.size : Int); rw [arrV_size]; omega)
    (fun vm₁ _ i hi => by
      have e : (arrV c0 n0 (fun j => .int (f j))).slots.getD (sp.toNatClampNeg + i) .null = .int (f (sp.toNatClampNeg + i)) := by
        rw [Array.getD_eq_getD_getElem?, arrV_read _ _ (by omega)]
        rfl
      refine ⟨?_, ?_⟩
      · rw [e]; rfl
      · rw [e]
        exact trivial)
    (g := F0 m pc ls (.int n :: .int dp :: .ref a :: .int sp :: .ref a0 :: rest)) rfl (by rw [hml]) (rest := rest) rfl (by rw [hb]; exact hdg) hframes (by show 2 * 0 + _ + _ ≤ _; omega)
  have e1 : copied (arrV c0 n0 (fun j => .int (f j))) (arrV c1 n1 (fun j => .int (g j))) sp dp n = arrV c1 n1 (fun j => .int (va_cpy f g sp.toNatClampNeg dp.toNatClampNeg n.toNatClampNeg j)) := va_copied (fun z => .int z) c0 c1 f g h4
  rw [e1] at X' step
  have hl : a < H.size := (Array.getElem?_eq_some_iff.mp hc1).1
  generalize hCC : arrV c1 n1 (fun j => Value.int (va_cpy f g sp.toNatClampNeg dp.toNatClampNeg n.toNatClampNeg j)) = CC at X' step kk
  have hheap : ((T.setVm vm').setCell a CC).heap = H.setIfInBounds a CC := by rw [← hT]; rfl
  have oq : ∀ q : Nat, q ≠ a → (H.setIfInBounds a CC)[q]? = H[q]? := fun q hq => by simp [Array.getElem?_setIfInBounds, Ne.symm hq]
  obtain ⟨t, a1, b1⟩ := kk _ _ (show (H.setIfInBounds a _)[a]? = some _ by simp [Array.getElem?_setIfInBounds, hl]) (by simp) oq (fun q hq => by
      rcases List.mem_append.mp hq with h | h
      · exact Or.inl h
      · obtain ⟨z, -, hz⟩ := List.mem_map.mp h
        exact Or.inr (by rw [← hz])) _ hheap X'
  exact ⟨t, step t a1, b1⟩
end CP
section SN
variable {p : Program} {l : Launch} {e : Env} {R : Room} {s : State} {m : MethodId} {args : Array Value} {below : List Frame} {meth : Method} {c : Code} {G : Gp} {mi d n0 s0 : Nat} {Q : State → Prop}
set_option maxHeartbeats 8000000 in
set_option maxRecDepth 20000 in
theorem sim_n (C : Cx G p R s m args meth c mi d) {pc pc' : Nat} {ls ls' st st' : List Value} {h h1 : Hp} (hst : stp d mi pc ls st h = some (.inl (pc', ls', st', h1))) (hr1 : h1.1 ≤ R.cells + n0) (hr2 : h1.2.1 ≤ R.slots + s0)
    {H : Heap} {locs : List Loc} {cells slots : Nat} {arr : Array Slot} (V : Vx G s R n0 s0 (mR mi).2.2.2.1 h ls H locs cells slots arr)
    (kk : ∀ (H1 : Heap) (locs1 : List Loc) (cells1 slots1 : Nat) (arr1 : Array Slot), Vx G s R n0 s0 (mR mi).2.2.2.1 h1 ls' H1 locs1 cells1 slots1 arr1 → W p l e R s m args below meth c H1 locs1 cells1 slots1 Q (F0 m pc' arr1 (st'.map (cv G)))) :
    W p l e R s m args below meth c H locs cells slots Q (F0 m pc arr (st.map (cv G))) := by
  obtain ⟨hx, hb, hml, hown, hts, hKK, hEX, hini, hdf, hdl, hg, ho⟩ := C
  obtain ⟨hc, hs, hL, hW, hS⟩ := V
  unfold stp at hst
  cases hcod : cod mi pc with
  | none => rw [hcod] at hst; cases hst
  | some q =>
    obtain ⟨I, len⟩ := q
    rw [hcod] at hst
    have hd : decode (mR mi).2.2.1 pc = .ok (I, len) := by
      unfold cod at hcod
      split at hcod
      · rename_i x hx1
        rw [hx1, Option.some.inj hcod]
      · cases hcod
    clear hcod
    simp only at hst
    unfold stI at hst
    split at hst
    · -- .iconst n, 1
      rename_i n
      cases hst
      exact lv_iconst hx hb hd rfl (kk _ _ _ _ _ ⟨hc, hs, hL, hW, hS⟩)
    · -- .bipush n, 2
      rename_i n
      cases hst
      exact lv_bipush hx hb hd rfl (kk _ _ _ _ _ ⟨hc, hs, hL, hW, hS⟩)
    · -- .sipush n, 3
      rename_i n
      cases hst
      exact lv_sipush hx hb hd rfl (kk _ _ _ _ _ ⟨hc, hs, hL, hW, hS⟩)
    · -- .lconst n, 1
      rename_i n
      cases hst
      exact lv_lconst hx hb hd rfl (kk _ _ _ _ _ ⟨hc, hs, hL, hW, hS⟩)
    · -- .ldc k, 2
      rename_i k
      split at hst
      · rename_i v hv
        cases hst
        exact lv_ldc hx hb hown (hts _ (ic_ok hv)) hd (kk _ _ _ _ _ ⟨hc, hs, hL, hW, hS⟩)
      · rename_i i hn hv
        cases hst
        have h6 : i < 6 := by
          have h9 := sc_ok hv
          revert h9
          generalize (mR mi).1 = o
          intro h9
          simp only [stT, stT_0, List.mem_cons, Prod.mk.injEq, List.not_mem_nil, or_false] at h9
          omega
        have h8 := hKK.2.2.2 _ (sc_ok hv)
        refine va_ldcS (tx := stN i) (q := G.2.2.1 i) hx hb hown h8 hd ?_
        have e8 : cv G (.ref (1 + i)) = .ref (G.2.2.1 i) := by
          show Value.ref (gad G (1 + i)) = _
          simp [gad, show ¬ 13 ≤ 1 + i by omega, show 1 + i < 7 by omega]
        have h7 := kk _ _ _ _ _ ⟨hc, hs, hL, hW, hS⟩
        rw [List.map_cons, e8] at h7
        exact h7
      · cases hst
    · -- .ldc_w k, 3
      rename_i k
      split at hst
      · rename_i v hv
        cases hst
        exact lv_ldcw hx hb hown (hts _ (ic_ok hv)) hd (kk _ _ _ _ _ ⟨hc, hs, hL, hW, hS⟩)
      · cases hst
    · -- .ldc2_w k, 3
      rename_i k
      split at hst
      · rename_i v hv
        cases hst
        exact lv_ldc2 hx hb hown (hts _ (lc_ok hv)) hd (kk _ _ _ _ _ ⟨hc, hs, hL, hW, hS⟩)
      · cases hst
    · -- .iload k, 2
      rename_i k
      split at hst
      · rename_i x hv
        cases hst
        exact lv_iload hx hb hd (hL.get hv rfl) (kk _ _ _ _ _ ⟨hc, hs, hL, hW, hS⟩)
      · cases hst
    · -- .iload_n k, 1
      rename_i k
      split at hst
      · rename_i x hv
        cases hst
        exact lv_iload_n hx hb hd rfl (hL.get hv rfl) (kk _ _ _ _ _ ⟨hc, hs, hL, hW, hS⟩)
      · cases hst
    · -- .lload k, 2
      rename_i k
      split at hst
      · rename_i x hv
        cases hst
        exact lv_lload hx hb hd (hL.get hv rfl) (kk _ _ _ _ _ ⟨hc, hs, hL, hW, hS⟩)
      · cases hst
    · -- .lload_n k, 1
      rename_i k
      split at hst
      · rename_i x hv
        cases hst
        exact lv_lload_n hx hb hd rfl (hL.get hv rfl) (kk _ _ _ _ _ ⟨hc, hs, hL, hW, hS⟩)
      · cases hst
    · -- .aload k, 2
      rename_i k
      split at hst
      · rename_i x hv
        cases hst
        exact lv_aload hx hb hd (hL.get hv rfl) (kk _ _ _ _ _ ⟨hc, hs, hL, hW, hS⟩)
      · rename_i hv
        cases hst
        exact lv_aloadN hx hb hd (hL.get hv rfl) (kk _ _ _ _ _ ⟨hc, hs, hL, hW, hS⟩)
      · rename_i x hv
        cases hst
        have h7 := hL.get hv rfl
        have h8 := kk _ _ _ _ _ ⟨hc, hs, hL, hW, hS⟩
        have h9 : cv G (.retAddr x) = G.2.2.2.2.1 := rfl
        rw [h9] at h7
        rw [List.map_cons, h9] at h8
        rcases ho with ho | ⟨t, ho⟩
        · rw [ho] at h7 h8
          exact lv_aloadN hx hb hd h7 h8
        · rw [ho] at h7 h8
          exact lv_aload hx hb hd h7 h8
      · cases hst
    · -- .aload_n k, 1
      rename_i k
      split at hst
      · rename_i x hv
        cases hst
        exact lv_aload_n hx hb hd rfl (hL.get hv rfl) (kk _ _ _ _ _ ⟨hc, hs, hL, hW, hS⟩)
      · rename_i hv
        cases hst
        exact lv_aload_nN hx hb hd rfl (hL.get hv rfl) (kk _ _ _ _ _ ⟨hc, hs, hL, hW, hS⟩)
      · rename_i x hv
        cases hst
        have h7 := hL.get hv rfl
        have h8 := kk _ _ _ _ _ ⟨hc, hs, hL, hW, hS⟩
        have h9 : cv G (.retAddr x) = G.2.2.2.2.1 := rfl
        rw [h9] at h7
        rw [List.map_cons, h9] at h8
        rcases ho with ho | ⟨t, ho⟩
        · rw [ho] at h7 h8
          exact lv_aload_nN hx hb hd rfl h7 h8
        · rw [ho] at h7 h8
          exact lv_aload_n hx hb hd rfl h7 h8
      · cases hst
    · -- .istore k, 2
      rename_i k
      obtain ⟨x, r, rfl, hst⟩ := p1_ok hst
      obtain ⟨hk, hst⟩ := if_none hst
      cases hst
      exact lv_istore hx hb hd hL.1 (by rw [← hL.2]; exact hk) rfl (fun arr1 h7 => kk _ _ _ _ _ ⟨hc, hs, hL.st ho (v := .int x) h7, hW, hS⟩)
    · -- .lstore k, 2
      rename_i k
      obtain ⟨x, r, rfl, hst⟩ := q1_ok hst
      obtain ⟨hk, hst⟩ := if_none hst
      cases hst
      exact lv_lstore hx hb hd hL.1 (by rw [← hL.2]; exact hk) rfl (fun arr1 h7 => kk _ _ _ _ _ ⟨hc, hs, hL.st2 ho (v := .long x) h7, hW, hS⟩)
    · -- .astore k, 2
      rename_i k
      cases hsx : st with
      | nil => rw [hsx] at hst; cases hst
      | cons v0 r =>
      rw [hsx] at hst
      cases v0 <;> first | (cases hst; done) | skip
      rename_i x
      obtain ⟨hk, hst⟩ := if_none hst
      cases hst
      exact lv_astore hx hb hd hL.1 (by rw [← hL.2]; exact hk) rfl (fun arr1 h7 => kk _ _ _ _ _ ⟨hc, hs, hL.st ho (v := .ref x) h7, hW, hS⟩)
    · -- .istore_n k, 1
      rename_i k
      obtain ⟨x, r, rfl, hst⟩ := p1_ok hst
      obtain ⟨hk, hst⟩ := if_none hst
      cases hst
      exact lv_istore_n hx hb hd rfl hL.1 (by rw [← hL.2]; exact hk) rfl (fun arr1 h7 => kk _ _ _ _ _ ⟨hc, hs, hL.st ho (v := .int x) h7, hW, hS⟩)
    · -- .lstore_n k, 1
      rename_i k
      obtain ⟨x, r, rfl, hst⟩ := q1_ok hst
      obtain ⟨hk, hst⟩ := if_none hst
      cases hst
      exact lv_lstore_n hx hb hd rfl hL.1 (by rw [← hL.2]; exact hk) rfl (fun arr1 h7 => kk _ _ _ _ _ ⟨hc, hs, hL.st2 ho (v := .long x) h7, hW, hS⟩)
    · -- .astore_n k, 1
      rename_i k
      cases hsx : st with
      | nil => rw [hsx] at hst; cases hst
      | cons v0 r =>
      rw [hsx] at hst
      cases v0 <;> first | (cases hst; done) | skip
      rename_i x
      obtain ⟨hk, hst⟩ := if_none hst
      cases hst
      exact lv_astore_n hx hb hd rfl hL.1 (by rw [← hL.2]; exact hk) rfl (fun arr1 h7 => kk _ _ _ _ _ ⟨hc, hs, hL.st ho (v := .ref x) h7, hW, hS⟩)
    · -- .iinc k n, 3
      rename_i k n
      split at hst
      · rename_i x hv
        obtain ⟨hk, hst⟩ := if_none hst
        cases hst
        have h6 := lps_get (G := G) ls 0 k (.int x) hv rfl
        rw [Nat.zero_add] at h6
        obtain ⟨j, h6⟩ := List.getElem?_of_mem h6
        exact lv_iinc hx hb hd hL.1 h6 rfl (by rw [← hL.2]; exact hk) rfl (fun arr1 h7 => kk _ _ _ _ _ ⟨hc, hs, hL.st ho (v := .int (x + Int32.ofInt n)) h7, hW, hS⟩)
      · cases hst
    · -- .iadd, 1
      obtain ⟨x, y, r, rfl, hst⟩ := p2_ok hst
      cases hst
      exact lv_iadd hx hb hd (kk _ _ _ _ _ ⟨hc, hs, hL, hW, hS⟩)
    · -- .isub, 1
      obtain ⟨x, y, r, rfl, hst⟩ := p2_ok hst
      cases hst
      exact lv_isub hx hb hd (kk _ _ _ _ _ ⟨hc, hs, hL, hW, hS⟩)
    · -- .imul, 1
      obtain ⟨x, y, r, rfl, hst⟩ := p2_ok hst
      cases hst
      exact lv_imul hx hb hd (kk _ _ _ _ _ ⟨hc, hs, hL, hW, hS⟩)
    · -- .iand, 1
      obtain ⟨x, y, r, rfl, hst⟩ := p2_ok hst
      cases hst
      exact lv_iand hx hb hd (kk _ _ _ _ _ ⟨hc, hs, hL, hW, hS⟩)
    · -- .ior, 1
      obtain ⟨x, y, r, rfl, hst⟩ := p2_ok hst
      cases hst
      exact lv_ior hx hb hd (kk _ _ _ _ _ ⟨hc, hs, hL, hW, hS⟩)
    · -- .ixor, 1
      obtain ⟨x, y, r, rfl, hst⟩ := p2_ok hst
      cases hst
      exact lv_ixor hx hb hd (kk _ _ _ _ _ ⟨hc, hs, hL, hW, hS⟩)
    · -- .ishl, 1
      obtain ⟨x, y, r, rfl, hst⟩ := p2_ok hst
      cases hst
      exact lv_ishl hx hb hd (kk _ _ _ _ _ ⟨hc, hs, hL, hW, hS⟩)
    · -- .ishr, 1
      obtain ⟨x, y, r, rfl, hst⟩ := p2_ok hst
      cases hst
      exact lv_ishr hx hb hd (kk _ _ _ _ _ ⟨hc, hs, hL, hW, hS⟩)
    · -- .iushr, 1
      obtain ⟨x, y, r, rfl, hst⟩ := p2_ok hst
      cases hst
      exact lv_iushr hx hb hd rfl (kk _ _ _ _ _ ⟨hc, hs, hL, hW, hS⟩)
    · -- .idiv, 1
      obtain ⟨x, y, r, rfl, hst⟩ := p2_ok hst
      obtain ⟨hn, hst⟩ := none_if hst
      cases hst
      exact lv_idiv hx hb hd hn (kk _ _ _ _ _ ⟨hc, hs, hL, hW, hS⟩)
    · -- .irem, 1
      obtain ⟨x, y, r, rfl, hst⟩ := p2_ok hst
      obtain ⟨hn, hst⟩ := none_if hst
      cases hst
      exact lv_irem hx hb hd hn (kk _ _ _ _ _ ⟨hc, hs, hL, hW, hS⟩)
    · -- .ladd, 1
      obtain ⟨x, y, r, rfl, hst⟩ := q2_ok hst
      cases hst
      exact lv_ladd hx hb hd (kk _ _ _ _ _ ⟨hc, hs, hL, hW, hS⟩)
    · -- .lmul, 1
      obtain ⟨x, y, r, rfl, hst⟩ := q2_ok hst
      cases hst
      exact lv_lmul hx hb hd (kk _ _ _ _ _ ⟨hc, hs, hL, hW, hS⟩)
    · -- .ldiv, 1
      obtain ⟨x, y, r, rfl, hst⟩ := q2_ok hst
      obtain ⟨hn, hst⟩ := none_if hst
      cases hst
      exact lv_ldiv hx hb hd hn (kk _ _ _ _ _ ⟨hc, hs, hL, hW, hS⟩)
    · -- .lrem, 1
      obtain ⟨x, y, r, rfl, hst⟩ := q2_ok hst
      obtain ⟨hn, hst⟩ := none_if hst
      cases hst
      exact lv_lrem hx hb hd hn (kk _ _ _ _ _ ⟨hc, hs, hL, hW, hS⟩)
    · -- .lcmp, 1
      obtain ⟨x, y, r, rfl, hst⟩ := q2_ok hst
      cases hst
      exact W.lcmp hx hb hd (kk _ _ _ _ _ ⟨hc, hs, hL, hW, hS⟩)
    · -- .i2l, 1
      obtain ⟨x, r, rfl, hst⟩ := p1_ok hst
      cases hst
      exact lv_i2l hx hb hd rfl (kk _ _ _ _ _ ⟨hc, hs, hL, hW, hS⟩)
    · -- .i2c, 1
      obtain ⟨x, r, rfl, hst⟩ := p1_ok hst
      cases hst
      exact lv_i2c hx hb hd rfl (kk _ _ _ _ _ ⟨hc, hs, hL, hW, hS⟩)
    · -- .l2i, 1
      obtain ⟨x, r, rfl, hst⟩ := q1_ok hst
      cases hst
      exact lv_l2i hx hb hd rfl (kk _ _ _ _ _ ⟨hc, hs, hL, hW, hS⟩)
    · -- .dup, 1
      split at hst
      · rename_i v r
        obtain ⟨hv, hst⟩ := if_none hst
        cases hst
        exact lv_dup hx hb hd (by rw [cv_cat ho]; exact hv) (kk _ _ _ _ _ ⟨hc, hs, hL, hW, hS⟩)
      · cases hst
    · -- .pop, 1
      split at hst
      · rename_i v r
        obtain ⟨hv, hst⟩ := if_none hst
        cases hst
        exact lv_pop hx hb hd (by rw [cv_cat ho]; exact hv) (kk _ _ _ _ _ ⟨hc, hs, hL, hW, hS⟩)
      · cases hst
    · -- .dup2, 1
      split at hst
      · rename_i v w r
        obtain ⟨hv, hst⟩ := if_none hst
        cases hst
        exact lv_dup2_11 hx hb hd (by rw [cv_cat ho]; exact hv.1) (by rw [cv_cat ho]; exact hv.2) (kk _ _ _ _ _ ⟨hc, hs, hL, hW, hS⟩)
      · cases hst
    · -- .ifCond .eq off, 3
      rename_i off
      obtain ⟨x, r, rfl, hs2⟩ := p1_ok hst
      obtain ⟨t, ht, hst⟩ := go_ok hs2
      refine lv_if_eq (tgt := t) hx hb hd ht (fun q => ?_) (fun q => ?_)
      · rw [if_pos q] at hst
        cases hst
        exact kk _ _ _ _ _ ⟨hc, hs, hL, hW, hS⟩
      · rw [if_neg q] at hst
        cases hst
        exact kk _ _ _ _ _ ⟨hc, hs, hL, hW, hS⟩
    · -- .if_icmp .eq off, 3
      rename_i off
      obtain ⟨x, y, r, rfl, hs2⟩ := p2_ok hst
      obtain ⟨t, ht, hst⟩ := go_ok hs2
      refine lv_icmp_eq (tgt := t) hx hb hd ht (fun q => ?_) (fun q => ?_)
      · rw [if_pos q] at hst
        cases hst
        exact kk _ _ _ _ _ ⟨hc, hs, hL, hW, hS⟩
      · rw [if_neg q] at hst
        cases hst
        exact kk _ _ _ _ _ ⟨hc, hs, hL, hW, hS⟩
    · -- .ifCond .ne off, 3
      rename_i off
      obtain ⟨x, r, rfl, hs2⟩ := p1_ok hst
      obtain ⟨t, ht, hst⟩ := go_ok hs2
      refine lv_if_ne (tgt := t) hx hb hd ht (fun q => ?_) (fun q => ?_)
      · rw [if_pos q] at hst
        cases hst
        exact kk _ _ _ _ _ ⟨hc, hs, hL, hW, hS⟩
      · rw [if_neg (fun z => z q)] at hst
        cases hst
        exact kk _ _ _ _ _ ⟨hc, hs, hL, hW, hS⟩
    · -- .if_icmp .ne off, 3
      rename_i off
      obtain ⟨x, y, r, rfl, hs2⟩ := p2_ok hst
      obtain ⟨t, ht, hst⟩ := go_ok hs2
      refine lv_icmp_ne (tgt := t) hx hb hd ht (fun q => ?_) (fun q => ?_)
      · rw [if_pos q] at hst
        cases hst
        exact kk _ _ _ _ _ ⟨hc, hs, hL, hW, hS⟩
      · rw [if_neg (fun z => z q)] at hst
        cases hst
        exact kk _ _ _ _ _ ⟨hc, hs, hL, hW, hS⟩
    · -- .ifCond .lt off, 3
      rename_i off
      obtain ⟨x, r, rfl, hs2⟩ := p1_ok hst
      obtain ⟨t, ht, hst⟩ := go_ok hs2
      refine lv_if_lt (tgt := t) hx hb hd ht (fun q => ?_) (fun q => ?_)
      · rw [if_pos q] at hst
        cases hst
        exact kk _ _ _ _ _ ⟨hc, hs, hL, hW, hS⟩
      · rw [if_neg q] at hst
        cases hst
        exact kk _ _ _ _ _ ⟨hc, hs, hL, hW, hS⟩
    · -- .if_icmp .lt off, 3
      rename_i off
      obtain ⟨x, y, r, rfl, hs2⟩ := p2_ok hst
      obtain ⟨t, ht, hst⟩ := go_ok hs2
      refine lv_icmp_lt (tgt := t) hx hb hd ht (fun q => ?_) (fun q => ?_)
      · rw [if_pos q] at hst
        cases hst
        exact kk _ _ _ _ _ ⟨hc, hs, hL, hW, hS⟩
      · rw [if_neg q] at hst
        cases hst
        exact kk _ _ _ _ _ ⟨hc, hs, hL, hW, hS⟩
    · -- .ifCond .ge off, 3
      rename_i off
      obtain ⟨x, r, rfl, hs2⟩ := p1_ok hst
      obtain ⟨t, ht, hst⟩ := go_ok hs2
      refine lv_if_ge (tgt := t) hx hb hd ht (fun q => ?_) (fun q => ?_)
      · rw [if_pos q] at hst
        cases hst
        exact kk _ _ _ _ _ ⟨hc, hs, hL, hW, hS⟩
      · rw [if_neg q] at hst
        cases hst
        exact kk _ _ _ _ _ ⟨hc, hs, hL, hW, hS⟩
    · -- .if_icmp .ge off, 3
      rename_i off
      obtain ⟨x, y, r, rfl, hs2⟩ := p2_ok hst
      obtain ⟨t, ht, hst⟩ := go_ok hs2
      refine lv_icmp_ge (tgt := t) hx hb hd ht (fun q => ?_) (fun q => ?_)
      · rw [if_pos q] at hst
        cases hst
        exact kk _ _ _ _ _ ⟨hc, hs, hL, hW, hS⟩
      · rw [if_neg q] at hst
        cases hst
        exact kk _ _ _ _ _ ⟨hc, hs, hL, hW, hS⟩
    · -- .ifCond .gt off, 3
      rename_i off
      obtain ⟨x, r, rfl, hs2⟩ := p1_ok hst
      obtain ⟨t, ht, hst⟩ := go_ok hs2
      refine lv_if_gt (tgt := t) hx hb hd ht (fun q => ?_) (fun q => ?_)
      · rw [if_pos q] at hst
        cases hst
        exact kk _ _ _ _ _ ⟨hc, hs, hL, hW, hS⟩
      · rw [if_neg q] at hst
        cases hst
        exact kk _ _ _ _ _ ⟨hc, hs, hL, hW, hS⟩
    · -- .if_icmp .gt off, 3
      rename_i off
      obtain ⟨x, y, r, rfl, hs2⟩ := p2_ok hst
      obtain ⟨t, ht, hst⟩ := go_ok hs2
      refine lv_icmp_gt (tgt := t) hx hb hd ht (fun q => ?_) (fun q => ?_)
      · rw [if_pos q] at hst
        cases hst
        exact kk _ _ _ _ _ ⟨hc, hs, hL, hW, hS⟩
      · rw [if_neg q] at hst
        cases hst
        exact kk _ _ _ _ _ ⟨hc, hs, hL, hW, hS⟩
    · -- .ifCond .le off, 3
      rename_i off
      obtain ⟨x, r, rfl, hs2⟩ := p1_ok hst
      obtain ⟨t, ht, hst⟩ := go_ok hs2
      refine lv_if_le (tgt := t) hx hb hd ht (fun q => ?_) (fun q => ?_)
      · rw [if_pos q] at hst
        cases hst
        exact kk _ _ _ _ _ ⟨hc, hs, hL, hW, hS⟩
      · rw [if_neg q] at hst
        cases hst
        exact kk _ _ _ _ _ ⟨hc, hs, hL, hW, hS⟩
    · -- .if_icmp .le off, 3
      rename_i off
      obtain ⟨x, y, r, rfl, hs2⟩ := p2_ok hst
      obtain ⟨t, ht, hst⟩ := go_ok hs2
      refine lv_icmp_le (tgt := t) hx hb hd ht (fun q => ?_) (fun q => ?_)
      · rw [if_pos q] at hst
        cases hst
        exact kk _ _ _ _ _ ⟨hc, hs, hL, hW, hS⟩
      · rw [if_neg q] at hst
        cases hst
        exact kk _ _ _ _ _ ⟨hc, hs, hL, hW, hS⟩
    · -- .ifnull off, 3
      rename_i off
      split at hst
      · cases hst
        exact lv_ifnull hx hb hd (kk _ _ _ _ _ ⟨hc, hs, hL, hW, hS⟩)
      · obtain ⟨t, ht, hst⟩ := go_ok hst
        cases hst
        exact lv_ifnullN hx hb hd ht (kk _ _ _ _ _ ⟨hc, hs, hL, hW, hS⟩)
      · cases hst
    · -- .ifnonnull off, 3
      rename_i off
      split at hst
      · obtain ⟨t, ht, hst⟩ := go_ok hst
        cases hst
        exact lv_ifnonnull hx hb hd ht (kk _ _ _ _ _ ⟨hc, hs, hL, hW, hS⟩)
      · cases hst
        exact lv_ifnonnullN hx hb hd (kk _ _ _ _ _ ⟨hc, hs, hL, hW, hS⟩)
      · cases hst
    · -- .goto off, 3
      rename_i off
      obtain ⟨t, ht, hst⟩ := go_ok hst
      cases hst
      exact lv_goto hx hb hd ht (kk _ _ _ _ _ ⟨hc, hs, hL, hW, hS⟩)
    · -- .tableswitch dflt lo hi offs, _
      rename_i dflt lo hi offs
      obtain ⟨x, r, rfl, hst⟩ := p1_ok hst
      rcases if_ok hst with ⟨hq, hst⟩ | ⟨hq, hst⟩
      · obtain ⟨t, ht, hst⟩ := go_ok hst
        cases hst
        exact lv_tableOut hx hb hd hq ht (kk _ _ _ _ _ ⟨hc, hs, hL, hW, hS⟩)
      · split at hst
        · rename_i off hoff
          obtain ⟨t, ht, hst⟩ := go_ok hst
          cases hst
          exact lv_tableIn hx hb hd (fun z => hq (Or.inl z)) (fun z => hq (Or.inr z)) hoff ht (kk _ _ _ _ _ ⟨hc, hs, hL, hW, hS⟩)
        · cases hst
    · -- .lookupswitch dflt ps, _
      rename_i dflt ps
      obtain ⟨x, r, rfl, hst⟩ := p1_ok hst
      obtain ⟨hq, hst⟩ := if_none hst
      obtain ⟨t, ht, hst⟩ := go_ok hst
      cases hst
      exact lv_lookup hx hb hd hq rfl ht (kk _ _ _ _ _ ⟨hc, hs, hL, hW, hS⟩)
    · -- .getfield k, 3
      rename_i k
      cases hsx : st with
      | nil => rw [hsx] at hst; cases hst
      | cons v0 r =>
      rw [hsx] at hst
      cases v0 <;> first | (cases hst; done) | skip
      rename_i a
      simp only at hst
      split at hst
      · rename_i c0 j c1 fs hf ha
        obtain ⟨⟨rfl, hc8, hj⟩, hs2⟩ := if_none hst
        clear hst
        split at hs2
        · rename_i v hv
          cases hs2
          obtain ⟨hf1, -, -⟩ := fl_ok hf
          obtain ⟨-, hcell⟩ := hW.cell ha (jn_o (by omega))
          rcases hcell with ⟨-, hOB, h13, hlen⟩ | ⟨h100, -⟩
          · refine va_get (D := gD G) (cl := vwCl) (ci := c0) (tys := []) (ws := [(gad G a, .inr (c0, fs.map (cv G)))]) (v := cv G v) hx hb hts (clW_in hc8) hown hKK.1 (fun k9 q9 h9 => ?_) 0 rfl (cl_at c0 hc8) j hj (hts _ hf1) (fun _ h9 => h9) (by rw [List.getElem?_map, hv]; rfl) hd (kk _ _ _ _ _ ⟨hc, hs, hL, hW, hS⟩)
            cases k9 with
            | zero => cases h9; exact ⟨_, cl_at c0 hc8, hOB⟩
            | succ k9 => cases h9
          · omega
        · cases hs2
      · rename_i v w hf ha
        obtain ⟨-, hcell⟩ := hW.cell ha (jn_o (by omega))
        rcases hcell with ⟨h8, -⟩ | ⟨-, k1, hk1, rfl, hfs⟩
        · omega
        cases hfs
        have e0 : gad G (1 + k1) = G.2.2.1 k1 := by
          simp [gad, show ¬ 13 ≤ 1 + k1 by omega, show 1 + k1 < 7 by omega]
        have e1 : cv G (.ref (7 + k1)) = .ref (G.2.2.2.1 k1) := by
          show Value.ref (gad G (7 + k1)) = _
          simp [gad, show ¬ 13 ≤ 7 + k1 by omega, show ¬ 7 + k1 < 7 by omega]
        obtain ⟨-, hs1, hs2, -⟩ := hEX.1.1 k1 hk1
        show W p l e R s m args below meth c H locs cells slots Q (F0 m pc arr (.ref (gad G (1 + k1)) :: r.map (cv G)))
        rw [e0]
        rcases if_ok hst with ⟨⟨ho1, rfl⟩, hs2⟩ | ⟨-, hs2⟩
        · cases hs2
          have h8 := kk _ _ _ _ _ ⟨hc, hs, hL, hW, hS⟩
          rw [List.map_cons, e1] at h8
          exact vk_getf hx hb hs2 hS hown (hts _ (by rw [ho1]; exact fs_value)) (fun _ h9 => h9) hd h8
        · obtain ⟨⟨ho1, rfl⟩, hs3⟩ := if_none hs2
          cases hs3
          exact vk_getf hx hb hs1 hS hown (hts _ (by rw [ho1]; exact fs_coder)) (fun _ h9 => h9) hd (kk _ _ _ _ _ ⟨hc, hs, hL, hW, hS⟩)
      · cases hst
    · -- .putfield k, 3
      rename_i k
      cases hsx : st with
      | nil => rw [hsx] at hst; cases hst
      | cons v r0 =>
      cases r0 with
      | nil => rw [hsx] at hst; cases hst
      | cons v0 r =>
      rw [hsx] at hst
      cases v0 <;> first | (cases hst; done) | skip
      rename_i a
      simp only at hst
      split at hst
      · rename_i c0 j c1 fs hf ha
        obtain ⟨⟨rfl, hc8, hj, hjl, hv, hfi⟩, hs2⟩ := if_none hst
        cases hs2
        obtain ⟨hf1, -, -⟩ := fl_ok hf
        obtain ⟨hah, hcell⟩ := hW.cell ha (jn_o (by omega))
        rcases hcell with ⟨-, hOB, h13, hlen⟩ | ⟨h100, -⟩
        · obtain ⟨cell, q2, q3, q4, q5⟩ := hOB
          obtain ⟨hSl, hfc, kC, hkC, hkind⟩ := hKK.1.1 c0 _ (cl_at c0 hc8)
          obtain ⟨cf, kf, fi, f, hi, hsl⟩ := hSl j hj
          have hty := cl_ty c0 hc8 j hj
          obtain ⟨hn, hfit⟩ := okv_ok (G := G) hv
          have hap := va_apart (own := oN (mR mi).1) hts (clW_in hc8) (clTy c0) (cl_ty c0 hc8) (cl_nm c0 hc8) hKK.1 (cl_at c0 hc8)
          have hlays := u_lays hts (clW_in hc8) hj
          obtain ⟨hst1, -, -⟩ := u_facts hfc hkC hlays hi
          obtain ⟨hn2, hfs2⟩ := u_fits hfc hkC hkind hlays hi hty hn hfit
          have hfin : hasFlag f.accessFlags Acc.final = false ∨ (m.cls = cf ∧ meth.name = "<init>") := by
            have hlay := hts _ (clW_in hc8 _ (u_in_lay hj))
            unfold u_lay at hlay
            cases hfl : (clT c0 j).2.2.2 with
            | false =>
              rw [if_neg (by rw [hfl]; decide)] at hlay
              exact Or.inl (u_store hfc hkC hkind hlay hi hty hn hfit).1
            | true =>
              have h9 : ((mR mi).2.1.name == "<init>" && (clT c0 j).1 == oN (mR mi).1) = true := by
                have h8 := hfi
                unfold fin at h8
                rw [hfl] at h8
                exact h8
              simp only [Bool.and_eq_true, beq_iff_eq] at h9
              refine Or.inr ⟨?_, hini h9.1⟩
              rw [if_pos hfl] at hlay
              obtain ⟨_, _, c', _, _, _, -, -, hf', -, -, -, hown2, -⟩ := Cond.laysFinal_spec hlay
              have e1 : c' = cf := by have := hi.symm.trans hf'; simp at this; exact this.1.symm
              rw [h9.2] at hown2
              rw [← e1]; exact Option.some.inj (hown.symm.trans hown2)
          have hlt : f.slot < cell.slots.size := by
            have := q5 j hj
            rw [← hsl] at this
            exact (Array.getElem?_eq_some_iff.mp this).1
          refine W.putf hx hb hown (hts _ hf1) hi hst1 hfin q2 (by rw [q4]; exact fun h => by cases h) hlt hn2 (by rw [q3, q4]; exact hfs2) rfl rfl hd ?_
          have hlt2 : gad G a < H.size := (Array.getElem?_eq_some_iff.mp q2).1
          have e1 : (H.setIfInBounds (gad G a) (cell.setSlot f.slot (cv G v)))[gad G a]? = some (cell.setSlot f.slot (cv G v)) := by simp [Array.getElem?_setIfInBounds, hlt2]
          have oq : ∀ q : Nat, q ≠ gad G a → (H.setIfInBounds (gad G a) (cell.setSlot f.slot (cv G v)))[q]? = H[q]? := fun q hq => by simp [Array.getElem?_setIfInBounds, Ne.symm hq]
          refine kk _ _ _ _ _ ⟨hc, hs, hL, hW.set hg h13 hah (by simp) oq (Or.inl ⟨hc8, ?_, h13, by rw [List.length_set]; exact hlen⟩), hS.put (by simp) oq (gad_A h13)⟩
          rw [List.map_set]
          have hlm : j < (fs.map (cv G)).length := by rw [List.length_map]; exact hjl
          refine t_OB.to (V := updV (vp_V (fs.map (cv G))) j (cv G v)) ⟨_, e1, q3, q4, ?_⟩ (fun k9 _ => vp_updV_set hlm (cv G v) k9)
          rw [hsl]
          exact t_set q5 hap hj (cv G v)
        · omega
      · cases hst
    · -- .getstatic k, 3
      rename_i k
      rcases if_ok hst with ⟨⟨ho1, rfl⟩, hs2⟩ | ⟨-, hs2⟩
      · cases hs2
        exact va_gets hx hb hEX.2.1 hS hown (hts _ (by rw [ho1]; exact fs_compact)) (fun _ h9 => h9) hd (kk _ _ _ _ _ ⟨hc, hs, hL, hW, hS⟩)
      · obtain ⟨⟨ho1, rfl⟩, hs3⟩ := if_none hs2
        cases hs3
        exact va_gets hx hb hEX.2.2 hS hown (hts _ (by rw [ho1]; exact fs_sio)) (fun _ h9 => h9) hd (kk _ _ _ _ _ ⟨hc, hs, hL, hW, hS⟩)
    · -- .iaload, 1
      cases hsx : st with
      | nil => rw [hsx] at hst; cases hst
      | cons v0 r0 =>
      cases r0 with
      | nil => rw [hsx] at hst; cases v0 <;> cases hst
      | cons v1 r =>
      rw [hsx] at hst
      cases v0 <;> first | (cases hst; done) | skip
      rename_i i
      cases v1 <;> first | (cases hst; done) | skip
      rename_i a
      simp only at hst
      split at hst
      · rename_i n f ha
        obtain ⟨hi, hst⟩ := if_none hst
        cases hst
        obtain ⟨cell, g1, g2, g3, g4, g5⟩ := (hW.cell ha jn_i).2.arr
        have hin : ¬ (i < 0 ∨ cell.slots.size ≤ i.toNatClampNeg) := by rw [g4]; exact vx_in hi
        exact W.iald hx hb g1 g2 g3 hin (g5 _ (by rw [← g4]; exact Nat.not_le.mp fun z => hin (Or.inr z))) rfl rfl hd (kk _ _ _ _ _ ⟨hc, hs, hL, hW, hS⟩)
      · rename_i n f ha
        obtain ⟨hi, hst⟩ := if_none hst
        cases hst
        obtain ⟨cell, g1, g2, g3, g4, g5⟩ := (hW.cell ha jn_i).2.arr
        have hin : ¬ (i < 0 ∨ cell.slots.size ≤ i.toNatClampNeg) := by rw [g4]; exact vx_in hi
        exact W.iald hx hb g1 g2 g3 hin (g5 _ (by rw [← g4]; exact Nat.not_le.mp fun z => hin (Or.inr z))) rfl rfl hd (kk _ _ _ _ _ ⟨hc, hs, hL, hW, hS⟩)
      · cases hst
    · -- .baload, 1
      cases hsx : st with
      | nil => rw [hsx] at hst; cases hst
      | cons v0 r0 =>
      cases r0 with
      | nil => rw [hsx] at hst; cases v0 <;> cases hst
      | cons v1 r =>
      rw [hsx] at hst
      cases v0 <;> first | (cases hst; done) | skip
      rename_i i
      cases v1 <;> first | (cases hst; done) | skip
      rename_i a
      simp only at hst
      split at hst
      · rename_i n f ha
        obtain ⟨hi, hst⟩ := if_none hst
        cases hst
        obtain ⟨cell, g1, g2, g3, g4, g5⟩ := (hW.cell ha jn_i).2.arr
        have hin : ¬ (i < 0 ∨ cell.slots.size ≤ i.toNatClampNeg) := by rw [g4]; exact vx_in hi
        exact W.zald hx hb g1 g2 g3 hin (g5 _ (by rw [← g4]; exact Nat.not_le.mp fun z => hin (Or.inr z))) rfl rfl hd (kk _ _ _ _ _ ⟨hc, hs, hL, hW, hS⟩)
      · rename_i n f ha
        obtain ⟨hi, hst⟩ := if_none hst
        cases hst
        obtain ⟨cell, g1, g2, g3, g4, g5⟩ := (hW.cell ha jn_i).2.arr
        have hin : ¬ (i < 0 ∨ cell.slots.size ≤ i.toNatClampNeg) := by rw [g4]; exact vx_in hi
        exact W.bald hx hb g1 g2 g3 hin (g5 _ (by rw [← g4]; exact Nat.not_le.mp fun z => hin (Or.inr z))) rfl rfl hd (kk _ _ _ _ _ ⟨hc, hs, hL, hW, hS⟩)
      · cases hst
    · -- .aaload, 1
      cases hsx : st with
      | nil => rw [hsx] at hst; cases hst
      | cons v0 r0 =>
      cases r0 with
      | nil => rw [hsx] at hst; cases v0 <;> cases hst
      | cons v1 r =>
      rw [hsx] at hst
      cases v0 <;> first | (cases hst; done) | skip
      rename_i i
      cases v1 <;> first | (cases hst; done) | skip
      rename_i a
      simp only at hst
      split at hst
      · rename_i n f ha
        obtain ⟨hi, hst⟩ := if_none hst
        cases hst
        obtain ⟨cA, kA, comp, g1, g2, -⟩ := (hW.cell ha jn_q).2
        have hin : ¬ (i < 0 ∨ n ≤ i.toNatClampNeg) := vx_in hi
        have hlt : i.toNatClampNeg < n := Nat.not_le.mp fun z => hin (Or.inr z)
        exact W.aald (v := cv G (va_rf (f i.toNatClampNeg))) (ty := .object RX6) hx hb g1 (g2 n _) rfl (fun q => by cases q) (by rw [arrV_size]; exact hin) (by rw [arrV_read _ _ hlt]) rfl rfl hd (kk _ _ _ _ _ ⟨hc, hs, hL, hW, hS⟩)
      · cases hst
    · -- .iastore, 1
      split at hst
      · rename_i x i a r
        split at hst
        · rename_i n f ha
          obtain ⟨hi, hst⟩ := if_none hst
          cases hst
          obtain ⟨hah, hcell⟩ := hW.cell ha jn_i
          obtain ⟨h13, cA, g1, g2⟩ := hcell.own (by decide)
          have hin : ¬ (i < 0 ∨ n ≤ i.toNatClampNeg) := vx_in hi
          refine W.iast hx hb g1 (g2 n _) (fun q => by cases q) (by rw [arrV_size]; exact hin) rfl rfl hd fun H1 e1 z oq => ?_
          refine kk _ _ _ _ _ ⟨hc, hs, hL, hW.set hg h13 hah z oq ⟨hcell.1, Or.inl ⟨by decide, h13, cA, ?_, g2⟩⟩, hS.put z oq (gad_A h13)⟩
          rw [e1, arrV_store]
          congr 2
          funext q
          by_cases hq : q = i.toNatClampNeg
          · subst hq
            simp [updV, upd]
          · simp [updV, upd, hq]
        · cases hst
      · cases hst
    · -- .bastore, 1
      split at hst
      · rename_i x i a r
        split at hst
        · rename_i n f ha
          obtain ⟨⟨hi, hx01⟩, hst⟩ := if_none hst
          cases hst
          obtain ⟨hah, hcell⟩ := hW.cell ha jn_i
          obtain ⟨h13, cA, g1, g2⟩ := hcell.own (by decide)
          have hin : ¬ (i < 0 ∨ n ≤ i.toNatClampNeg) := vx_in hi
          refine W.zast hx hb g1 (g2 n _) (fun q => by cases q) (by rw [arrV_size]; exact hin) rfl rfl hd fun H1 e1 z oq => ?_
          refine kk _ _ _ _ _ ⟨hc, hs, hL, hW.set hg h13 hah z oq ⟨hcell.1, Or.inl ⟨by decide, h13, cA, ?_, g2⟩⟩, hS.put z oq (gad_A h13)⟩
          rw [e1, arrV_store]
          congr 2
          funext q
          by_cases hq : q = i.toNatClampNeg
          · subst hq
            simp [updV, upd]
            rcases hx01 with rfl | rfl <;> rfl
          · simp [updV, upd, hq]
        · cases hst
      · cases hst
    · -- .aastore, 1
      split at hst
      · rename_i q i a r
        split at hst
        · rename_i n f fs ha hq
          obtain ⟨hi, hst⟩ := if_none hst
          cases hst
          obtain ⟨hah, cA, kA, comp, g1, g2, g3, g4, g5, h13, hn⟩ := hW.cell ha jn_q
          obtain ⟨-, hcq⟩ := hW.cell hq (jn_o (by omega))
          rcases hcq with ⟨-, ⟨cellV, v1, v2, v3, -⟩, -⟩ | ⟨h100, -⟩
          · have hcls := (hKK.1.1 5 _ (cl_at 5 (by omega))).2
            have hcomp : comp = (gD G).1 5 := Option.some.inj (g5.symm.trans hcls.1)
            subst hcomp
            obtain ⟨kC, hkC, -⟩ := hcls.2
            have hin : ¬ (i < 0 ∨ n ≤ i.toNatClampNeg) := vx_in hi
            refine W.aast hx hb g1 (fun q h => by cases h) (fun h => by cases h) g3 g4 rfl hkC ⟨fun z => hin (Or.inl z), by rw [arrV_size]; exact Nat.not_le.mp fun z => hin (Or.inr z)⟩ v1 (fun q h => by rw [v3] at h; cases h) (by rw [v2]; exact hkC) (by rw [v2]; exact va_assign hcls) rfl rfl hd fun H1 e1 z oq => ?_
            refine kk _ _ _ _ _ ⟨hc, hs, hL, hW.set hg h13 hah z oq ⟨cA, kA, _, ?_, g2, g3, g4, g5, h13, hn⟩, hS.put z oq (gad_A h13)⟩
            rw [e1, arrV_store]
            congr 2
            funext j
            by_cases hj : j = i.toNatClampNeg
            · subst hj
              simp [updV, va_up, va_rf, cv]
            · simp [updV, va_up, hj]
          · omega
        · cases hst
      · cases hst
    · -- .arraylength, 1
      split at hst
      · rename_i a r
        split at hst
        · rename_i t n f ha
          cases hst
          obtain ⟨cell, g1, g2, g3, g4, g5⟩ := (hW.cell ha jn_i).2.arr
          exact W.alen (n := Int32.ofNat n) hx hb g1 g2 (by rw [g4]) rfl rfl hd (kk _ _ _ _ _ ⟨hc, hs, hL, hW, hS⟩)
        · rename_i n f ha
          cases hst
          obtain ⟨cA, kA, comp, g1, g2, -⟩ := (hW.cell ha jn_q).2
          exact W.alen (n := Int32.ofNat n) hx hb g1 (g2 n _) (by rw [arrV_size]) rfl rfl hd (kk _ _ _ _ _ ⟨hc, hs, hL, hW, hS⟩)
        · cases hst
      · cases hst
    · -- .new k, 3
      rename_i k
      split at hst
      · rename_i c0 n hn
        obtain ⟨⟨hc8, rfl⟩, hs2⟩ := if_none hst
        cases hs2
        obtain ⟨hn1, hn2, hn3⟩ := nw_ok hn
        have hKn := hKK.1.1 c0 _ (cl_at c0 hc8)
        have r1 : h.1 + 1 ≤ R.cells + n0 := hr1
        have r2 : h.2.1 + clN c0 ≤ R.slots + s0 := hr2
        refine W.newcK hx hb hown (hts _ hn1) (hts _ hn2) (hts _ hn3) rfl hd (by omega) (by omega) hKn.2.1 rfl fun H1 kC hkC e1 z1 o1 => ?_
        have h7 := kk H1 locs (cells + 1) (slots + clN c0) arr ⟨by show cells + 1 + n0 = h.1 + 1; omega, by show slots + clN c0 + s0 = h.2.1 + clN c0; omega, hL, hW.new hg z1 o1 (Or.inl ⟨hc8, ?_, hW.2.1, by simp [dfl]⟩), ⟨Nat.le_trans hS.1 (by omega), fun q h1 h2 => (o1 q (Nat.lt_of_lt_of_le h1 hS.1)).trans (hS.2.1 q h1 h2), hS.2.2⟩⟩
        · have e9 : cv G (.ref h.1) = .ref H.size := by show Value.ref (gad G h.1) = _; rw [hW.top]
          rw [List.map_cons, e9] at h7
          exact h7
        · rw [hW.top]
          refine (u_born (clTy c0) hts (clW_in hc8) hKn hkC e1 (cl_ty c0 hc8)).to (fun j hj => ?_)
          simp only [vp_V, dfl, List.map_map, List.getD_eq_getElem?_getD, List.getElem?_map]
          rw [List.getElem?_range hj]
          show defaultValue (clTy c0 j) = cv G (defaultValue (clTy c0 j))
          cases clTy c0 j <;> rfl
      · cases hst
    · -- .newarray .int, 2
      obtain ⟨x, r, rfl, hs2⟩ := p1_ok hst
      obtain ⟨⟨hx0, hx1⟩, hs3⟩ := if_none hs2
      cases hs3
      have hx2 : ¬ x < 0 := fun z => by
        have := Int32.lt_iff_toInt_lt.mp z
        simp at this
        omega
      have hx3 : x.toNatClampNeg = x.toInt.toNat := rfl
      have hx4 : x.toNatClampNeg ≤ 100000 := by omega
      have r1 : h.1 + 1 ≤ R.cells + n0 := hr1
      have r2 : h.2.1 + x.toNatClampNeg ≤ R.slots + s0 := hr2
      refine va_newaK (atype := .int) hx hb (hts _ aw_int) rfl hd rfl hx2 rfl (by show x.toNatClampNeg * componentBytes .int ≤ _; simp [componentBytes]; omega) (by omega) (by omega) rfl fun H1 cA e1 z1 o1 hAr _ => ?_
      have h7 := kk H1 locs (cells + 1) (slots + x.toNatClampNeg) arr ⟨by show cells + 1 + n0 = h.1 + 1; omega, by show slots + x.toNatClampNeg + s0 = h.2.1 + x.toNatClampNeg; omega, hL, hW.new hg z1 o1 ⟨by omega, Or.inl ⟨by decide, hW.2.1, cA, by rw [hW.top]; exact e1, hAr⟩⟩, ⟨Nat.le_trans hS.1 (by omega), fun q h1 h2 => (o1 q (Nat.lt_of_lt_of_le h1 hS.1)).trans (hS.2.1 q h1 h2), hS.2.2⟩⟩
      have e9 : cv G (.ref h.1) = .ref H.size := by show Value.ref (gad G h.1) = _; rw [hW.top]
      rw [List.map_cons, e9] at h7
      exact h7
    · -- .newarray .boolean, 2
      obtain ⟨x, r, rfl, hs2⟩ := p1_ok hst
      obtain ⟨⟨hx0, hx1⟩, hs3⟩ := if_none hs2
      cases hs3
      have hx2 : ¬ x < 0 := fun z => by
        have := Int32.lt_iff_toInt_lt.mp z
        simp at this
        omega
      have hx3 : x.toNatClampNeg = x.toInt.toNat := rfl
      have hx4 : x.toNatClampNeg ≤ 100000 := by omega
      have r1 : h.1 + 1 ≤ R.cells + n0 := hr1
      have r2 : h.2.1 + x.toNatClampNeg ≤ R.slots + s0 := hr2
      refine va_newaK (atype := .boolean) hx hb (hts _ aw_boolean) rfl hd rfl hx2 rfl (by show x.toNatClampNeg * componentBytes .boolean ≤ _; simp [componentBytes]; omega) (by omega) (by omega) rfl fun H1 cA e1 z1 o1 hAr _ => ?_
      have h7 := kk H1 locs (cells + 1) (slots + x.toNatClampNeg) arr ⟨by show cells + 1 + n0 = h.1 + 1; omega, by show slots + x.toNatClampNeg + s0 = h.2.1 + x.toNatClampNeg; omega, hL, hW.new hg z1 o1 ⟨by omega, Or.inl ⟨by decide, hW.2.1, cA, by rw [hW.top]; exact e1, hAr⟩⟩, ⟨Nat.le_trans hS.1 (by omega), fun q h1 h2 => (o1 q (Nat.lt_of_lt_of_le h1 hS.1)).trans (hS.2.1 q h1 h2), hS.2.2⟩⟩
      have e9 : cv G (.ref h.1) = .ref H.size := by show Value.ref (gad G h.1) = _; rw [hW.top]
      rw [List.map_cons, e9] at h7
      exact h7
    · -- .anewarray k, 3
      rename_i k
      obtain ⟨x, r, rfl, hs2⟩ := p1_ok hst
      split at hs2
      · rename_i hn
        obtain ⟨⟨hx0, hx1⟩, hs3⟩ := if_none hs2
        cases hs3
        have hx2 : ¬ x < 0 := fun z => by
          have := Int32.lt_iff_toInt_lt.mp z
          simp at this
          omega
        have hx3 : x.toNatClampNeg = x.toInt.toNat := rfl
        have hx4 : x.toNatClampNeg ≤ 100000 := by omega
        have r1 : h.1 + 1 ≤ R.cells + n0 := hr1
        have r2 : h.2.1 + x.toNatClampNeg ≤ R.slots + s0 := hr2
        refine W.anew hx hb hown (hts _ (an_ok hn).1) (va_AO.use hKK.2.2.1) rfl hd rfl hx2 (by omega) (by omega) (by omega) fun cA kA comp f1 f2 f3 f4 => ?_
        generalize hH1 : H.push ({ cls := cA, slots := Array.replicate x.toNatClampNeg .null, vm := .none } : Cell) = H1
        have z1 : H1.size = H.size + 1 := by rw [← hH1, Array.size_push]
        have e1 : H1[H.size]? = some (arrV cA x.toNatClampNeg (fun _ => .null)) := by rw [← hH1, Array.getElem?_push_size, ← arrV_new]
        have o1 : ∀ q : Nat, q < H.size → H1[q]? = H[q]? := fun q hq => by rw [← hH1, Array.getElem?_push, if_neg (Nat.ne_of_lt hq)]
        have hAr : ArrOfT s cA (.object RX6) := fun N z => ⟨(fun k h => by cases h), kA, f2, comp, f3⟩
        have h7 := kk H1 locs (cells + 1) (slots + x.toNatClampNeg) arr ⟨by show cells + 1 + n0 = h.1 + 1; omega, by show slots + x.toNatClampNeg + s0 = h.2.1 + x.toNatClampNeg; omega, hL, hW.new hg z1 o1 ⟨cA, kA, comp, by rw [hW.top]; exact e1, hAr, f2, f3, f4, hW.2.1, by omega⟩, ⟨Nat.le_trans hS.1 (by omega), fun q h1 h2 => (o1 q (Nat.lt_of_lt_of_le h1 hS.1)).trans (hS.2.1 q h1 h2), hS.2.2⟩⟩
        have e9 : cv G (.ref h.1) = .ref H.size := by show Value.ref (gad G h.1) = _; rw [hW.top]
        rw [List.map_cons, e9] at h7
        exact h7
      · cases hs2
    · -- .invokestatic k, 3
      rename_i k
      split at hst
      · rename_i x8 hm
        unfold arc at hst
        split at hst
        · rename_i n dp a1 sp a0 r
          split at hst
          · rename_i n0a f n1a g ha0 ha1
            obtain ⟨⟨h1a, h2a, h3a, h4a, h5a, hk8, hd0⟩, hs2⟩ := if_none hst
            have hk9 := stk_cv ho r
            cases hs2
            obtain ⟨pp, -, hw⟩ := ml_ok hm
            obtain ⟨hah, hc1⟩ := hW.cell ha1 jn_i
            obtain ⟨h13, cA1, g1, g2⟩ := hc1.own (by decide)
            obtain ⟨-, hc0⟩ := hW.cell ha0 jn_i
            obtain ⟨-, cA0, g3, g4⟩ := hc0.own (by decide)
            refine ri_copy hx hb (by rw [hml]; exact hL.1.1.symm) hown (hts _ (atT_in hw)) (hts _ sy_nat) (hts _ sy_stat) (hts _ sy_ini) g3 g1 g4 g2 (i32_nn h1a) (i32_nn h2a) (i32_nn h3a) (by have := i32_tn h1a; have := i32_tn h3a; omega) (by have := i32_tn h2a; have := i32_tn h3a; omega) (by omega) (by rw [show nativeFrameWords "java/lang/System" "arraycopy" 5 = 7 from by decide +kernel]; unfold stk at hk9 hk8; omega) hd fun H1 locs1 e1 z1 oq hlc => ?_
            exact kk _ _ _ _ _ ⟨hc, hs, hL, hW.set hg h13 hah z1 oq ⟨hc1.1, Or.inl ⟨by decide, h13, cA1, e1, g2⟩⟩, ⟨by rw [z1]; exact hS.1, fun q q1 q2 => (oq q (fun z => q2 (by rw [z]; exact gad_A h13))).trans (hS.2.1 q q1 q2), fun q hq => by
              rcases hlc q hq with h | h
              · exact hS.2.2 q h
              · rw [h]; exact gad_A h13⟩⟩
          · cases hst
        · cases hst
      · rename_i x8 hm
        obtain ⟨x, y, r, rfl, hs2⟩ := p2_ok hst
        obtain ⟨⟨hk8, hd0⟩, hs3⟩ := if_none hs2
        cases hs3
        have hk9 := stk_cv ho r
        have hw := ml_ok hm
        obtain ⟨pp, -, hw⟩ := hw
        exact va_mmax hx hb (by rw [hml]; exact hL.1.1.symm) hown (hts _ (atT_in hw)) (hts _ mx_stat) (hts _ mx_ini) (hts _ mx_code) (by omega) (by unfold stk at hk9 hk8; omega) (by omega) (by omega) hd (kk _ _ _ _ _ ⟨hc, hs, hL, hW, hS⟩)
      · rename_i x8 hm
        obtain ⟨x, y, r, rfl, hs2⟩ := p2_ok hst
        obtain ⟨⟨hk8, hd0⟩, hs3⟩ := if_none hs2
        cases hs3
        have hk9 := stk_cv ho r
        have hw := ml_ok hm
        obtain ⟨pp, -, hw⟩ := hw
        exact va_mmin hx hb (by rw [hml]; exact hL.1.1.symm) hown (hts _ (atT_in hw)) (hts _ mn_stat) (hts _ mx_ini) (hts _ mn_code) (by omega) (by unfold stk at hk9 hk8; omega) (by omega) (by omega) hd (kk _ _ _ _ _ ⟨hc, hs, hL, hW, hS⟩)
      · exact absurd hst (inv_n _ _ _ _ _ _ _ _ _)
      · exact absurd hst (inv_n _ _ _ _ _ _ _ _ _)
      · cases hst
    · -- .invokevirtual k, 3
      rename_i k
      split at hst
      · exact absurd hst (inv_n _ _ _ _ _ _ _ _ _)
      · cases hst
    · -- .invokespecial k, 3
      rename_i k
      split at hst
      · rename_i x9 hm
        split at hst
        · rename_i a r
          obtain ⟨⟨hk8, hd0⟩, hs2⟩ := if_none hst
          have hk9 := stk_cv ho r
          cases hs2
          obtain ⟨pp, -, hw⟩ := ml_ok hm
          refine W.objInit hx hb hown (hts _ (atT_in hw)) (hts _ ob_inst) (hts _ ob_code) rfl (by rw [hml]; exact hL.1.1) rfl hd (by omega) (by show 2 * 0 + _ + 12 ≤ _; unfold stk at hk9 hk8; omega) ?_
          exact kk _ _ _ _ _ ⟨hc, hs, hL, hW, hS⟩
        · cases hst
      · exact absurd hst (inv_n _ _ _ _ _ _ _ _ _)
      · exact absurd hst (inv_n _ _ _ _ _ _ _ _ _)
      · cases hst
    · -- .ireturn, 1
      split at hst
      · obtain ⟨-, hst⟩ := if_none hst
        cases hst
      · cases hst
    · -- .lreturn, 1
      split at hst
      · cases hst
      · cases hst
    · -- .areturn, 1
      split at hst
      · cases hst
      · cases hst
    · -- .return_, 1
      split at hst <;> cases hst
    · cases hst
end SN
