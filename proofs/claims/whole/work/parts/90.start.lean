/-! the claim out of one run of the reflected machine (begun with the kit's skeleton) -/
def R_law : String := "SieveGuestsLaw"
def lw_P (b : Addr) (xs : List Int32) (args : Array Value) (s : State) : Prop := args = #[.ref b] ∧ s.IntsAt b xs ∧ xs.length ≤ 384 ∧ (Jvm.Cond.and given_1 narrow_1).before args s = true
def lw_Q (_ : Array Value) (s : State) (o : Outcome) (t : State) : Prop := o = .returned (some (.int 1)) ∧ Framed s o t [] 600000 7302250
def lw_Z (below : List Frame) (a : Array Value) (s : State) : State → Prop := fun t => ∃ o, t.status = .running ∧ Ended t below o ∧ lw_Q a s o t
/-- the law's own end, with 1 on the stack, nothing written that was there before, its room as the claim has it -/
theorem lw_ret {p : Program} {l : Launch} {e : Env} {s : State} {m : MethodId} {below : List Frame} {meth : Method} {c : Code} {b : Nat} (hx : p.tables.exec = Jvm.exec) (hb : c.code = code) (hr : meth.sig.returnType = ret) (hlocks : meth.locks = false) {pc : Nat} {H : Heap} {ls : Array Slot} (hdg : decode code pc = .ok (.ireturn, 1)) : W p l e room_1 s m #[Value.ref b] below meth c H [] 600000 7302250 (lw_Z below #[Value.ref b] s) (F0 m pc ls [.int 1]) := by
  intro T hT X
  obtain ⟨fs, hret, hrun, hended, hW, hframe⟩ := X.leave (v := some (.int 1)) (hlocks := hlocks) (fun h => by rw [hr] at h; cases h)
  have hmeth' : T.vm.method? m = some meth := X.method'
  refine ⟨T.setFrames fs, ?_, .returned (some (.int 1)), hrun, hended, rfl, ⟨_, rfl⟩, hW, hframe⟩
  jvm_step X.here [X.here.top, hx, hb, hdg, hmeth', hr, ret, narrow_b1]
  (try refine ⟨rfl, ?_⟩); (try refine ⟨rfl, ?_⟩)
  first | (intro acts; rw [hret _ acts rfl rfl rfl]) | rw [hret _ _ rfl rfl rfl]
  exact Steps.refl _
/-- what holds at the law's entry: the machine, the code, the tables' words (any of lw_tbl by 'hts w (by decide +kernel)'), the script of L ints xs at the cell b, what the Statement gives of the start (any of its parts by flat_of_before) -/
def lw_At (p : Program) (s : State) (m : MethodId) (meth : Method) (c : Code) (b L : Nat) (xs : Nat → Int32) : Prop :=
  p.tables.exec = Jvm.exec ∧ c.code = code ∧ meth.sig.returnType = ret ∧ c.maxLocals = 4 ∧ s.vm.findClass R_law = some m.cls ∧ (∀ w ∈ lw_tbl, w.before #[Value.ref b] s = true) ∧ va_X b L xs s s.heap ∧ b < s.heap.size ∧ meth.locks = false ∧ (Jvm.Cond.and given_1 narrow_1).before #[Value.ref b] s = true
-- what lies in the heap at first: the script, the String constants and their bytes
def h0 (L : Nat) (xs : Nat → Int32) : Hp := (13, 0, fun i => if i = 0 then .inl (3, L, xs) else if i < 7 then oO 100 [.ref (7 + (i - 1)), .int 0] else if i < 13 then .inl (2, lenS.getD (i - 7) 0, fun j => (bytS.getD (i - 7) []).getD j 0) else jnk)
def tmS (i : Nat) : Term := .string "SieveGuests$Reader" (130 + 2 * i)
set_option maxRecDepth 100000 in
theorem nw_str : ((List.range 6).all fun i => decide (Cond.exactly (tmS i) "java/lang/String" ∈ flatC (Jvm.Cond.and given_1 narrow_1)) && decide (Cond.eq (.field (tmS i) "java/lang/String" "coder" "B") (.int 0) ∈ flatC (Jvm.Cond.and given_1 narrow_1)) && decide (Cond.arrayOf (.field (tmS i) "java/lang/String" "value" "[B") .byte ∈ flatC (Jvm.Cond.and given_1 narrow_1)) && decide (Cond.eq (.length (.field (tmS i) "java/lang/String" "value" "[B")) (.int (Int32.ofNat (lenS.getD i 0))) ∈ flatC (Jvm.Cond.and given_1 narrow_1)) &&
    ((List.range (lenS.getD i 0)).all fun j => decide (Cond.eq (.elem (.field (tmS i) "java/lang/String" "value" "[B") (.int (Int32.ofNat j))) (.int ((bytS.getD i []).getD j 0)) ∈ flatC (Jvm.Cond.and given_1 narrow_1))) &&
    ((List.range 6).all fun j => i == j || decide (Cond.not (Cond.eq (tmS i) (tmS j)) ∈ flatC (Jvm.Cond.and given_1 narrow_1)) || decide (Cond.not (Cond.eq (tmS j) (tmS i)) ∈ flatC (Jvm.Cond.and given_1 narrow_1)))) = true := by decide +kernel
theorem nw_cs : Cond.eq (.static "java/lang/String" "COMPACT_STRINGS" "Z") (.int 1) ∈ flatC (Jvm.Cond.and given_1 narrow_1) := by decide +kernel
theorem nw_sio : Cond.isRef (.static "jdk/internal/util/Preconditions" "SIOOBE_FORMATTER" "Ljava/util/function/BiFunction;") ∈ flatC (Jvm.Cond.and given_1 narrow_1) := by decide +kernel
set_option maxRecDepth 100000 in
theorem st_refs : (stT.all fun e => decide (oN e.1 = "SieveGuests$Reader") && decide (e.2.1 = 130 + 2 * e.2.2) && decide (e.2.2 < 6) && lw_tbl.any fun w => decide (w = .stringRef (oN e.1) e.2.1 (stN e.2.2))) = true := by decide +kernel
set_option maxRecDepth 100000 in
theorem ns_refs : (nsT.all fun e => lw_tbl.any fun w => decide (w = .methodLinkNest (oN e.1) e.2.1 (mR e.2.2.1).2.1 "SieveGuests")) = true := by decide +kernel
theorem ao_ref : Cond.arrayOver (.object RX6) ∈ lw_tbl := List.mem_of_getElem? (i := 168) (by decide +kernel)
theorem ls_cs : Cond.laysStatic "java/lang/String" "COMPACT_STRINGS" "Z" ∈ lw_tbl := List.mem_of_getElem? (i := 385) (by decide +kernel)
theorem ls_sio : Cond.laysStatic "jdk/internal/util/Preconditions" "SIOOBE_FORMATTER" "Ljava/util/function/BiFunction;" ∈ lw_tbl := List.mem_of_getElem? (i := 401) (by decide +kernel)
theorem in_str : Cond.initialized "java/lang/String" ∈ lw_tbl := by decide +kernel
theorem in_pre : Cond.initialized "jdk/internal/util/Preconditions" ∈ lw_tbl := by decide +kernel
set_option maxRecDepth 100000 in
theorem ins_ok : ((List.range 8).all fun c => lw_tbl.any fun w => decide (w = .instantiable (clR c) (clN c))) = true := by decide +kernel
theorem law_row : mR 221 = (20, ⟨RL, "law", "([I)Z"⟩, code, 4, some .boolean, 1) := by rfl
/-- the pure claim: the law's run answers 1 -/
theorem law_true {L : Nat} (xs : Nat → Int32) (hL : L ≤ 384) : ∃ (n : Nat) (h2 : Hp), ex n 60 221 0 [.ref 0, un, un, un] [] (h0 L xs) = some (some (.int 1), h2) ∧ h2.1 ≤ 600000 ∧ h2.2.1 ≤ 7302250 := by
  have e4 : ∀ a, 1 ≤ a → a < 13 → (h0 L xs).2.2 a = strC a := fun a h1 h2 => by
    show (if a = 0 then .inl (3, L, xs) else if a < 7 then oO 100 [.ref (7 + (a - 1)), .int 0] else if a < 13 then .inl (2, lenS.getD (a - 7) 0, fun j => (bytS.getD (a - 7) []).getD j 0) else jnk) = strC a
    unfold strC
    rw [if_neg (show ¬ a = 0 by omega), if_neg (show ¬ a = 0 by omega)]
  have t : T (30 + 30) 221 0 [.ref 0, un, un, un] [] (h0 L xs) QLw := law_fin LC_read LC_place hL rfl rfl rfl e4
  obtain ⟨n, r, h2, e, rfl, b1, b2⟩ := t
  exact ⟨n, h2, e, b1, b2⟩
set_option maxHeartbeats 4000000 in
/-- from the entry, for every script of at most 384 ints, the law comes to its end with true -/
theorem whole_start {p : Program} {e : Env} {s : State} {m : MethodId} {below : List Frame} {meth : Method} {c : Code} (l : Launch) (hflags : l.flags = flags0) {b L : Nat} {xs : Nat → Int32} (hL : L ≤ 384) (C0 : lw_At p s m meth c b L xs) : W p l e room_1 s m #[Value.ref b] below meth c s.heap [] 0 0 (lw_Z below #[Value.ref b] s) (entryFrame m ([Value.ref b] : List Value).toArray 4) := by
  obtain ⟨hx, hb, hr, hml, hown, hts, hX, hbl, hlocks, hgv⟩ := id C0
  have hnw := flat_of_before _ hgv
  -- the classes
  have hcls : ∀ k, ∃ (q : ClassId × (Nat → Nat)), k < 8 → u_Kn s (clR k) (clT k) (clN k) q.1 q.2 := by
    intro k
    by_cases hk : k < 8
    · have h1 := List.all_eq_true.mp ins_ok k (List.mem_range.mpr hk)
      obtain ⟨w, hw, hw2⟩ := List.any_eq_true.mp h1
      have hw3 := of_decide_eq_true hw2
      subst hw3
      obtain ⟨cC, iS, hK⟩ := u_known (C := clR k) (T := clT k) (N := clN k) (n := clN k) hts (fun w h => tblG_in w (clW_in hk w h)) (hts _ hw)
      exact ⟨(cC, iS), fun _ => hK⟩
    · exact ⟨(0, fun _ => 0), fun h => absurd h hk⟩
  obtain ⟨fD, hfD⟩ := Classical.axiomOfChoice hcls
  -- the String constants
  have hA : ∀ a : Nat, a < s.heap.size → ¬ s.heap.size ≤ a := fun a h => Nat.not_le.mpr h
  have hstr : ∀ i, i < 6 → _ := fun i hi => List.all_eq_true.mp nw_str i (List.mem_range.mpr hi)
  simp only [Bool.and_eq_true, decide_eq_true_eq, List.all_eq_true, List.mem_range, Bool.or_eq_true, beq_iff_eq] at hstr
  have hlen : ∀ i, i < 6 → lenS.getD i 0 < 2 ^ 31 := by decide
  obtain ⟨sk, sv, hS1, hS2⟩ := vk_Sof (N := 6) (tm := tmS) (len := lenS) (byt := bytS) (A := fun q : Nat => s.heap.size ≤ q) (s := s) (args := #[Value.ref b]) hlen (fun i hi => hnw _ (hstr i hi).1.1.1.1.1) (fun i hi => hnw _ (hstr i hi).1.1.1.1.2) (fun i hi => hnw _ (hstr i hi).1.1.1.2) (fun i hi => hnw _ (hstr i hi).1.1.2) (fun i hi j hj => hnw _ ((hstr i hi).1.2 j hj)) (fun i j hi hj hij => by
    rcases (hstr i hi).2 j hj with (h | h) | h
    · exact absurd h hij
    · exact Or.inl (hnw _ h)
    · exact Or.inr (hnw _ h)) hA
  have hZ1 : va_Z "java/lang/String" "COMPACT_STRINGS" "Z" (.int 1) (fun q : Nat => s.heap.size ≤ q) s s.heap := va_Zof (hts _ ls_cs) (hts _ in_str) (va_eqi (hnw _ nw_cs)) hA
  have hZ2 := va_Zqof (A := fun q : Nat => s.heap.size ≤ q) (hts _ ls_sio) (hts _ in_pre) (hnw _ nw_sio) hA
  obtain ⟨ov, hov, hZ3⟩ : ∃ ov : Value, (ov = .null ∨ ∃ t : Nat, ov = .ref t) ∧ va_Z "jdk/internal/util/Preconditions" "SIOOBE_FORMATTER" "Ljava/util/function/BiFunction;" ov (fun q : Nat => s.heap.size ≤ q) s s.heap := by
    rcases hZ2 with h | ⟨t, h⟩
    · exact ⟨.null, Or.inl rfl, h⟩
    · exact ⟨.ref t, Or.inr ⟨t, rfl⟩, h⟩
  obtain ⟨n, h2, hex, hb1, hb2⟩ := law_true xs hL
  let G : Gp := (s.heap.size, b, sk, sv, ov, (fun k => (fD k).1, fun k => (fD k).2))
  have hgs : ∀ i, i < 6 → gad G (1 + i) = sk i := fun i hi => by simp [G, gad, show ¬ 13 ≤ 1 + i by omega, show 1 + i < 7 by omega]
  have hgv2 : ∀ i, i < 6 → gad G (7 + i) = sv i := fun i hi => by simp [G, gad, show ¬ 13 ≤ 7 + i by omega, show ¬ 7 + i < 7 by omega]
  have hskl : ∀ i, i < 6 → sk i < s.heap.size := fun i hi => by
    obtain ⟨⟨cell, g1, -⟩, -⟩ := hS1.1 i hi
    exact (Array.getElem?_eq_some_iff.mp g1).1
  have hsvl : ∀ i, i < 6 → sv i < s.heap.size := fun i hi => by
    obtain ⟨-, -, -, cell, g1, -⟩ := hS1.1 i hi
    exact (Array.getElem?_eq_some_iff.mp g1).1
  have hg : gOK G := by
    intro i hi
    by_cases h0 : i = 0
    · subst h0; exact hbl
    · by_cases h7 : i < 7
      · have := hgs (i - 1) (by omega)
        rw [show 1 + (i - 1) = i by omega] at this
        rw [this]; exact hskl _ (by omega)
      · have := hgv2 (i - 7) (by omega)
        rw [show 7 + (i - 7) = i by omega] at this
        rw [this]; exact hsvl _ (by omega)
  have hKK : KK G s := by
    refine ⟨⟨fun k q hq => ?_, fun k q h => by simp at h⟩, fun e he => ?_, hts _ ao_ref, fun e he => ?_⟩
    · have hk : k < 8 := (List.getElem?_eq_some_iff.mp hq).1
      rw [cl_at k hk] at hq
      cases hq
      exact hfD k hk
    · obtain ⟨w, hw, hw2⟩ := List.any_eq_true.mp (List.all_eq_true.mp ns_refs e he)
      have hw3 := of_decide_eq_true hw2
      subst hw3
      exact va_Nw.of rfl (hts _ hw)
    · have h1 := List.all_eq_true.mp st_refs e he
      simp only [Bool.and_eq_true, decide_eq_true_eq] at h1
      obtain ⟨⟨⟨e1, e2⟩, e3⟩, h4⟩ := h1
      obtain ⟨w, hw, hw2⟩ := List.any_eq_true.mp h4
      have hw3 := of_decide_eq_true hw2
      subst hw3
      refine vk_R.of (A := #[Value.ref b]) (hts _ hw) ?_
      rw [e1, e2]
      exact hS2 _ e3
  have hEX : EX G s s.heap := ⟨hS1, hZ1, hZ3⟩
  have hWd : Wd G s (h0 L xs) s.heap := by
    refine ⟨rfl, Nat.le_refl _, fun i hi => ?_, fun i hi => ?_⟩
    · have hi : i < 13 := hi
      show cellOK G s i (if i = 0 then .inl (3, L, xs) else if i < 7 then oO 100 [.ref (7 + (i - 1)), .int 0] else if i < 13 then .inl (2, lenS.getD (i - 7) 0, fun j => (bytS.getD (i - 7) []).getD j 0) else jnk) s.heap
      by_cases h0 : i = 0
      · rw [if_pos h0]
        subst h0
        obtain ⟨scr, g1, g2, g3, g4, g5⟩ := hX
        exact ⟨by omega, Or.inr ⟨by decide, scr, g1, g2, g3, ⟨Nat.le_of_eq g4.symm, by rw [g4]⟩, g5⟩⟩
      · rw [if_neg h0]
        by_cases h7 : i < 7
        · rw [if_pos h7]
          exact Or.inr ⟨rfl, i - 1, by omega, by omega, rfl⟩
        · rw [if_neg h7, if_pos hi]
          have h6 : i - 7 < 6 := by omega
          obtain ⟨-, -, -, cell, g1, g2, g3, g4, g5, g6, g7⟩ := hS1.1 (i - 7) h6
          have e0 := hgv2 (i - 7) h6
          rw [show 7 + (i - 7) = i by omega] at e0
          exact ⟨hlen _ h6, Or.inr ⟨by omega, cell, by rw [e0]; exact g1, g2, g3, ⟨g4, g5⟩, g6⟩⟩
    · have hi : 13 ≤ i := hi
      show (if i = 0 then .inl (3, L, xs) else if i < 7 then oO 100 [.ref (7 + (i - 1)), .int 0] else if i < 13 then .inl (2, lenS.getD (i - 7) 0, fun j => (bytS.getD (i - 7) []).getD j 0) else jnk) = jnk
      rw [if_neg (by omega), if_neg (by omega), if_neg (by omega)]
  have C : Cx G p room_1 s m #[Value.ref b] meth c 221 60 := by
    refine ⟨hx, by rw [law_row]; exact hb, by rw [law_row]; exact hml, by rw [law_row]; exact hown, fun w hw => hts w (tblG_in w hw), hKK, hEX, fun h => ?_, Nat.le_of_ble_eq_true rfl, Nat.le_of_ble_eq_true rfl, hg, hov⟩
    rw [law_row] at h
    exact absurd h (by decide)
  rw [lg_entry_eq]
  have hLR := ent_LR (G := G) hov (as := [.ref 0]) (nL := 4) (by decide)
  have hnL : (mR 221).2.2.2.1 = 4 := by rw [law_row]
  have hh := sim l G hg hov n 60 221 0 _ [] _ _ h2 hex (p := p) (e := e) (R := room_1) (s := s) (m := m) (args := #[Value.ref b]) (below := below) (meth := meth) (c := c) (n0 := 13) (s0 := 0) (Q := lw_Z below #[Value.ref b] s) C (by show h2.1 ≤ 600000 + 13; omega) (by show h2.2.1 ≤ 7302250 + 0; omega) ?_ s.heap [] 0 0 _ ⟨rfl, rfl, by rw [hnL]; exact hLR, hWd, va_S.rf⟩
  · exact hh
  · intro H locs cells slots pc arr st I hc hs hW hS hd hret
    rcases hret with ⟨rfl, x, ty, rfl, hty, hn, hx1⟩ | ⟨rfl, x, rfl, hty, hx1⟩ | ⟨rfl, x, nm, rfl, hty, hx1⟩ | ⟨rfl, rfl, hty, hx1⟩
    · cases hx1
      refine va_forget (fun q hq => hS.2.2 q hq) ?_
      refine W.widen (k := 600000) (n := 7302250) (by omega) (by omega) ?_
      refine lw_ret hx hb hr hlocks (pc := pc) ?_
      rw [law_row] at hd
      exact hd
    · cases hx1
    · cases hx1
    · cases hx1
