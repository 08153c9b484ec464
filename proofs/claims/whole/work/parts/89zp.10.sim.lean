/-! a run of the reflected machine is a run of the machine -/
theorem stp_ok {d mi pc : Nat} {ls st : List Value} {h : Hp} {a : _} (e : stp d mi pc ls st h = some a) : ∃ I len, decode (mR mi).2.2.1 pc = .ok (I, len) ∧ stI d mi (mR mi).1 I len pc ls st h = some a := by
  unfold stp at e
  cases hcod : cod mi pc with
  | none => rw [hcod] at e; cases e
  | some q =>
    obtain ⟨I, len⟩ := q
    rw [hcod] at e
    refine ⟨I, len, ?_, e⟩
    unfold cod at hcod
    split at hcod
    · rename_i x hx1
      rw [hx1, Option.some.inj hcod]
    · cases hcod
theorem ex_mono : ∀ (n d mi pc : Nat) (ls st : List Value) (h : Hp) (r : Option Value) (h2 : Hp), ex n d mi pc ls st h = some (r, h2) → h.1 ≤ h2.1 ∧ h.2.1 ≤ h2.2.1 := by
  intro n
  induction n with
  | zero => intro d mi pc ls st h r h2 e; cases e
  | succ n ih =>
    intro d mi pc ls st h r h2 e
    unfold ex at e
    split at e
    · rename_i pc' ls' st' h' hs
      obtain ⟨I, len, -, hst⟩ := stp_ok hs
      have h1 := stI_mono hst
      have h3 := ih _ _ _ _ _ _ _ _ e
      exact ⟨Nat.le_trans h1.1 h3.1, Nat.le_trans h1.2 h3.2⟩
    · rename_i j as pc' ls' st' h' hs
      obtain ⟨I, len, -, hst⟩ := stp_ok hs
      obtain ⟨-, k, kind, -, -, -, rfl, -⟩ := stI_call hst
      split at e
      · rename_i r1 h1 hc
        have h3 := ih _ _ _ _ _ _ _ _ hc
        have h4 := ih _ _ _ _ _ _ _ _ e
        exact ⟨Nat.le_trans h3.1 h4.1, Nat.le_trans h3.2 h4.2⟩
      · cases e
    · rename_i rh hs
      obtain ⟨I, len, -, hst⟩ := stp_ok hs
      obtain ⟨r0, h0⟩ := rh
      obtain ⟨-, rfl, -⟩ := stI_ret hst
      cases e
      exact ⟨Nat.le_refl _, Nat.le_refl _⟩
    · cases e
theorem mR_facts {j : Nat} (hj : j < 221) : Cond.initialized (mR j).2.1.cls ∈ tblG ∧ ((mpos.getD j (7, 0, 0, 0, 0)).1 = 0 → Cond.static (mR j).2.1 ∈ tblG) ∧ ((mpos.getD j (7, 0, 0, 0, 0)).1 ≠ 0 → Cond.instanceMethod (mR j).2.1 ∈ tblG) ∧ ((mpos.getD j (7, 0, 0, 0, 0)).1 = 1 → Cond.selects (mR j).2.1.cls (mR j).2.1 (mR j).2.1 ∈ tblG) ∧ plainName (mR j).2.1.cls = true ∧ oN (mR j).1 = (mR j).2.1.cls ∧ ((mR j).2.1.cls ≠ "java/lang/invoke/MethodHandle" ∧ (mR j).2.1.cls ≠ "java/lang/invoke/VarHandle") ∧ (parseMethodDescriptor (mR j).2.1.desc).map (fun d => d.parameters.length) = some (mR j).2.2.2.2.2 ∧ ((mpos.getD j (7, 0, 0, 0, 0)).1 = 2 → (mR j).2.1.name = "<init>") := by
  have h := mR_ok hj
  simp only [mOK, Bool.and_eq_true, decide_eq_true_eq, Bool.or_eq_true, bne_iff_ne, ne_eq] at h
  obtain ⟨⟨⟨⟨⟨⟨⟨h1, h2⟩, h3⟩, h4⟩, h5⟩, h6⟩, h7⟩, h8⟩ := h
  refine ⟨atT_in h1, fun q => ?_, fun q => ?_, fun q => ?_, h4, h5, h6, h7, fun q => ?_⟩
  · rw [if_pos q] at h2; exact atT_in h2
  · rw [if_neg q] at h2; exact atT_in h2
  · rcases h3 with h3 | h3
    · exact absurd q h3
    · exact atT_in h3
  · rcases h8 with h8 | h8
    · exact absurd q h8
    · exact h8
theorem ml_facts {o idx kind j p : Nat} (hk : kind < 6) (h : mlOK (o, idx, kind, j, p) = true) : j < 221 ∧ (mpos.getD j (7, 0, 0, 0, 0)).1 = kind % 3 ∧ (kind < 3 → Cond.methodLink (oN o) idx (mR j).2.1 ∈ tblG) ∧ (¬ kind < 3 → (o, idx, j, p) ∈ nsT) := by
  unfold mlOK at h
  simp only at h
  rw [if_neg (by omega), if_neg (by omega), if_neg (by omega), if_neg (by omega)] at h
  simp only [Bool.and_eq_true, decide_eq_true_eq] at h
  obtain ⟨⟨⟨⟨h1, h2⟩, h3⟩, -⟩, -⟩ := h
  refine ⟨h1, h2, fun q => ?_, fun q => ?_⟩
  · rw [if_pos q] at h3; exact atT_in h3
  · rw [if_neg q] at h3; exact of_decide_eq_true h3
def wsM (j : Nat) : List Cond := .code (mR j).2.1 (mR j).2.2.1 (mR j).2.2.2.1 (mR j).2.2.2.2.1 :: tblG
def rmM (d mc ms : Nat) : Room := { frames := d, cells := mc, slots := ms, locals := 64 * d }
def PS (G : Gp) (h : Hp) (U : State) : Prop := KK G U ∧ EX G U U.heap ∧ Wd G U h U.heap
abbrev PcM (G : Gp) (h : Hp) (as : List Value) : Array Value → State → Prop := va_Pc (as.map (cv G)) (PS G h)
def QcM (G : Gp) (r : Option Value) (h2 : Hp) : Array Value → State → Outcome → State → Prop := fun _ st oc t => oc = .returned (r.map (cv G)) ∧ Wd G t h2 t.heap ∧ va_F (gA G) st t
theorem PcM_blind (G : Gp) (h : Hp) (as : List Value) : FrameBlind (PcM G h as) := fun a U g mk q => ⟨q.1, q.2.1.same (U := U.calling g mk a) rfl, q.2.2.1.moved (U := U.calling g mk a) (Vm.Alike.refl U.vm), q.2.2.2.moved (V := U.calling g mk a) (Vm.Alike.refl U.vm)⟩
theorem wsM_good {j : Nat} (hj : j < 221) {l : List Cond} (hl : ∀ w ∈ l, w ∈ tblG) : GoodIn tblG (l ++ wsM j) := tblG_good (fun w hw => by
  rcases List.mem_append.mp hw with h | h
  · exact hl w h
  · rcases List.mem_cons.mp h with h | h
    · rw [h]; exact mR_code hj
    · exact h) (fun _ h => h)
/-- what is to be shown of runs of n instructions -/
def simP (l : Launch) (G : Gp) (n : Nat) : Prop := ∀ (d mi pc : Nat) (ls st : List Value) (h : Hp) (r : Option Value) (h2 : Hp), ex n d mi pc ls st h = some (r, h2) →
  ∀ {p : Program} {e : Env} {R : Room} {s : State} {m : MethodId} {args : Array Value} {below : List Frame} {meth : Method} {c : Code} {n0 s0 : Nat} {Q : State → Prop},
    Cx G p R s m args meth c mi d → h2.1 ≤ R.cells + n0 → h2.2.1 ≤ R.slots + s0 →
    (∀ (H : Heap) (locs : List Loc) (cells slots pc : Nat) (arr : Array Slot) (st : List Value) (I : Instr), cells + n0 = h2.1 → slots + s0 = h2.2.1 → Wd G s h2 H → va_S (gA G) s.heap H locs → decode (mR mi).2.2.1 pc = .ok (I, 1) → retOK I st r (mR mi).2.2.2.2.1 → W p l e R s m args below meth c H locs cells slots Q (F0 m pc arr (st.map (cv G)))) →
    ∀ (H : Heap) (locs : List Loc) (cells slots : Nat) (arr : Array Slot), Vx G s R n0 s0 (mR mi).2.2.2.1 h ls H locs cells slots arr → W p l e R s m args below meth c H locs cells slots Q (F0 m pc arr (st.map (cv G)))
theorem wrd_lps {G : Gp} (ho : ovOK G) : ∀ (as : List Value) (i N : Nat) (q : Nat × Value), q ∈ lps G i (wrd as ++ List.replicate N un) → q ∈ lv_args i (as.map (cv G)) := by
  intro as
  induction as with
  | nil =>
    intro i N q h
    have hr : ∀ (N i : Nat), q ∉ lps G i (List.replicate N un) := by
      intro N
      induction N with
      | zero => intro i h; cases h
      | succ N ih =>
        intro i h
        rw [List.replicate_succ] at h
        rcases lps_cons.mp h with ⟨hu, -⟩ | h
        · cases hu
        · exact ih _ h
    exact absurd h (hr N i)
  | cons a as ih =>
    intro i N q h
    rw [List.map_cons, lv_args, cv_cat ho]
    by_cases hc : a.category = 2
    · rw [if_pos hc]
      have h : q ∈ lps G i (a :: un :: (wrd as ++ List.replicate N un)) := by
        have e : wrd (a :: as) = a :: un :: wrd as := by simp [wrd, hc]
        rw [e] at h
        exact h
      rcases lps_cons.mp h with ⟨-, h⟩ | h
      · rw [h]; exact List.mem_cons_self
      · rcases lps_cons.mp h with ⟨hu, -⟩ | h
        · cases hu
        · exact List.mem_cons_of_mem _ (ih _ _ _ h)
    · rw [if_neg hc]
      have h : q ∈ lps G i (a :: (wrd as ++ List.replicate N un)) := by
        have e : wrd (a :: as) = a :: wrd as := by simp [wrd, hc]
        rw [e] at h
        exact h
      rcases lps_cons.mp h with ⟨-, h⟩ | h
      · rw [h]; exact List.mem_cons_self
      · exact List.mem_cons_of_mem _ (ih _ _ _ h)
theorem wrd_len {G : Gp} (ho : ovOK G) (as : List Value) : (lg_sl (as.map (cv G))).length = (wrd as).length := by
  induction as with
  | nil => rfl
  | cons a as ih =>
    have e1 : lg_sl ((a :: as).map (cv G)) = (if (cv G a).category = 2 then [Slot.val (cv G a), .second] else [.val (cv G a)]) ++ lg_sl (as.map (cv G)) := rfl
    have e2 : wrd (a :: as) = (if a.category = 2 then [a, un] else [a]) ++ wrd as := rfl
    rw [e1, e2, List.length_append, List.length_append, ih, cv_cat ho]
    by_cases hc : a.category = 2 <;> simp [hc]
theorem ent_LR {G : Gp} (ho : ovOK G) {as : List Value} {nL : Nat} (h : (wrd as).length ≤ nL) : LR G nL (ent nL as) ((lg_sl (as.map (cv G)) ++ List.replicate (nL - (lg_sl (as.map (cv G))).length) Slot.unset).toArray) := by
  have h1 := lv_entry (as.map (cv G)) (n := nL) (by rw [wrd_len ho]; exact h)
  refine ⟨⟨h1.1, h1.2.1, fun q hq => h1.2.2 q ?_⟩, ?_⟩
  · exact wrd_lps ho as 0 _ q hq
  · simp only [ent, List.length_append, List.length_replicate]; omega
theorem met_of {l : Launch} {G : Gp} (hg : gOK G) (ho : ovOK G) {n : Nat} (IH : simP l G n) {d j : Nat} {as : List Value} {h h2 : Hp} {r : Option Value} (hj : j < 221) (hw : (wrd as).length ≤ (mR j).2.2.2.1) (he : ex n d j 0 (ent (mR j).2.2.2.1 as) [] h = some (r, h2)) :
    Met l (mR j).2.1 (wsM j) (rmM d (h2.1 - h.1) (h2.2.1 - h.2.1)) (PcM G h as) (QcM G r h2) (h2.1 - h.1) (h2.2.1 - h.2.1) (gA G) := by
  obtain ⟨f1, f2, f3, f4, f5, f6, f7, f8, f9⟩ := mR_facts hj
  obtain ⟨m1, m2⟩ := ex_mono _ _ _ _ _ _ _ _ _ he
  refine Met.ofW (cc := (mR j).2.2.1) (maxL := (mR j).2.2.2.1) (ret := (mR j).2.2.2.2.1) f5 rfl ?_
  intro p e s m args below meth c s₁ B hml hv
  obtain ⟨rfl, hKK, hEX, hWd⟩ := hv
  have hts := atoms_spec (ws := wsM j) B.pre
  have hown : s.vm.findClass (oN (mR j).1) = some m.cls := by rw [f6]; exact findClass_of_methodNamed B.named
  have hlocks := B.notSynchronized
  have hr := B.returns
  rw [lg_entry_eq]
  have hh := IH d j 0 _ [] h r h2 he (p := p) (e := e) (R := rmM d (h2.1 - h.1) (h2.2.1 - h.2.1)) (s := s) (m := m) (args := (as.map (cv G)).toArray) (below := below) (meth := meth) (c := c) (n0 := h.1) (s0 := h.2.1) (Q := MQ below (QcM G r h2) (as.map (cv G)).toArray s (h2.1 - h.1) (h2.2.1 - h.2.1) (gA G))
    ⟨B.exec, B.bytes, hml, hown, fun w hw => hts w (List.mem_cons_of_mem _ hw), hKK, hEX, fun hn => by rw [(name_of_methodNamed B.named B.method).1]; exact hn, Nat.le_refl _, Nat.le_refl _, hg, ho⟩
    (by show h2.1 ≤ (h2.1 - h.1) + h.1; omega) (by show h2.2.1 ≤ (h2.2.1 - h.2.1) + h.2.1; omega) ?_ s.heap [] 0 0 _ ⟨Nat.zero_add _, Nat.zero_add _, ent_LR ho hw, hWd, va_S.rf⟩
  · exact hh
  · intro H locs cells slots pc arr st I hc hs hW hS hd hret
    obtain rfl : cells = h2.1 - h.1 := by omega
    obtain rfl : slots = h2.2.1 - h.2.1 := by omega
    rcases hret with ⟨rfl, x, ty, rfl, hty, hn, rfl⟩ | ⟨rfl, x, rfl, hty, rfl⟩ | ⟨rfl, x, nm, rfl, hty, rfl⟩ | ⟨rfl, rfl, hty, rfl⟩
    · exact W.zret (v := x) B.exec B.bytes (by rw [hr]; exact hty) hn (fun t ht hW2 => ⟨rfl, by rw [ht]; exact hW.moved hW2.alike, hS.F ht⟩) hS.2.2 hd
    · exact W.lret (v := x) B.exec B.bytes (by rw [hr]; exact hty) (fun t ht hW2 => ⟨rfl, by rw [ht]; exact hW.moved hW2.alike, hS.F ht⟩) hS.2.2 hd
    · exact W.aret (v := .ref (gad G x)) B.exec B.bytes (by rw [hr]; exact hty) (Or.inl ⟨nm, rfl⟩) (Or.inr ⟨_, rfl⟩) (fun t ht hW2 => ⟨rfl, by rw [ht]; exact hW.moved hW2.alike, hS.F ht⟩) hS.2.2 hd
    · exact W.vret B.exec B.bytes (by rw [hr]; exact hty) (fun t ht hW2 => ⟨rfl, by rw [ht]; exact hW.moved hW2.alike, hS.F ht⟩) hS.2.2 hd
