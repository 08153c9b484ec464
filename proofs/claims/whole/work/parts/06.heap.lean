/-! what a numbered heap stands for; how loads and stores move it -/
abbrev Gp : Type := Nat × Nat × (Nat → Nat) × (Nat → Nat) × Value × va_G
def gad (G : Gp) (k : Nat) : Nat := if 13 ≤ k then G.1 + (k - 13) else if k = 0 then G.2.1 else if k < 7 then G.2.2.1 (k - 1) else G.2.2.2.1 (k - 7)
def cv (G : Gp) : Value → Value
  | .ref k => .ref (gad G k)
  | .retAddr _ => G.2.2.2.2.1
  | v => v
abbrev gD (G : Gp) : va_G := G.2.2.2.2.2
def gA (G : Gp) : Nat → Prop := fun q => G.1 ≤ q
def tgT (t : Nat) : FieldType := match t with | 0 => .int | 1 => .boolean | 2 => .byte | _ => .int
def cellOK (G : Gp) (U : State) (i : Nat) (c : AC) (H : Heap) : Prop := match c with
  | .inl (t, n, f) => n < 2 ^ 31 ∧ ((t < 2 ∧ 13 ≤ i ∧ ∃ cA : ClassId, H[gad G i]? = some (arrV cA n (fun j => .int (f j))) ∧ ArrOfT U cA (tgT t)) ∨ (2 ≤ t ∧ ∃ cell : Cell, H[gad G i]? = some cell ∧ U.isArrayOf cell (tgT t) ∧ cell.vm ≠ .unknown ∧ (n ≤ cell.slots.size ∧ cell.slots.size.toInt32 = Int32.ofNat n) ∧ ∀ j, j < n → cell.slots[j]? = some (.int (f j))))
  | .inr (.inl (n, f)) => ∃ (cA : ClassId) (kA : Class) (comp : ClassId), H[gad G i]? = some (arrV cA n (fun j => cv G (va_rf (f j)))) ∧ ArrOfT U cA (.object RX6) ∧ U.vm.classes[cA]? = some kA ∧ kA.kind = .array comp (.object RX6) ∧ U.vm.findClass RX6 = some comp ∧ 13 ≤ i ∧ n < 2 ^ 31
  | .inr (.inr (c, fs)) => (c < 8 ∧ t_OB (gad G i) ((gD G).1 c) (clN c) ((gD G).2 c) H (vp_V (fs.map (cv G))) ∧ 13 ≤ i ∧ fs.length = clN c) ∨ (c = 100 ∧ ∃ k : Nat, k < 6 ∧ i = 1 + k ∧ fs = [.ref (7 + k), .int 0])
theorem cellOK.kept {G : Gp} {U : State} {i : Nat} {c : AC} {H H1 : Heap} (h : cellOK G U i c H) (e : H1[gad G i]? = H[gad G i]?) : cellOK G U i c H1 := by
  rcases c with ⟨t, n, f⟩ | ⟨n, f⟩ | ⟨c, fs⟩
  · obtain ⟨h0, ⟨h1, h2, cA, h3, h4⟩ | ⟨h1, cell, h3, h4⟩⟩ := h
    · exact ⟨h0, Or.inl ⟨h1, h2, cA, by rw [e]; exact h3, h4⟩⟩
    · exact ⟨h0, Or.inr ⟨h1, cell, by rw [e]; exact h3, h4⟩⟩
  · obtain ⟨cA, kA, comp, h1, h2⟩ := h
    exact ⟨cA, kA, comp, by rw [e]; exact h1, h2⟩
  · rcases h with ⟨h1, h2, h3⟩ | h
    · exact Or.inl ⟨h1, h2.kept e, h3⟩
    · exact Or.inr h
theorem cellOK.moved {G : Gp} {U V : State} {i : Nat} {c : AC} {H : Heap} (hvm : U.vm.Alike V.vm) (h : cellOK G U i c H) : cellOK G V i c H := by
  rcases c with ⟨t, n, f⟩ | ⟨n, f⟩ | ⟨c, fs⟩
  · obtain ⟨h0, ⟨h1, h2, cA, h3, h4⟩ | ⟨h1, cell, h3, h4, h5⟩⟩ := h
    · exact ⟨h0, Or.inl ⟨h1, h2, cA, h3, arrOfT_moved hvm h4⟩⟩
    · exact ⟨h0, Or.inr ⟨h1, cell, h3, State.isArrayOf_alike hvm h4, h5⟩⟩
  · obtain ⟨cA, kA, comp, h1, h2, h3, h4, h5, h6⟩ := h
    obtain ⟨k', hk', he⟩ := hvm.2.2 _ _ h3
    exact ⟨cA, k', comp, h1, arrOfT_moved hvm h2, hk', by rw [he]; exact h4, by rw [hvm.findClass]; exact h5, h6⟩
  · exact h
/-- any array of ints, bytes or booleans, as a load sees it -/
theorem cellOK.arr {G : Gp} {U : State} {i t n : Nat} {f : Nat → Int32} {H : Heap} (h : cellOK G U i (.inl (t, n, f)) H) : ∃ cell : Cell, H[gad G i]? = some cell ∧ U.isArrayOf cell (tgT t) ∧ cell.vm ≠ .unknown ∧ (n ≤ cell.slots.size ∧ cell.slots.size.toInt32 = Int32.ofNat n) ∧ ∀ j, j < n → cell.slots[j]? = some (.int (f j)) := by
  obtain ⟨-, ⟨-, -, cA, h3, h4⟩ | ⟨-, h⟩⟩ := h
  · exact ⟨_, h3, h4 n _, (fun q => by cases q), ⟨by rw [arrV_size]; exact Nat.le_refl _, by rw [arrV_size]⟩, fun j hj => arrV_read _ _ hj⟩
  · exact h
theorem cellOK.own {G : Gp} {U : State} {i t n : Nat} {f : Nat → Int32} {H : Heap} (h : cellOK G U i (.inl (t, n, f)) H) (ht : t < 2) : 13 ≤ i ∧ ∃ cA : ClassId, H[gad G i]? = some (arrV cA n (fun j => .int (f j))) ∧ ArrOfT U cA (tgT t) := by
  obtain ⟨-, ⟨-, h2, h⟩ | ⟨h1, -⟩⟩ := h
  · exact ⟨h2, h⟩
  · omega
def jnk : AC := oO 999 []
def Wd (G : Gp) (U : State) (h : Hp) (H : Heap) : Prop := H.size + 13 = G.1 + h.1 ∧ 13 ≤ h.1 ∧ (∀ i, i < h.1 → cellOK G U i (h.2.2 i) H) ∧ ∀ i, h.1 ≤ i → h.2.2 i = jnk
def gOK (G : Gp) : Prop := ∀ i, i < 13 → gad G i < G.1
theorem gad_hi {G : Gp} {i : Nat} (h : 13 ≤ i) : gad G i = G.1 + (i - 13) := by simp [gad, h]
theorem gad_A {G : Gp} {i : Nat} (h : 13 ≤ i) : gA G (gad G i) := by rw [gad_hi h]; exact Nat.le_add_right _ _
theorem gad_ne {G : Gp} (g : gOK G) {i a : Nat} (ha : 13 ≤ a) (hi : i ≠ a) : gad G i ≠ gad G a := by
  by_cases h : 13 ≤ i
  · rw [gad_hi h, gad_hi ha]; omega
  · have := g i (by omega)
    rw [gad_hi ha]; omega
theorem Wd.moved {G : Gp} {U V : State} {h : Hp} {H : Heap} (hvm : U.vm.Alike V.vm) (w : Wd G U h H) : Wd G V h H := ⟨w.1, w.2.1, fun i hi => (w.2.2.1 i hi).moved hvm, w.2.2.2⟩
theorem Wd.cell {G : Gp} {U : State} {h : Hp} {H : Heap} (w : Wd G U h H) {a : Nat} {c : AC} (e : h.2.2 a = c) (hc : c ≠ jnk) : a < h.1 ∧ cellOK G U a c H := by
  have ha : a < h.1 := by
    rcases Nat.lt_or_ge a h.1 with q | q
    · exact q
    · exact absurd (e.symm.trans (w.2.2.2 a q)) hc
  exact ⟨ha, e ▸ w.2.2.1 a ha⟩
theorem Wd.set {G : Gp} (g : gOK G) {U : State} {h : Hp} {H H1 : Heap} (w : Wd G U h H) {a : Nat} {c : AC} (h13 : 13 ≤ a) (ha : a < h.1) (z : H1.size = H.size) (oq : ∀ q, q ≠ gad G a → H1[q]? = H[q]?) (hc : cellOK G U a c H1) : Wd G U (hup h a c) H1 := by
  refine ⟨by rw [z]; exact w.1, w.2.1, fun i hi => ?_, fun i hi => ?_⟩
  · show cellOK G U i (if i = a then c else h.2.2 i) H1
    by_cases e : i = a
    · rw [if_pos e, e]; exact hc
    · rw [if_neg e]; exact (w.2.2.1 i hi).kept (oq _ (gad_ne g h13 e))
  · show (if i = a then c else h.2.2 i) = jnk
    have hi' : h.1 ≤ i := hi
    rw [if_neg (by omega)]
    exact w.2.2.2 i hi'
theorem Wd.new {G : Gp} (g : gOK G) {U : State} {h : Hp} {H H1 : Heap} (w : Wd G U h H) {n : Nat} {c : AC} (z : H1.size = H.size + 1) (oq : ∀ q, q < H.size → H1[q]? = H[q]?) (hc : cellOK G U h.1 c H1) : Wd G U (hnew h n c) H1 := by
  have hsz := w.1
  have h13 := w.2.1
  refine ⟨by rw [z]; show H.size + 1 + 13 = G.1 + (h.1 + 1); omega, by show 13 ≤ h.1 + 1; omega, fun i hi => ?_, fun i hi => ?_⟩
  · show cellOK G U i (if i = h.1 then c else h.2.2 i) H1
    have hi' : i < h.1 + 1 := hi
    by_cases e : i = h.1
    · rw [if_pos e, e]; exact hc
    · rw [if_neg e]
      refine (w.2.2.1 i (by omega)).kept (oq _ ?_)
      by_cases q : 13 ≤ i
      · rw [gad_hi q]; omega
      · have := g i (by omega); omega
  · show (if i = h.1 then c else h.2.2 i) = jnk
    have hi' : h.1 + 1 ≤ i := hi
    rw [if_neg (by omega)]
    exact w.2.2.2 i (by omega)
theorem Wd.top {G : Gp} {U : State} {h : Hp} {H : Heap} (w : Wd G U h H) : gad G h.1 = H.size := by
  have := w.1
  have h2 := w.2.1
  rw [gad_hi h2]; omega
-- locals
def isU : Value → Bool
  | .float _ => true
  | .double _ => true
  | _ => false
def lps (G : Gp) : Nat → List Value → List (Nat × Value)
  | _, [] => []
  | i, v :: l => if isU v = true then lps G (i + 1) l else (i, cv G v) :: lps G (i + 1) l
theorem lps_get {G : Gp} : ∀ (l : List Value) (i k : Nat) (v : Value), getL l k = v → isU v = false → (i + k, cv G v) ∈ lps G i l := by
  intro l
  induction l with
  | nil => intro i k v h hv; subst h; cases hv
  | cons a l ih =>
    intro i k v h hv
    cases k with
    | zero =>
      have h : a = v := h
      subst h
      simp [lps, hv]
    | succ k =>
      have h1 := ih (i + 1) k v h hv
      rw [show i + 1 + k = i + (k + 1) by omega] at h1
      unfold lps
      split
      · exact h1
      · exact List.mem_cons_of_mem _ h1
theorem lps_ge {G : Gp} : ∀ (l : List Value) (i : Nat) (q : Nat × Value), q ∈ lps G i l → i ≤ q.1 := by
  intro l
  induction l with
  | nil => intro i q h; cases h
  | cons a l ih =>
    intro i q h
    unfold lps at h
    split at h
    · have := ih _ _ h; omega
    · rcases List.mem_cons.mp h with rfl | h
      · exact Nat.le_refl _
      · have := ih _ _ h; omega
theorem stL_len : ∀ (l : List Value) (k : Nat) (v : Value), (stL l k v).length = l.length := by
  intro l
  induction l with
  | nil => intro k v; rfl
  | cons a l ih =>
    intro k v
    match k with
    | 0 => rfl
    | 1 => simp [stL, ih]
    | k + 2 => simp [stL, ih]
def ovOK (G : Gp) : Prop := G.2.2.2.2.1 = .null ∨ ∃ t : Nat, G.2.2.2.2.1 = .ref t
theorem cv_cat {G : Gp} (h : ovOK G) (v : Value) : (cv G v).category = v.category := by
  cases v with
  | retAddr x =>
    show (G.2.2.2.2.1).category = 1
    rcases h with h | ⟨t, h⟩ <;> rw [h] <;> rfl
  | _ => rfl
theorem cv_kil {G : Gp} (h : ovOK G) {v : Value} (hu : isU (kil v) = false) : kil v = v ∧ ¬ (cv G v).category = 2 := by
  rw [cv_cat h]
  cases v with
  | double b => exact absurd hu (by simp [kil, isU])
  | long b => exact absurd hu (by simp [kil, isU, un])
  | _ => exact ⟨rfl, by simp [Value.category]⟩
theorem lps_cons {G : Gp} {i : Nat} {a : Value} {l : List Value} {q : Nat × Value} : q ∈ lps G i (a :: l) ↔ (isU a = false ∧ q = (i, cv G a)) ∨ q ∈ lps G (i + 1) l := by
  rw [lps]
  cases h : isU a <;> simp
/-- what a store of an int or a reference leaves -/
theorem lps_st {G : Gp} (ho : ovOK G) : ∀ (l : List Value) (i k : Nat) (v : Value) (q : Nat × Value), q ∈ lps G i (stL l k v) → q = (i + k, cv G v) ∨ (q ∈ lps G i l ∧ q.1 ≠ i + k ∧ ¬ (q.1 + 1 = i + k ∧ q.2.category = 2)) := by
  intro l
  induction l with
  | nil => intro i k v q h; cases h
  | cons a l ih =>
    intro i k v q h
    match k with
    | 0 =>
      rcases lps_cons.mp (show q ∈ lps G i (v :: l) from h) with ⟨-, h⟩ | h
      · exact Or.inl h
      · have h9 := lps_ge _ _ _ h
        exact Or.inr ⟨lps_cons.mpr (Or.inr h), by omega, by omega⟩
    | 1 =>
      rcases lps_cons.mp (show q ∈ lps G i (kil a :: stL l 0 v) from h) with ⟨hu, h⟩ | h
      · obtain ⟨e, h2⟩ := cv_kil ho hu
        rw [e] at h hu
        rw [h]
        exact Or.inr ⟨lps_cons.mpr (Or.inl ⟨hu, rfl⟩), by show i ≠ i + 1; omega, fun z => h2 z.2⟩
      · rcases ih (i + 1) 0 v q h with h1 | ⟨h1, h2, h3⟩
        · exact Or.inl h1
        · have h9 := lps_ge _ _ _ h1
          exact Or.inr ⟨lps_cons.mpr (Or.inr h1), by omega, by omega⟩
    | k + 2 =>
      have e : i + 1 + (k + 1) = i + (k + 2) := by omega
      rcases lps_cons.mp (show q ∈ lps G i (a :: stL l (k + 1) v) from h) with ⟨hu, h⟩ | h
      · rw [h]
        exact Or.inr ⟨lps_cons.mpr (Or.inl ⟨hu, rfl⟩), by show i ≠ i + (k + 2); omega, fun z => by have : i + 1 = i + (k + 2) := z.1; omega⟩
      · rcases ih (i + 1) (k + 1) v q h with h1 | ⟨h1, h2, h3⟩
        · exact Or.inl (by rw [h1, e])
        · exact Or.inr ⟨lps_cons.mpr (Or.inr h1), by omega, by omega⟩
/-- a place is emptied -/
theorem lps_un {G : Gp} : ∀ (l : List Value) (i k : Nat) (q : Nat × Value), q ∈ lps G i (l.set k un) → q ∈ lps G i l ∧ q.1 ≠ i + k := by
  intro l
  induction l with
  | nil => intro i k q h; cases h
  | cons a l ih =>
    intro i k q h
    match k with
    | 0 =>
      rcases lps_cons.mp (show q ∈ lps G i (un :: l) from h) with ⟨hu, h⟩ | h
      · cases hu
      · have h9 := lps_ge _ _ _ h
        exact ⟨lps_cons.mpr (Or.inr h), by omega⟩
    | k + 1 =>
      rcases lps_cons.mp (show q ∈ lps G i (a :: l.set k un) from h) with ⟨hu, h⟩ | h
      · rw [h]
        exact ⟨lps_cons.mpr (Or.inl ⟨hu, rfl⟩), by show i ≠ i + (k + 1); omega⟩
      · obtain ⟨h1, h2⟩ := ih (i + 1) k q h
        exact ⟨lps_cons.mpr (Or.inr h1), by omega⟩
def LR (G : Gp) (nL : Nat) (ls : List Value) (arr : Array Slot) : Prop := lv_has arr nL (lps G 0 ls) ∧ ls.length = nL
theorem LR.get {G : Gp} {nL : Nat} {ls : List Value} {arr : Array Slot} (h : LR G nL ls arr) {k : Nat} {v : Value} (e : getL ls k = v) (hv : isU v = false) : arr[k]? = some (.val (cv G v)) := by
  have h1 := lps_get (G := G) ls 0 k v e hv
  rw [Nat.zero_add] at h1
  exact h.1.2.2 _ h1
theorem LR.st {G : Gp} (ho : ovOK G) {nL : Nat} {ls : List Value} {arr arr1 : Array Slot} (h : LR G nL ls arr) {k : Nat} {v : Value} (h1 : lv_has arr1 nL ((k, cv G v) :: (lps G 0 ls).filter (fun q => !(q.1 == k) && !(q.1 + 1 == k && q.2.category == 2)))) : LR G nL (stL ls k v) arr1 := by
  refine ⟨⟨h1.1, h1.2.1, fun q hq => h1.2.2 q ?_⟩, by rw [stL_len]; exact h.2⟩
  rcases lps_st ho ls 0 k v q hq with e | ⟨e1, e2, e3⟩
  · rw [e, Nat.zero_add]; exact List.mem_cons_self
  · refine List.mem_cons_of_mem _ (List.mem_filter.mpr ⟨e1, ?_⟩)
    simp only [Nat.zero_add] at e2 e3
    simp only [Bool.and_eq_true, Bool.not_eq_true', Bool.and_eq_false_iff, beq_eq_false_iff_ne, ne_eq]
    exact ⟨e2, by
      by_cases z : q.1 + 1 = k
      · exact Or.inr (fun z2 => e3 ⟨z, z2⟩)
      · exact Or.inl z⟩
theorem LR.st2 {G : Gp} (ho : ovOK G) {nL : Nat} {ls : List Value} {arr arr1 : Array Slot} (h : LR G nL ls arr) {k : Nat} {v : Value} (h1 : lv_has arr1 nL ((k, cv G v) :: (lps G 0 ls).filter (fun q => !(q.1 == k) && (!(q.1 == k + 1) && !(q.1 + 1 == k && q.2.category == 2))))) : LR G nL (stL2 ls k v) arr1 := by
  refine ⟨⟨h1.1, h1.2.1, fun q hq => h1.2.2 q ?_⟩, by simp [stL2, stL_len]; exact h.2⟩
  obtain ⟨hq, hn⟩ := lps_un _ _ _ _ hq
  simp only [Nat.zero_add] at hn
  rcases lps_st ho ls 0 k v q hq with e | ⟨e1, e2, e3⟩
  · rw [e, Nat.zero_add]; exact List.mem_cons_self
  · refine List.mem_cons_of_mem _ (List.mem_filter.mpr ⟨e1, ?_⟩)
    simp only [Nat.zero_add] at e2 e3
    simp only [Bool.and_eq_true, Bool.not_eq_true', Bool.and_eq_false_iff, beq_eq_false_iff_ne, ne_eq]
    exact ⟨e2, hn, by
      by_cases z : q.1 + 1 = k
      · exact Or.inr (fun z2 => e3 ⟨z, z2⟩)
      · exact Or.inl z⟩
theorem okv_ok {G : Gp} {ty : FieldType} {v : Value} (h : okv ty v = true) : narrow ty (cv G v) = cv G v ∧ fits ty (cv G v) = true := by
  cases ty <;> cases v <;> first | (simp [okv] at h; done) | exact ⟨rfl, rfl⟩ | skip
  rename_i x
  simp only [okv, Bool.or_eq_true, beq_iff_eq] at h
  rcases h with rfl | rfl <;> exact ⟨rfl, rfl⟩
