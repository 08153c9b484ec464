/-! the tables held against the law's words; worlds: what heap a numbered heap stands for -/
def tblG : List Cond := lw_tbl.filter goodWord
theorem tblG_in : ∀ w ∈ tblG, w ∈ lw_tbl := fun _ h => (List.mem_filter.mp h).1
theorem tblG_good {ws : List Cond} (h : ∀ w ∈ ws, w ∈ tblG) {Ts : List Cond} (hT : ∀ w ∈ tblG, w ∈ Ts) : GoodIn Ts ws := fun w hw => ⟨hT w (h w hw), good_of_word (List.mem_filter.mp (h w hw)).2⟩
def atT (p : Nat) (w : Cond) : Bool := decide (lw_tbl[p]? = some w) && goodWord w
theorem atT_in {p : Nat} {w : Cond} (h : atT p w = true) : w ∈ tblG := by
  simp only [atT, Bool.and_eq_true, decide_eq_true_eq] at h
  exact List.mem_filter.mpr ⟨List.mem_of_getElem? h.1, h.2⟩
def mOK (e : mRow × (Nat × Nat × Nat × Nat × Nat)) : Bool :=
  atT e.2.2.2.1 (.initialized e.1.2.1.cls) && atT e.2.2.2.2.1 (if e.2.1 = 0 then .static e.1.2.1 else .instanceMethod e.1.2.1) && (e.2.1 != 1 || atT e.2.2.2.2.2 (.selects e.1.2.1.cls e.1.2.1 e.1.2.1)) && plainName e.1.2.1.cls && decide (oN e.1.1 = e.1.2.1.cls) && decide (e.1.2.1.cls ≠ "java/lang/invoke/MethodHandle" ∧ e.1.2.1.cls ≠ "java/lang/invoke/VarHandle") && decide ((parseMethodDescriptor e.1.2.1.desc).map (fun d => d.parameters.length) = some e.1.2.2.2.2.2) && (e.2.1 != 2 || decide (e.1.2.1.name = "<init>"))
set_option maxRecDepth 100000 in
theorem mtab_ok : (mtab.zip mpos).all mOK = true := by decide +kernel
def mlOK (e : Nat × Nat × Nat × Nat × Nat) : Bool := match e with
  | (o, idx, k, j, p) => if k = 9 then atT p (.methodLink (oN o) idx objectInit) else if k = 8 then atT p (.methodLink (oN o) idx arraycopyName) else if k = 6 then atT p (.methodLink (oN o) idx Lib.Math.max.name) else if k = 7 then atT p (.methodLink (oN o) idx Lib.Math.min.name) else
    decide (j < 221) && decide ((mpos.getD j (7, 0, 0, 0, 0)).1 = k % 3) && (if k < 3 then atT p (.methodLink (oN o) idx (mR j).2.1) else decide ((o, idx, j, p) ∈ nsT)) && decide (k < 6) && (k != 0 || true)
set_option maxRecDepth 100000 in
theorem mlT_ok : mlT.all mlOK = true := by decide +kernel
def flOK (e : Nat × Nat × Nat × Nat × Nat) : Bool := match e with
  | (o, idx, c, k, p) => atT p (.fieldLink (oN o) idx (clT c k).1 (clT c k).2.1 (clT c k).2.2.1) && decide (c < 8) && decide (k < clN c)
set_option maxRecDepth 100000 in
theorem flT_ok : flT.all flOK = true := by decide +kernel
def nwOK (e : Nat × Nat × Nat × Nat × Nat × Nat × Nat) : Bool := match e with
  | (o, idx, c, n, p, p2, p3) => atT p (.classLink (oN o) idx (clR c)) && atT p2 (.instantiable (clR c) n) && atT p3 (.initialized (clR c)) && decide (c < 8) && decide (n = clN c)
set_option maxRecDepth 100000 in
theorem nwT_ok : nwT.all nwOK = true := by decide +kernel
set_option maxRecDepth 100000 in
theorem anT_ok : (anT.all fun e => atT e.2.2.2 (.classLink (oN e.1) e.2.1 (clR e.2.2.1)) && decide (e.2.2.1 = 5)) = true := by decide +kernel
set_option maxRecDepth 100000 in
theorem inT_ok : (inT.all fun e => atT e.2.2.2 (.constant (oN e.1) e.2.1 e.2.2.1)) = true := by decide +kernel
set_option maxRecDepth 100000 in
theorem loT_ok : (loT.all fun e => atT e.2.2.2 (.constantLong (oN e.1) e.2.1 e.2.2.1)) = true := by decide +kernel
set_option maxRecDepth 100000 in
theorem clW_ok : ((List.range 8).all fun c => (u_ws (clR c) (clT c) (clN c)).all fun w => fwT.any fun p => atT p w) = true := by decide +kernel
theorem clW_in {c : Nat} (hc : c < 8) : ∀ w ∈ u_ws (clR c) (clT c) (clN c), w ∈ tblG := by
  intro w hw
  have h := List.all_eq_true.mp (List.all_eq_true.mp clW_ok c (List.mem_range.mpr hc)) w hw
  obtain ⟨p, -, hp⟩ := List.any_eq_true.mp h
  exact atT_in hp
theorem cl_ty : ∀ c, c < 8 → ∀ k, k < clN c → parseFieldDescriptor (clT c k).2.2.1 = some (clTy c k) := by
  intro c hc
  match c, hc with
  | 0, _ => exact tyX0_ok
  | 1, _ => exact tyX1_ok
  | 2, _ => exact tyX2_ok
  | 3, _ => exact tyX3_ok
  | 4, _ => exact tyX4_ok
  | 5, _ => exact tyX6_ok
  | 6, _ => exact tyX7_ok
  | 7, _ => exact tyX8_ok
theorem cl_nm : ∀ c, c < 8 → ∀ a, a < clN c → ∀ b, b < clN c → a ≠ b → (clT c a).2.1 ≠ (clT c b).2.1 := by
  intro c hc
  match c, hc with
  | 0, _ => exact nmX0
  | 1, _ => exact nmX1
  | 2, _ => exact nmX2
  | 3, _ => exact nmX3
  | 4, _ => exact nmX4
  | 5, _ => exact nmX6
  | 6, _ => exact nmX7
  | 7, _ => exact nmX8
theorem cl_at : ∀ c, c < 8 → vwCl[c]? = some (clR c, clT c, clN c) := by
  intro c hc
  match c, hc with
  | 0, _ => rfl
  | 1, _ => rfl
  | 2, _ => rfl
  | 3, _ => rfl
  | 4, _ => rfl
  | 5, _ => rfl
  | 6, _ => rfl
  | 7, _ => rfl
theorem find_of {α : Type} {l : List α} {P : α → Bool} {β : Type} {f : α → β} {y : β} (h : (l.find? P).map f = some y) : ∃ e ∈ l, P e = true ∧ f e = y := by
  cases hf : l.find? P with
  | none => rw [hf] at h; cases h
  | some e =>
    rw [hf] at h
    exact ⟨e, List.mem_of_find?_eq_some hf, List.find?_some hf, Option.some.inj h⟩
theorem fl_ok {o idx c k : Nat} (h : fl o idx = some (c, k)) : Cond.fieldLink (oN o) idx (clT c k).1 (clT c k).2.1 (clT c k).2.2.1 ∈ tblG ∧ c < 8 ∧ k < clN c := by
  obtain ⟨⟨o', i', c', k', p⟩, hm, hp, he⟩ := find_of h
  have h1 := List.all_eq_true.mp flT_ok _ hm
  simp only [Bool.and_eq_true, beq_iff_eq] at hp
  simp only [Prod.mk.injEq] at he
  obtain ⟨rfl, rfl⟩ := hp
  obtain ⟨rfl, rfl⟩ := he
  simp only [flOK, Bool.and_eq_true, decide_eq_true_eq] at h1
  exact ⟨atT_in h1.1.1, h1.1.2, h1.2⟩
theorem nw_ok {o idx c n : Nat} (h : nw o idx = some (c, n)) : Cond.classLink (oN o) idx (clR c) ∈ tblG ∧ Cond.instantiable (clR c) n ∈ tblG ∧ Cond.initialized (clR c) ∈ tblG := by
  obtain ⟨⟨o', i', c', n', p, p2, p3⟩, hm, hp, he⟩ := find_of h
  have h1 := List.all_eq_true.mp nwT_ok _ hm
  simp only [Bool.and_eq_true, beq_iff_eq] at hp
  simp only [Prod.mk.injEq] at he
  obtain ⟨rfl, rfl⟩ := hp
  obtain ⟨rfl, rfl⟩ := he
  simp only [nwOK, Bool.and_eq_true, decide_eq_true_eq] at h1
  exact ⟨atT_in h1.1.1.1.1, atT_in h1.1.1.1.2, atT_in h1.1.1.2⟩
theorem an_ok {o idx c : Nat} (h : an o idx = some c) : Cond.classLink (oN o) idx (clR c) ∈ tblG ∧ c = 5 := by
  obtain ⟨⟨o', i', c', p⟩, hm, hp, he⟩ := find_of h
  have h1 := List.all_eq_true.mp anT_ok _ hm
  simp only [Bool.and_eq_true, beq_iff_eq] at hp
  obtain ⟨rfl, rfl⟩ := hp
  simp only [Bool.and_eq_true, decide_eq_true_eq] at h1
  simp only at he
  subst he
  exact ⟨atT_in h1.1, h1.2⟩
theorem ic_ok {o idx : Nat} {v : Int32} (h : ic o idx = some v) : Cond.constant (oN o) idx v ∈ tblG := by
  obtain ⟨⟨o', i', c', p⟩, hm, hp, he⟩ := find_of h
  have h1 := List.all_eq_true.mp inT_ok _ hm
  simp only [Bool.and_eq_true, beq_iff_eq] at hp
  obtain ⟨rfl, rfl⟩ := hp
  simp only at he
  subst he
  exact atT_in h1
theorem lc_ok {o idx : Nat} {v : Int64} (h : lc o idx = some v) : Cond.constantLong (oN o) idx v ∈ tblG := by
  obtain ⟨⟨o', i', c', p⟩, hm, hp, he⟩ := find_of h
  have h1 := List.all_eq_true.mp loT_ok _ hm
  simp only [Bool.and_eq_true, beq_iff_eq] at hp
  obtain ⟨rfl, rfl⟩ := hp
  simp only at he
  subst he
  exact atT_in h1
theorem sc_ok {o idx i : Nat} (h : sc o idx = some i) : (o, idx, i) ∈ stT := by
  obtain ⟨⟨o', i', j⟩, hm, hp, he⟩ := find_of h
  simp only [Bool.and_eq_true, beq_iff_eq] at hp
  obtain ⟨rfl, rfl⟩ := hp
  simp only at he
  subst he
  exact hm
theorem ml_ok {o idx k j : Nat} (h : ml o idx = some (k, j)) : ∃ p, (o, idx, k, j, p) ∈ mlT ∧ mlOK (o, idx, k, j, p) = true := by
  obtain ⟨⟨o', i', k', j', p⟩, hm, hp, he⟩ := find_of h
  have h1 := List.all_eq_true.mp mlT_ok _ hm
  simp only [Bool.and_eq_true, beq_iff_eq] at hp
  simp only [Prod.mk.injEq] at he
  obtain ⟨rfl, rfl⟩ := hp
  obtain ⟨rfl, rfl⟩ := he
  exact ⟨p, hm, h1⟩
theorem mtab_len : mtab.length = 222 ∧ mpos.length = 221 := by decide +kernel
/-- what holds of a method of ours -/
theorem mR_ok {j : Nat} (hj : j < 221) : mOK (mR j, mpos.getD j (7, 0, 0, 0, 0)) = true := by
  have h1 : j < mtab.length := by rw [mtab_len.1]; omega
  have h2 : j < mpos.length := by rw [mtab_len.2]; exact hj
  have hm : (mR j, mpos.getD j (7, 0, 0, 0, 0)) ∈ mtab.zip mpos := by
    refine List.mem_of_getElem? (i := j) ?_
    simp only [List.getElem?_zip_eq_some, mR, List.getD_eq_getElem?_getD]
    rw [List.getElem?_eq_getElem h1, List.getElem?_eq_getElem h2]
    exact ⟨rfl, rfl⟩
  exact List.all_eq_true.mp mtab_ok _ hm
theorem mR_code {j : Nat} (hj : j < 221) : Cond.code (mR j).2.1 (mR j).2.2.1 (mR j).2.2.2.1 (mR j).2.2.2.2.1 ∈ tblG := by
  have hl : cwE.length = 221 := by decide +kernel
  have h1 : j < cwE.length := by rw [hl]; exact hj
  have h2 : mR j = (cwE[j]).1 := by
    simp only [mR, mtab, List.getD_eq_getElem?_getD]
    rw [List.getElem?_append_left (by rw [List.length_map]; exact h1), List.getElem?_map, List.getElem?_eq_getElem h1]
    rfl
  have h3 := cw_ok _ (List.getElem_mem h1)
  rw [h2]
  exact List.mem_filter.mpr ⟨List.mem_of_getElem? h3, rfl⟩
theorem fs_value : Cond.fieldLink (oN 10) 9 "java/lang/String" "value" "[B" ∈ tblG := atT_in (p := 1287) (by decide +kernel)
theorem fs_coder : Cond.fieldLink (oN 10) 15 "java/lang/String" "coder" "B" ∈ tblG := atT_in (p := 1288) (by decide +kernel)
theorem fs_compact : Cond.fieldLink (oN 10) 38 "java/lang/String" "COMPACT_STRINGS" "Z" ∈ tblG := atT_in (p := 384) (by decide +kernel)
theorem fs_sio : Cond.fieldLink (oN 10) 1053 "jdk/internal/util/Preconditions" "SIOOBE_FORMATTER" "Ljava/util/function/BiFunction;" ∈ tblG := atT_in (p := 400) (by decide +kernel)
theorem aw_int : Cond.arrayClass .int ∈ tblG := atT_in (p := 97) (by decide +kernel)
theorem aw_boolean : Cond.arrayClass .boolean ∈ tblG := atT_in (p := 935) (by decide +kernel)
theorem mx_stat : Cond.static Lib.Math.max.name ∈ tblG := atT_in (p := 80) (by decide +kernel)
theorem mn_stat : Cond.static Lib.Math.min.name ∈ tblG := atT_in (p := 439) (by decide +kernel)
theorem mx_ini : Cond.initialized "java/lang/Math" ∈ tblG := atT_in (p := 46) (by decide +kernel)
theorem mx_code : Cond.code Lib.Math.max.name Lib.Math.max.code 2 (some .int) ∈ tblG := atT_in (p := 81) (by decide +kernel)
theorem mn_code : Cond.code Lib.Math.min.name Lib.Math.min.code 2 (some .int) ∈ tblG := atT_in (p := 440) (by decide +kernel)
theorem ob_inst : Cond.instanceMethod objectInit ∈ tblG := atT_in (p := 65) (by decide +kernel)
theorem ob_code : Cond.code objectInit ⟨#[0xb1]⟩ 1 none ∈ tblG := atT_in (p := 66) (by decide +kernel)
theorem sy_nat : Cond.native arraycopyName ∈ tblG := atT_in (p := 443) (by decide +kernel)
theorem sy_stat : Cond.static arraycopyName ∈ tblG := atT_in (p := 442) (by decide +kernel)
theorem sy_ini : Cond.initialized "java/lang/System" ∈ tblG := atT_in (p := 56) (by decide +kernel)
