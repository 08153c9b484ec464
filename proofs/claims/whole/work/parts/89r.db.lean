/-! read: Strings -/
section ST
variable {d : Nat} {h : Hp} {Q : Pst} {ls st : List Value} {a b n : Nat} {f : Nat → Int32} {v w : Value}
theorem T_strF {mi pc k : Nat} (hc : cod mi pc = some (.getfield k, 3)) (ho : (mR mi).1 = 10) (hf : fl 10 k = none) (e : h.2.2 a = oO 100 [v, w]) : T d mi pc ls (.ref a :: st) h Q ↔ if k = 9 then T d mi (pc + 3) ls (v :: st) h Q else if k = 15 then T d mi (pc + 3) ls (w :: st) h Q else False := by
  rw [T_ins hc]
  simp only [stI, ho, hf, e, oO, true_and, TA_if]
  rfl
theorem T_gs38 {mi pc : Nat} (hc : cod mi pc = some (.getstatic 38, 3)) (ho : (mR mi).1 = 10) : T d mi pc ls st h Q ↔ T d mi (pc + 3) ls (.int 1 :: st) h Q := by
  rw [T_ins hc]
  simp only [stI, ho, and_self, if_true]
  rfl
theorem T_gs1053 {mi pc : Nat} (hc : cod mi pc = some (.getstatic 1053, 3)) (ho : (mR mi).1 = 10) : T d mi pc ls st h Q ↔ T d mi (pc + 3) ls (.retAddr 0 :: st) h Q := by
  rw [T_ins hc]
  simp only [stI, ho, show ¬ (1053 : Nat) = 38 by decide, and_false, and_self, if_true, if_false]
  rfl
theorem s214_1 (e : h.2.2 a = oO 100 [v, w]) : T d 214 1 ls (.ref a :: st) h Q ↔ T d 214 4 ls (v :: st) h Q := (T_strF c214_1 (by rw [m214]) (by decide +kernel) e).trans (by simp only [if_true])
theorem s215_8 (e : h.2.2 a = oO 100 [v, w]) : T d 215 8 ls (.ref a :: st) h Q ↔ T d 215 11 ls (v :: st) h Q := (T_strF c215_8 (by rw [m215]) (by decide +kernel) e).trans (by simp only [if_true])
theorem s216_7 (e : h.2.2 a = oO 100 [v, w]) : T d 216 7 ls (.ref a :: st) h Q ↔ T d 216 10 ls (w :: st) h Q := (T_strF c216_7 (by rw [m216]) (by decide +kernel) e).trans (by simp)
theorem s217_7 (e : h.2.2 a = oO 100 [v, w]) : T d 217 7 ls (.ref a :: st) h Q ↔ T d 217 10 ls (w :: st) h Q := (T_strF c217_7 (by rw [m217]) (by decide +kernel) e).trans (by simp)
theorem s216_0 : T d 216 0 ls st h Q ↔ T d 216 3 ls (.int 1 :: st) h Q := T_gs38 c216_0 (by rw [m216])
theorem s217_0 : T d 217 0 ls st h Q ↔ T d 217 3 ls (.int 1 :: st) h Q := T_gs38 c217_0 (by rw [m217])
theorem s218_2 : T d 218 2 ls st h Q ↔ T d 218 5 ls (.retAddr 0 :: st) h Q := T_gs1053 c218_2 (by rw [m218])
theorem s218_5 {a0 a1 : Int32} : T (d + 1) 218 5 ls [.retAddr 0, .int a1, .int a0] h Q ↔ T d 220 0 [.int a0, .int a1, .retAddr 0] [] h (fun x h2 => T (d + 1) 218 8 ls (rl x []) h2 Q) := T_staticR (as := [.int a0, .int a1, .retAddr 0]) (r := []) m218 m220 c218_5 k10_1059 (Or.inl rfl) rfl (by decide) rfl (by simp [wrd, Value.category]) (by simp [stk, Value.category]) rfl
theorem cN_2 {K : Nat → Prop} : cN (.inl (2, n, f)) K ↔ K n := Iff.rfl
theorem sh_0 (x : Int32) : x >>> ((0 : Int32) &&& 31) = x := by simp
theorem nw_b : (narrow .boolean (.int 1) = Value.int 1) = True := by decide
theorem nw_y : (narrow .byte (.int 0) = Value.int 0) = True := by decide
theorem ch_k : ∀ c, c < 128 → ((nI c &&& 255).toUInt32 % 65536).toInt32 = nI c ∧ narrow .char (.int (nI c)) = Value.int (nI c) := by decide +kernel
theorem isO_S (e : h.2.2 a = oO 100 [v, w]) : isO (h.2.2 a) 100 := by rw [e]; exact rfl
theorem E_strLen (e1 : h.2.2 a = oO 100 [.ref b, .int 0]) (e2 : h.2.2 b = .inl (2, n, f)) : T (d + 2) 214 0 [.ref a] [] h Q ↔ Q (some (.int (nI n))) h := by
  have ho := isO_S e1
  simp (disch := first | assumption | decide) only [t214_0, s214_1 e1, t214_4, e2, cN_2, t214_5, t214_6, s216_0, t216_3, t216_6, s216_7 e1, t216_10, t216_14, nw_y, true_and, rl_s, t214_9, sh_0, t214_10, show ¬ (1 : Int32) = 0 by decide, if_false]
  rfl
theorem E_charAt {k c : Nat} (e1 : h.2.2 a = oO 100 [.ref b, .int 0]) (e2 : h.2.2 b = .inl (2, n, f)) (hk : k < n) (hn : n < 2 ^ 30) (hc : c < 128) (ec : f k = nI c) : T (d + 4) 215 0 [.ref a, .int (nI k)] [] h Q ↔ Q (some (.int (nI c))) h := by
  have ho := isO_S e1
  have q1 : ¬ nI k < 0 := fun z => by
    have := i32_lt.mp z
    rw [i32_0, show (nI k).toInt = k from nI_toInt (by omega)] at this
    omega
  have q2 : nI k < Int32.ofNat n := (lt_nn (by omega) (by omega)).mpr hk
  have q3 : ∀ K : Int32 → Prop, bL (.inl (2, n, f)) (nI k) K ↔ K (f k) := fun K => by
    show ((0 ≤ (nI k).toInt ∧ (nI k).toInt < n) ∧ K (f (nI k).toNatClampNeg)) ↔ _
    rw [show (nI k).toInt = k from nI_toInt (by omega), nI_clamp (by omega)]
    exact ⟨fun z => z.2, fun z => ⟨⟨by omega, by omega⟩, z⟩⟩
  simp (disch := first | assumption | decide) only [t215_0, t215_1, s217_0, t217_3, t217_6, s217_7 e1, t217_10, t217_13, t217_14, t217_18, nw_b, true_and, rl_s, t215_4, t215_7, s215_8 e1, t215_11, t215_12, t219_0, t219_1, t219_2, e2, cN_2, t219_3, t218_0, t218_1, s218_2, s218_5, t220_0, t220_1, q1, t220_4, t220_5, t220_6, q2, t220_16, t220_17, t218_8, t218_9, rl_n, t219_6, t219_7, t219_8, q3, ec, t219_9, t219_12, t219_13, (ch_k c hc).1, (ch_k c hc).2, t219_14, t215_15, show ¬ (1 : Int32) = 0 by decide, if_false, if_true, not_true_eq_false, not_false_eq_true]
end ST
