/-! the same for calls and switches, with the callee's row at hand -/
theorem cod_of {mi pc : Nat} {b : ByteArray} {I : Instr} {len : Nat} (hb : (mR mi).2.2.1 = b) (hd : decode b pc = .ok (I, len)) : cod mi pc = some (I, len) := by
  unfold cod
  rw [hb, hd]
section TQ
variable {d mi pc : Nat} {ls st : List Value} {h : Hp} {Q : Pst}
theorem T_iconstV {n : Int} {v : Int32} (hc : cod mi pc = some (.iconst n, 1)) (hv : Int32.ofInt n = v) : T d mi pc ls st h Q ↔ T d mi (pc + 1) ls (.int v :: st) h Q := by
  subst hv; exact T_iconst hc
theorem T_bipushV {n : Int} {v : Int32} (hc : cod mi pc = some (.bipush n, 2)) (hv : (Int8.ofInt n).toInt32 = v) : T d mi pc ls st h Q ↔ T d mi (pc + 2) ls (.int v :: st) h Q := by
  subst hv; exact T_bipush hc
theorem T_sipushV {n : Int} {v : Int32} (hc : cod mi pc = some (.sipush n, 3)) (hv : (Int16.ofInt n).toInt32 = v) : T d mi pc ls st h Q ↔ T d mi (pc + 3) ls (.int v :: st) h Q := by
  subst hv; exact T_sipush hc
theorem T_lconstV {n : Fin 2} {v : Int64} (hc : cod mi pc = some (.lconst n, 1)) (hv : Int64.ofNat (n : Nat) = v) : T d mi pc ls st h Q ↔ T d mi (pc + 1) ls (.long v :: st) h Q := by
  subst hv; exact T_lconst hc
theorem T_iincV {k : Nat} {n : Int} {x v : Int32} {L : List Value} (hc : cod mi pc = some (.iinc k n, 3)) (hg : getL ls k = .int x) (hl : k < ls.length) (hv : Int32.ofInt n = v) (hL : stL ls k (.int (x + v)) = L) : T d mi pc ls st h Q ↔ T d mi (pc + 3) L st h Q := by
  subst hv hL; exact T_iinc hc hg hl
theorem T_staticR {k kind j : Nat} {as r : List Value} {L : List Value} {M M2 : mRow} (hR2 : mR mi = M2) (hR : mR j = M) (hc : cod mi pc = some (.invokestatic k, 3)) (hm : ml M2.1 k = some (kind, j)) (hk : kind = 0 ∨ kind = 3) (hn : as.length = M.2.2.2.2.2) (h45 : M.2.2.2.1 ≤ 45) (hst : st = as.reverse ++ r) (hw : (wrd as).length ≤ M.2.2.2.1) (hs : stk r ≤ 8) (hL : ent M.2.2.2.1 as = L) : T (d + 1) mi pc ls st h Q ↔ T d j 0 L [] h (fun x h2 => T (d + 1) mi (pc + 3) ls (rl x r) h2 Q) := by
  subst hR hR2; exact T_static hc hm hk hn h45 hst hw hs hL
theorem T_specialR {k kind j a : Nat} {as r : List Value} {L : List Value} {M M2 : mRow} (hR2 : mR mi = M2) (hR : mR j = M) (hc : cod mi pc = some (.invokespecial k, 3)) (hm : ml M2.1 k = some (kind, j)) (hk : kind = 2 ∨ kind = 5) (hn : as.length = M.2.2.2.2.2) (h45 : M.2.2.2.1 ≤ 45) (hst : st = as.reverse ++ .ref a :: r) (hw : (wrd (.ref a :: as)).length ≤ M.2.2.2.1) (hs : stk r ≤ 8) (hL : ent M.2.2.2.1 (.ref a :: as) = L) : T (d + 1) mi pc ls st h Q ↔ T d j 0 L [] h (fun x h2 => T (d + 1) mi (pc + 3) ls (rl x r) h2 Q) := by
  subst hR hR2; exact T_special hc hm hk hn h45 hst hw hs hL
theorem T_virtualR {k j a c0 : Nat} {as r : List Value} {L : List Value} {M M2 : mRow} (hR2 : mR mi = M2) (hR : mR j = M) (hc : cod mi pc = some (.invokevirtual k, 3)) (hm : ml M2.1 k = some (1, j)) (hn : as.length = M.2.2.2.2.2) (h45 : M.2.2.2.1 ≤ 45) (hst : st = as.reverse ++ .ref a :: r) (hw : (wrd (.ref a :: as)).length ≤ M.2.2.2.1) (hs : stk r ≤ 8) (hL : ent M.2.2.2.1 (.ref a :: as) = L) (hcl : c0 = 100 ∧ M.2.1.cls = "java/lang/String" ∨ c0 < 8 ∧ clR c0 = M.2.1.cls) (ho : isO (h.2.2 a) c0) : T (d + 1) mi pc ls st h Q ↔ T d j 0 L [] h (fun x h2 => T (d + 1) mi (pc + 3) ls (rl x r) h2 Q) := by
  subst hR hR2; exact T_virtual hc hm hn h45 hst hw hs hL hcl ho
theorem T_getfieldR {k a c j : Nat} {M : mRow} (hR : mR mi = M) (hc : cod mi pc = some (.getfield k, 3)) (hf : fl M.1 k = some (c, j)) : T d mi pc ls (.ref a :: st) h Q ↔ gF (h.2.2 a) c j (fun v => T d mi (pc + 3) ls (v :: st) h Q) := by
  subst hR; exact T_getfield hc hf
theorem T_putfieldR {k a c j : Nat} {v : Value} {M : mRow} (hR : mR mi = M) (hc : cod mi pc = some (.putfield k, 3)) (hf : fl M.1 k = some (c, j)) (hi : (!(clT c j).2.2.2 || (M.2.1.name == "<init>" && (clT c j).1 == oN M.1)) = true) : T d mi pc ls (v :: .ref a :: st) h Q ↔ pF (h.2.2 a) c j v (fun cell => T d mi (pc + 3) ls st (hup h a cell) Q) := by
  subst hR; exact T_putfield hc hf hi
theorem T_ldcR {k : Nat} {v : Int32} {M : mRow} (hR : mR mi = M) (hc : cod mi pc = some (.ldc k, 2)) (hv : ic M.1 k = some v) : T d mi pc ls st h Q ↔ T d mi (pc + 2) ls (.int v :: st) h Q := by
  subst hR; exact T_ldc hc hv
theorem T_ldcsR {k i : Nat} {M : mRow} (hR : mR mi = M) (hc : cod mi pc = some (.ldc k, 2)) (hn : ic M.1 k = none) (hv : sc M.1 k = some i) : T d mi pc ls st h Q ↔ T d mi (pc + 2) ls (.ref (1 + i) :: st) h Q := by
  subst hR; exact T_ldcs hc hn hv
theorem T_ldc_wR {k : Nat} {v : Int32} {M : mRow} (hR : mR mi = M) (hc : cod mi pc = some (.ldc_w k, 3)) (hv : ic M.1 k = some v) : T d mi pc ls st h Q ↔ T d mi (pc + 3) ls (.int v :: st) h Q := by
  subst hR; exact T_ldc_w hc hv
theorem T_ldc2_wR {k : Nat} {v : Int64} {M : mRow} (hR : mR mi = M) (hc : cod mi pc = some (.ldc2_w k, 3)) (hv : lc M.1 k = some v) : T d mi pc ls st h Q ↔ T d mi (pc + 3) ls (.long v :: st) h Q := by
  subst hR; exact T_ldc2_w hc hv
theorem T_newR {k c n : Nat} {M : mRow} (hR : mR mi = M) (hc : cod mi pc = some (.new k, 3)) (hn : nw M.1 k = some (c, n)) (h8 : c < 8 ∧ n = clN c) : T d mi pc ls st h Q ↔ T d mi (pc + 3) ls (.ref h.1 :: st) (hnew h n (oO c (dfl c))) Q := by
  subst hR; exact T_new hc hn h8
theorem T_anewR {k : Nat} {x : Int32} {M : mRow} (hR : mR mi = M) (hc : cod mi pc = some (.anewarray k, 3)) (hn : an M.1 k = some 5) : T d mi pc ls (.int x :: st) h Q ↔ ((0 ≤ x.toInt ∧ x.toInt ≤ 100000) ∧ T d mi (pc + 3) ls (.ref h.1 :: st) (hnew h x.toNatClampNeg (oQ x.toNatClampNeg fun _ => none)) Q) := by
  subst hR; exact T_anew hc hn
theorem T_maxR {k j : Nat} {x y : Int32} {M : mRow} (hR : mR mi = M) (hc : cod mi pc = some (.invokestatic k, 3)) (hm : ml M.1 k = some (6, j)) (hs : stk st ≤ 8) : T (d + 1) mi pc ls (.int y :: .int x :: st) h Q ↔ T (d + 1) mi (pc + 3) ls (.int (if x < y then y else x) :: st) h Q := by
  subst hR; exact T_max hc hm hs
theorem T_minR {k j : Nat} {x y : Int32} {M : mRow} (hR : mR mi = M) (hc : cod mi pc = some (.invokestatic k, 3)) (hm : ml M.1 k = some (7, j)) (hs : stk st ≤ 8) : T (d + 1) mi pc ls (.int y :: .int x :: st) h Q ↔ T (d + 1) mi (pc + 3) ls (.int (if y < x then y else x) :: st) h Q := by
  subst hR; exact T_min hc hm hs
theorem T_objinitR {k j a : Nat} {M : mRow} (hR : mR mi = M) (hc : cod mi pc = some (.invokespecial k, 3)) (hm : ml M.1 k = some (9, j)) (hs : stk st ≤ 8) : T (d + 1) mi pc ls (.ref a :: st) h Q ↔ T (d + 1) mi (pc + 3) ls st h Q := by
  subst hR; exact T_objinit hc hm hs
theorem T_arcR {k j a0 a1 : Nat} {sp dp n : Int32} {M : mRow} (hR : mR mi = M) (hc : cod mi pc = some (.invokestatic k, 3)) (hm : ml M.1 k = some (8, j)) (hs : stk st ≤ 8) : T (d + 1) mi pc ls (.int n :: .int dp :: .ref a1 :: .int sp :: .ref a0 :: st) h Q ↔ cpO (h.2.2 a0) (h.2.2 a1) sp dp n (fun c => T (d + 1) mi (pc + 3) ls st (hup h a1 c) Q) := by
  subst hR; exact T_arc hc hm hs
theorem T_iretR {x : Int32} {M : mRow} (hR : mR mi = M) (hc : cod mi pc = some (.ireturn, 1)) (hr : M.2.2.2.2.1 = some .int) : T d mi pc ls [.int x] h Q ↔ Q (some (.int x)) h := by
  subst hR; rw [T_ireturn hc hr]; exact ⟨fun z => z.2, fun z => ⟨rfl, z⟩⟩
theorem T_zretR {x : Int32} {ty : FieldType} {M : mRow} (hR : mR mi = M) (hc : cod mi pc = some (.ireturn, 1)) (hr : M.2.2.2.2.1 = some ty) : T d mi pc ls [.int x] h Q ↔ (narrow ty (.int x) = .int x ∧ Q (some (.int x)) h) := by
  subst hR; exact T_ireturn hc hr
theorem T_lretR {x : Int64} {M : mRow} (hR : mR mi = M) (hc : cod mi pc = some (.lreturn, 1)) (hr : M.2.2.2.2.1 = some .long) : T d mi pc ls [.long x] h Q ↔ Q (some (.long x)) h := by
  subst hR; exact T_lreturn hc hr
theorem T_aretR {x : Nat} {nm : String} {M : mRow} (hR : mR mi = M) (hc : cod mi pc = some (.areturn, 1)) (hr : M.2.2.2.2.1 = some (.object nm)) : T d mi pc ls [.ref x] h Q ↔ Q (some (.ref x)) h := by
  subst hR; exact T_areturn hc hr
theorem T_retR {M : mRow} (hR : mR mi = M) (hc : cod mi pc = some (.return_, 1)) (hr : M.2.2.2.2.1 = none) : T d mi pc ls [] h Q ↔ Q none h := by
  subst hR; exact T_return hc hr
/-- a switch over lo, lo + 1 .. -/
def swT (K : Nat → Prop) (x : Int) : Int → List Nat → Nat → Prop
  | _, [], td => K td
  | lo, t :: ts, td => if x = lo then K t else swT K x (lo + 1) ts td
theorem swT_out (K : Nat → Prop) (x : Int) (td : Nat) : ∀ (ts : List Nat) (lo : Int), x < lo ∨ lo + ts.length ≤ x → (swT K x lo ts td ↔ K td) := by
  intro ts
  induction ts with
  | nil => intro lo _; exact Iff.rfl
  | cons t ts ih =>
    intro lo hx
    simp only [List.length_cons] at hx
    unfold swT
    rw [if_neg (by omega)]
    exact ih _ (by omega)
theorem swT_in (K : Nat → Prop) (x : Int) (td : Nat) : ∀ (ts : List Nat) (lo : Int) (t : Nat), lo ≤ x → ts[(x - lo).toNat]? = some t → (swT K x lo ts td ↔ K t) := by
  intro ts
  induction ts with
  | nil => intro lo t _ h; simp at h
  | cons a ts ih =>
    intro lo t hx h
    unfold swT
    by_cases e : x = lo
    · subst e
      simp at h
      rw [if_pos rfl, h]
    · rw [if_neg e]
      refine ih (lo + 1) t (by omega) ?_
      rw [show (x - lo).toNat = (x - (lo + 1)).toNat + 1 by omega, List.getElem?_cons_succ] at h
      exact h
theorem T_tsw {dflt lo hi : Int} {offs : Array Int} {len td : Nat} {ts : List Nat} {x : Int32} (hc : cod mi pc = some (.tableswitch dflt lo hi offs, len)) (ht : offs.toList = ts.map (fun t : Nat => (t : Int) - (pc : Int))) (hd : (pc : Int) + dflt = (td : Int)) (hh : hi = lo + ts.length - 1) : T d mi pc ls (.int x :: st) h Q ↔ swT (fun t => T d mi t ls st h Q) x.toInt lo ts td := by
  rw [T_tswi hc, TA_if]
  by_cases q : x.toInt < lo ∨ hi < x.toInt
  · rw [if_pos q, go_eq hd, swT_out _ _ _ _ _ (by omega)]
    rfl
  · rw [if_neg q]
    have h1 : (x.toInt - lo).toNat < ts.length := by omega
    have h2 : offs[(x.toInt - lo).toNat]? = some ((ts[(x.toInt - lo).toNat] : Int) - pc) := by
      rw [← Array.getElem?_toList, ht, List.getElem?_map, List.getElem?_eq_getElem h1]
      rfl
    rw [h2, swT_in _ _ _ _ _ ts[(x.toInt - lo).toNat] (by omega) (List.getElem?_eq_getElem h1)]
    simp only
    rw [go_eq (t := ts[(x.toInt - lo).toNat]) (by omega)]
    rfl
end TQ
