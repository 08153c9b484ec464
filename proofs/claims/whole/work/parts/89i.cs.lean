/-! the law's loop to its end -/
theorem swT_all {K : Nat → Prop} {x : Int} {td : Nat} (h2 : K td) : ∀ (ts : List Nat) (lo : Int), (∀ t, t ∈ ts → K t) → swT K x lo ts td := by
  intro ts
  induction ts with
  | nil => intro lo _; exact h2
  | cons t ts ih =>
    intro lo h
    unfold swT
    split
    · exact h t List.mem_cons_self
    · exact ih _ fun t ht => h t (List.mem_cons_of_mem _ ht)
theorem lw_lt {L i : Nat} (hL : L ≤ 384) (hi : i ≤ 400) : (Int32.ofNat L - 6 < nI i) ↔ L < i + 6 := by
  rw [i32_lt, Int32.toInt_sub, show (6 : Int32).toInt = 6 by decide, Int32.toInt_ofNat_of_lt (show L < 2 ^ 31 by omega), show (nI i).toInt = i from Int32.toInt_ofNat_of_lt (show i < 2 ^ 31 by omega), Int.bmod_eq_of_le (by omega) (by omega)]
  omega
theorem LC_all (p1 : LC 333) (p2 : LC 758) : ∀ t, t ∈ [208, 231, 264, 297, 320, 333, 346, 379, 402, 425, 448, 461, 494, 527, 560, 593, 626, 659, 692, 715, 758, 781, 834, 867, 890, 943, 1006, 1029, 1052, 1075, 1098, 1121, 1174, 1207, 1240, 1264, 1287, 1310, 1333, 1356] → LC t := by
  simp only [List.forall_mem_cons]
  exact ⟨LC_uplands, LC_guest, LC_house, LC_type, LC_clear, p1, LC_calls, LC_leaves, LC_wets, LC_evenings, LC_undo, LC_of, LC_about, LC_great, LC_stays, LC_then, LC_when, LC_most, LC_round, LC_mesh, p2, LC_seen, LC_sizes, LC_tell, LC_note, LC_mark, LC_forget, LC_is, LC_look, LC_kinds, LC_ask, LC_rivals, LC_rain, LC_years, LC_part, LC_image, LC_from, LC_status, LC_count, LC_digest, fun _ h => nomatch h⟩
theorem law_head (p1 : LC 333) (p2 : LC 758) {d L : Nat} {xs : Nat → Int32} {Q : Pst} (hL : L ≤ 384) (hQ : ∀ h2, Iv L xs h2 → Q (some (.int 1)) h2) : ∀ (n i : Nat) (h : Hp), L - i < n → i ≤ 390 → Iv L xs h → T (d + 30) 221 18 [.ref 0, .ref 13, .ref 58, .int (nI i)] [] h Q := by
  intro n
  induction n with
  | zero => intro i h h1; omega
  | succ n ih =>
    intro i h h1 h3 I
    have i1 := I.1.1
    have cn : ∀ K : Nat → Prop, cN (.inl (3, L, xs)) K ↔ K L := fun K => Iff.rfl
    by_cases q : L < i + 6
    · simp (disch := first | assumption | omega) only [t221_18, t221_19, t221_20, t221_21, t221_23, t221_24, i1, cn, lw_lt hL (show i ≤ 400 by omega), q, if_true, t221_1376, t221_1377]
      exact ⟨rfl, hQ h I⟩
    · have go : ∀ h2, Iv L xs h2 → T (d + 30) 221 1370 [.ref 0, .ref 13, .ref 58, .int (nI i)] [] h2 Q := fun h2 I2 => by
        simp only [t221_1370, t221_1373, kil_i, nl_add]
        exact ih (i + 6) h2 (by omega) (by omega) I2
      simp (disch := first | assumption | omega) only [t221_18, t221_19, t221_20, t221_21, t221_23, t221_24, i1, cn, lw_lt hL (show i ≤ 400 by omega), q, if_false, t221_27, t221_28, t221_29, aL_3n, t221_30, t221_32, t221_33]
      exact swT_all (K := fun t => T (d + 30) 221 t [.ref 0, .ref 13, .ref 58, .int (nI i)] [] h Q) (go h I) _ _ fun t ht => LC_all p1 p2 t ht d L xs i h Q (by omega) hL I go
