/-! how great a part is, how great it must be, which stay, how many -/
def gr (k s p : Int32) : Int32 :=
  if k = 1 then (if s - 2 * p < 1 then 1 else s - 2 * p)
  else if k = 2 then (s + 1) / 2
  else if k = 3 then (if p - p / 2 * 2 = 1 then 0 else (if s - 2 * p < 1 then 1 else s - 2 * p))
  else if k = 4 then s + p
  else if k = 5 then (if 1 < p then 1 else (s + 1) / 2)
  else s
def al1 (v : Int32) : Int32 := if v < 1 then 1 else v
def nd (k m w : Int32) : Int32 :=
  if k = 1 then al1 (m - 3)
  else if k = 2 then m + 4
  else if k = 3 then al1 (al1 (m - 3) - w)
  else if k = 4 then 2 * (m + 4)
  else if k = 5 then (al1 (al1 (m - 3) - w) + 1) / 2
  else m
theorem i32_eq {x y : Int32} : x = y ↔ x.toInt = y.toInt := ⟨fun h => by rw [h], fun h => Int32.toInt_inj.mp h⟩
theorem i32_n {x : Int32} (k : Int) (v : Int32) (hv : v.toInt = k) : x.toInt = k ↔ x = v := by rw [i32_eq, hv]
theorem sw5 (K : Nat → Prop) (x : Int32) (a b c e f td : Nat) : swT K x.toInt 1 [a, b, c, e, f] td ↔ (if x = 1 then K a else if x = 2 then K b else if x = 3 then K c else if x = 4 then K e else if x = 5 then K f else K td) := by
  simp only [swT, i32_n 1 1 rfl, show (1 : Int) + 1 = 2 from rfl, i32_n 2 2 rfl, show (2 : Int) + 1 = 3 from rfl, i32_n 3 3 rfl, show (3 : Int) + 1 = 4 from rfl, i32_n 4 4 rfl, show (4 : Int) + 1 = 5 from rfl, i32_n 5 5 rfl]
theorem sw_0 (K : Nat → Prop) (x : Int32) (a b c e f td : Nat) : swT K x.toInt 0 [a, b, c, e, f] td ↔ (if x = 0 then K a else if x = 1 then K b else if x = 2 then K c else if x = 3 then K e else if x = 4 then K f else K td) := by
  simp only [swT, i32_n 0 0 rfl, show (0 : Int) + 1 = 1 from rfl, i32_n 1 1 rfl, show (1 : Int) + 1 = 2 from rfl, i32_n 2 2 rfl, show (2 : Int) + 1 = 3 from rfl, i32_n 3 3 rfl, show (3 : Int) + 1 = 4 from rfl, i32_n 4 4 rfl]
theorem i32_nl {x y : Int32} : x ≤ y ↔ ¬ y < x := Int32.not_lt.symm
theorem E_greatBy {d : Nat} {k s p : Int32} {h : Hp} {Q : Pst} : T d 152 0 [.int k, .int s, .int p, un] [] h Q ↔ Q (some (.int (gr k s p))) h := by
  have e2 : ¬ (2 : Int32) = 0 := by decide
  simp only [t152_0, t152_1, t152_2, t152_3, t152_4, t152_5, t152_6, t152_9, t152_10, t152_13, t152_14, t152_15, t152_16, t152_17, t152_18, t152_19, t152_20, t152_56, t152_57, t152_58, t152_59, t152_60, t152_61, t152_62, t152_63, t152_64, t152_65, t152_66, t152_67, t152_68, t152_71, t152_72, t152_75, t152_76, t152_77, t152_78, t152_79, t152_80, t152_81, t152_82, t152_83, t152_86, t152_87, t152_90, t152_91, t152_92, t152_93, t152_94, t152_95, t152_96, t152_97, kil_i, kil_u, sw5, gr, e2, not_false_eq_true, true_and, i32_nl, ite_not]
  repeat' split
  all_goals (first | exact Iff.rfl | (subst_vars; simp_all; done))
theorem E_al1 {d : Nat} {v : Int32} {h : Hp} {Q : Pst} : T d 153 0 [.int v] [] h Q ↔ Q (some (.int (al1 v))) h := by
  simp only [t153_0, t153_1, t153_2, t153_5, t153_6, t153_9, t153_10, kil_i, kil_u, al1, i32_nl, ite_not]
  repeat' split
  all_goals exact Iff.rfl
theorem E_needBy {d : Nat} {k m w : Int32} {h : Hp} {Q : Pst} : T (d + 1) 154 0 [.int k, .int m, .int w, un, un] [] h Q ↔ Q (some (.int (nd k m w))) h := by
  have e2 : ¬ (2 : Int32) = 0 := by decide
  simp only [t154_0, t154_1, t154_2, t154_3, t154_6, t154_7, t154_8, t154_9, t154_10, t154_13, t154_15, t154_16, t154_52, t154_53, t154_54, t154_55, t154_56, t154_57, t154_58, t154_60, t154_61, t154_62, t154_63, t154_64, t154_65, t154_66, t154_67, t154_69, t154_70, t154_71, t154_72, t154_73, t154_74, t154_75, E_al1, rl_s, kil_i, kil_u, sw5, nd, e2, not_false_eq_true, true_and]
  repeat' split
  all_goals exact Iff.rfl
set_option maxRecDepth 100000 in
theorem ps_eq : ∀ s, s < 64 → ∀ p, p < 5 → ((if 2 * nI p < nI s then nI s - 2 * nI p else 1) = (if nI s - 2 * nI p < 1 then 1 else nI s - 2 * nI p)) := by decide +kernel
theorem E_partSize {d s p : Nat} {k : Int32} {h : Hp} {Q : Pst} (hs : s < 64) (hp : p < 5) : T d 49 0 [.int k, .int (nI s), .int (nI p), un, un, un] [] h Q ↔ Q (some (.int (gr k (nI s) (nI p)))) h := by
  have e2 : ¬ (2 : Int32) = 0 := by decide
  have e := ps_eq s hs p hp
  have e3 : (2 : Int32) ≤ nI p ↔ 1 < nI p := by
    rw [i32_le, i32_lt, nI_toInt (by omega)]
    show (2 : Int) ≤ p ↔ (1 : Int) < p
    omega
  simp only [t49_0, t49_1, t49_2, t49_3, t49_4, t49_5, t49_6, t49_9, t49_10, t49_11, t49_12, t49_13, t49_14, t49_17, t49_18, t49_20, t49_21, t49_22, t49_23, t49_24, t49_25, t49_27, t49_28, t49_64, t49_66, t49_67, t49_69, t49_70, t49_71, t49_72, t49_73, t49_74, t49_77, t49_78, t49_81, t49_83, t49_84, t49_85, t49_86, t49_87, t49_88, t49_89, t49_90, t49_93, t49_94, t49_97, t49_99, t49_100, t49_101, kil_i, kil_u, sw5, gr, e2, not_false_eq_true, true_and, ← e, i32_nl (x := nI s), ite_not]
  simp only [i32_nl, ite_not] at e3 ⊢
  repeat' split
  all_goals (first | exact Iff.rfl | (subst_vars; simp_all; done))
set_option maxRecDepth 100000 in
theorem ls_eq : ∀ m, m < 64 → ((if 3 < nI m then nI m - 3 else 1) = al1 (nI m - 3)) := by decide +kernel
set_option maxRecDepth 100000 in
theorem ls_eq2 : ∀ m, m < 64 → ∀ w, w < 8 → ((if nI w < (if 3 < nI m then nI m - 3 else 1) then (if 3 < nI m then nI m - 3 else 1) - nI w else 1) = al1 (al1 (nI m - 3) - nI w)) := by decide +kernel
theorem E_least {d m w : Nat} {k : Int32} {h : Hp} {Q : Pst} (hm : m < 64) (hw : w < 8) : T d 50 0 [.int k, .int (nI m), .int (nI w), un, un, un, un] [] h Q ↔ Q (some (.int (nd k (nI m) (nI w)))) h := by
  have e2 : ¬ (2 : Int32) = 0 := by decide
  have e := ls_eq m hm
  have e1 := ls_eq2 m hm w hw
  simp only [t50_0, t50_1, t50_2, t50_3, t50_4, t50_7, t50_8, t50_9, t50_10, t50_13, t50_14, t50_16, t50_17, t50_18, t50_19, t50_21, t50_23, t50_24, t50_27, t50_29, t50_30, t50_31, t50_34, t50_35, t50_37, t50_38, t50_72, t50_74, t50_75, t50_77, t50_78, t50_80, t50_81, t50_82, t50_84, t50_85, t50_86, t50_88, t50_89, t50_90, t50_91, t50_92, t50_93, t50_94, kil_i, kil_u, sw5, nd, e2, not_false_eq_true, true_and, i32_nl, ite_not]
  by_cases h1 : 3 < nI m
  · rw [if_pos h1] at e e1
    simp only [if_pos h1]
    by_cases h2 : nI w < nI m - 3
    · rw [if_pos h2] at e1
      rw [← e] at e1
      simp only [if_pos h2, ← e, ← e1]
      repeat' split
      all_goals exact Iff.rfl
    · rw [if_neg h2] at e1
      rw [← e] at e1
      simp only [if_neg h2, ← e, ← e1]
      repeat' split
      all_goals exact Iff.rfl
  · rw [if_neg h1] at e e1
    simp only [if_neg h1]
    by_cases h2 : nI w < 1
    · rw [if_pos h2] at e1
      rw [← e] at e1
      simp only [if_pos h2, ← e, ← e1]
      repeat' split
      all_goals exact Iff.rfl
    · rw [if_neg h2] at e1
      rw [← e] at e1
      simp only [if_neg h2, ← e, ← e1]
      repeat' split
      all_goals exact Iff.rfl
/-- the parts that stay, as bits: one more -/
def st1 (k s n b p : Int32) : Int32 := b ||| (if n ≤ gr k s p then 1 <<< (p &&& 31) else 0)
/-- the parts that stay, as bits -/
def stb (k s n : Int32) : Int32 := st1 k s n (st1 k s n (st1 k s n (st1 k s n (st1 k s n 0 0) 1) 2) 3) 4
theorem or_0 (x : Int32) : x ||| 0 = x := by simp
theorem L_staysBy {d : Nat} {k s n b p : Int32} {h : Hp} {Q : Pst} (hp : p < 5) : T (d + 1) 155 5 [.int k, .int s, .int n, .int b, .int p] [] h Q ↔ T (d + 1) 155 5 [.int k, .int s, .int n, .int (st1 k s n b p), .int (p + 1)] [] h Q := by
  rw [t155_5]
  simp only [t155_0, t155_1, t155_2, t155_3, t155_7, t155_8, t155_11, t155_12, t155_13, t155_14, t155_16, t155_19, t155_20, t155_23, t155_24, t155_26, t155_27, t155_30, t155_31, t155_32, t155_33, t155_36, t155_39, t155_40, E_greatBy, rl_s, kil_i, kil_u, i32_nl, ite_not, hp, if_true, st1]
  by_cases h1 : gr k s p < n <;> simp only [h1, if_true, if_false]
theorem E_staysBy {d : Nat} {k s n : Int32} {h : Hp} {Q : Pst} : T (d + 1) 155 0 [.int k, .int s, .int n, un, un] [] h Q ↔ Q (some (.int (stb k s n))) h := by
  simp only [t155_0, t155_1, t155_2, t155_3, kil_i, kil_u]
  rw [L_staysBy (by decide), L_staysBy (by decide), L_staysBy (by decide), L_staysBy (by decide), L_staysBy (by decide)]
  simp only [t155_5, t155_7, t155_8, t155_39, t155_40, show (0 : Int32) + 1 + 1 + 1 + 1 + 1 = 5 from rfl, show ¬ (5 : Int32) < 5 from by decide, i32_nl, ite_not, if_false, stb, show (0 : Int32) + 1 = 1 from rfl, show (1 : Int32) + 1 = 2 from rfl, show (2 : Int32) + 1 = 3 from rfl, show (3 : Int32) + 1 = 4 from rfl, show (4 : Int32) + 1 = 5 from rfl, show ¬ (5 : Int32) < 5 from by decide, if_false]
theorem L_partsFrom {d s p : Nat} {k n b : Int32} {h : Hp} {Q : Pst} (hs : s < 64) (hp : p < 5) : T (d + 1) 51 5 [.int k, .int (nI s), .int n, .int b, .int (nI p)] [] h Q ↔ T (d + 1) 51 5 [.int k, .int (nI s), .int n, .int (st1 k (nI s) n b (nI p)), .int (nI (p + 1))] [] h Q := by
  have h5 : nI p < 5 := (nI_ltI (by omega) (by omega) : nI p < nI 5 ↔ p < 5).mpr hp
  rw [t51_5]
  simp only [t51_0, t51_1, t51_2, t51_3, t51_7, t51_8, t51_11, t51_12, t51_13, t51_15, t51_18, t51_19, t51_22, t51_23, t51_24, t51_26, t51_27, t51_28, t51_29, t51_32, t51_35, t51_36, E_partSize hs hp, rl_s, kil_i, kil_u, i32_nl, ite_not, h5, if_true, st1, nI_1]
  by_cases h1 : gr k (nI s) (nI p) < n <;> simp only [h1, if_true, if_false, or_0]
theorem E_partsFrom {d s : Nat} {k n : Int32} {h : Hp} {Q : Pst} (hs : s < 64) : T (d + 1) 51 0 [.int k, .int (nI s), .int n, un, un] [] h Q ↔ Q (some (.int (stb k (nI s) n))) h := by
  simp only [t51_0, t51_1, t51_2, t51_3, kil_i, kil_u]
  rw [show (Value.int 0 : Value) = .int (nI 0) from rfl, L_partsFrom hs (by decide), L_partsFrom hs (by decide), L_partsFrom hs (by decide), L_partsFrom hs (by decide), L_partsFrom hs (by decide)]
  simp only [t51_5, t51_7, t51_8, t51_35, t51_36, show ¬ nI (0 + 1 + 1 + 1 + 1 + 1) < 5 from by decide, i32_nl, ite_not, if_false, stb, show nI 0 = 0 from rfl, show nI (0 + 1) = 1 from rfl, show nI (0 + 1 + 1) = 2 from rfl, show nI (0 + 1 + 1 + 1) = 3 from rfl, show nI (0 + 1 + 1 + 1 + 1) = 4 from rfl]
-- how many bits
def bc (x : Int32) : Int32 :=
  let a := x - ((x.toUInt32 >>> ((1 : Int32).toUInt32 &&& Int32.toUInt32 31)).toInt32 &&& 1431655765)
  let b := (a &&& 858993459) + ((a.toUInt32 >>> ((2 : Int32).toUInt32 &&& Int32.toUInt32 31)).toInt32 &&& 858993459)
  let c := b + (b.toUInt32 >>> ((4 : Int32).toUInt32 &&& Int32.toUInt32 31)).toInt32 &&& 252645135
  let e := c + (c.toUInt32 >>> ((8 : Int32).toUInt32 &&& Int32.toUInt32 31)).toInt32
  let f := e + (e.toUInt32 >>> ((16 : Int32).toUInt32 &&& Int32.toUInt32 31)).toInt32
  f &&& 63
theorem E_bitCount {d : Nat} {x : Int32} {h : Hp} {Q : Pst} : T d 213 0 [.int x] [] h Q ↔ Q (some (.int (bc x))) h := by
  simp only [t213_0, t213_1, t213_2, t213_3, t213_4, t213_7, t213_8, t213_9, t213_10, t213_11, t213_14, t213_15, t213_16, t213_17, t213_18, t213_21, t213_22, t213_23, t213_24, t213_25, t213_26, t213_27, t213_28, t213_29, t213_32, t213_33, t213_34, t213_35, t213_36, t213_38, t213_39, t213_40, t213_41, t213_42, t213_43, t213_45, t213_46, t213_47, t213_48, t213_49, t213_51, t213_52, kil_i, bc]
/-- the model's count of six bits -/
def bsx (x : Int32) : Int32 := 0 + (x >>> ((0 : Int32) &&& 31) &&& 1) + (x >>> ((1 : Int32) &&& 31) &&& 1) + (x >>> ((2 : Int32) &&& 31) &&& 1) + (x >>> ((3 : Int32) &&& 31) &&& 1) + (x >>> ((4 : Int32) &&& 31) &&& 1) + (x >>> ((5 : Int32) &&& 31) &&& 1)
theorem L_bits {d : Nat} {x n k : Int32} {h : Hp} {Q : Pst} (hk : k < 6) : T d 128 4 [.int x, .int n, .int k] [] h Q ↔ T d 128 4 [.int x, .int (n + (x >>> (k &&& 31) &&& 1)), .int (k + 1)] [] h Q := by
  rw [t128_4]
  simp only [t128_0, t128_1, t128_2, t128_3, t128_5, t128_7, t128_10, t128_11, t128_12, t128_13, t128_14, t128_15, t128_16, t128_17, t128_18, t128_21, t128_24, t128_25, kil_i, i32_nl, ite_not, hk, if_true]
theorem E_bits {d : Nat} {x : Int32} {h : Hp} {Q : Pst} : T d 128 0 [.int x, un, un] [] h Q ↔ Q (some (.int (bsx x))) h := by
  simp only [t128_0, t128_1, t128_2, t128_3, kil_i, kil_u]
  rw [L_bits (by decide), L_bits (by decide), L_bits (by decide), L_bits (by decide), L_bits (by decide), L_bits (by decide)]
  simp only [t128_4, t128_5, t128_7, t128_24, t128_25, Int32.reduceAdd, Int32.reduceLE, if_true, bsx]
set_option maxRecDepth 100000 in
theorem b6_bc : ∀ v, v < 64 → bc (nI v) = bsx (nI v) := by decide +kernel
set_option maxRecDepth 100000 in
theorem st1_lt : ∀ v, v < 32 → ∀ p, p < 5 → ∃ u, u < 32 ∧ nI v ||| (1 <<< (nI p &&& 31)) = nI u := by decide +kernel
theorem stb_lt (k s n : Int32) : ∃ u, u < 32 ∧ stb k s n = nI u := by
  have st : ∀ v, v < 32 → ∀ p, p < 5 → ∃ u, u < 32 ∧ st1 k s n (nI v) (nI p) = nI u := by
    intro v hv p hp
    unfold st1
    split
    · exact st1_lt v hv p hp
    · exact ⟨v, hv, or_0 _⟩
  obtain ⟨u0, h0, e0⟩ := st 0 (by omega) 0 (by omega)
  obtain ⟨u1, h1, e1⟩ := st u0 h0 1 (by omega)
  obtain ⟨u2, h2, e2⟩ := st u1 h1 2 (by omega)
  obtain ⟨u3, h3, e3⟩ := st u2 h2 3 (by omega)
  obtain ⟨u4, h4, e4⟩ := st u3 h3 4 (by omega)
  refine ⟨u4, h4, ?_⟩
  rw [← e4, ← e3, ← e2, ← e1, ← e0]
  rfl
theorem bc_stb (k s n : Int32) : bc (stb k s n) = bsx (stb k s n) := by
  obtain ⟨u, hu, e⟩ := stb_lt k s n
  rw [e]
  exact b6_bc u (by omega)
