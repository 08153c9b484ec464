/-! what is made: the class, the reference -/
def oz (h : Hp) (t m : Nat) (C : Nat → AC) : Hp := (m, t, fun j => if 13 ≤ j ∧ j < m then C j else h.2.2 j)
def cuU (C : Nat → AC) (b : Nat) (D : Nat → Nat → Int32) : Nat → AC := fun j => if b ≤ j ∧ j < b + 15 then cellU b D (j - b) else C j
section OZ
variable {h : Hp} {t m : Nat} {C : Nat → AC}
theorem oz_1 : (oz h t m C).1 = m := rfl
theorem oz_get {a : Nat} (h1 : 13 ≤ a) (h2 : a < m) : (oz h t m C).2.2 a = C a := if_pos ⟨h1, h2⟩
theorem oz_new {k : Nat} {c : AC} (hm : 13 ≤ m) : hnew (oz h t m C) k c = oz h (t + k) (m + 1) (cup C m c) := by
  refine Prod.ext rfl (Prod.ext rfl (funext fun j => ?_))
  show (if j = m then c else if 13 ≤ j ∧ j < m then C j else h.2.2 j) = (if 13 ≤ j ∧ j < m + 1 then (if j = m then c else C j) else h.2.2 j)
  by_cases e : j = m
  · rw [if_pos e, if_pos ⟨by omega, by omega⟩, if_pos e]
  · rw [if_neg e]
    by_cases e2 : 13 ≤ j ∧ j < m
    · rw [if_pos e2, if_pos ⟨by omega, by omega⟩, if_neg e]
    · rw [if_neg e2, if_neg (by omega)]
theorem oz_up {a : Nat} {c : AC} (h1 : 13 ≤ a) (h2 : a < m) : hup (oz h t m C) a c = oz h t m (cup C a c) := by
  refine Prod.ext rfl (Prod.ext rfl (funext fun j => ?_))
  show (if j = a then c else if 13 ≤ j ∧ j < m then C j else h.2.2 j) = (if 13 ≤ j ∧ j < m then (if j = a then c else C j) else h.2.2 j)
  by_cases e : j = a
  · rw [if_pos e, if_pos ⟨by omega, by omega⟩, if_pos e]
  · rw [if_neg e, if_neg e]
theorem oz_start {k : Nat} {c : AC} (e : h.1 = 13) (e2 : h.2.1 = 0) : hnew h k c = oz h k 14 (cup (fun _ => jnk) 13 c) := by
  refine Prod.ext (by show h.1 + 1 = 14; omega) (Prod.ext (by show h.2.1 + k = k; omega) (funext fun j => ?_))
  show (if j = h.1 then c else h.2.2 j) = (if 13 ≤ j ∧ j < 14 then (if j = 13 then c else jnk) else h.2.2 j)
  by_cases q : j = 13
  · rw [if_pos (by omega), if_pos ⟨by omega, by omega⟩, if_pos q]
  · rw [if_neg (by omega), if_neg (by omega)]
theorem cuU_o {b j : Nat} {D : Nat → Nat → Int32} (hj : j < b ∨ b + 15 ≤ j) : cuU C b D j = C j := if_neg (by omega)
theorem oz_W {d b : Nat} {Q : Pst} (hb : 13 ≤ b) : T (d + 3) 52 0 [.ref b] [] (oz h t (b + 1) (cup C b (oO 5 (dfl 5)))) Q ↔ Q none (oz h (t + 216) (b + 15) (cuU C b zD)) := by
  have e1 : oz h t (b + 1) (cup C b (oO 5 (dfl 5))) = ow (oz h t b C) b t 1 (cup C 0 (oO 5 (dfl 5))) := by
    refine Prod.ext rfl (Prod.ext rfl (funext fun j => ?_))
    show (if 13 ≤ j ∧ j < b + 1 then (if j = b then oO 5 (dfl 5) else C j) else h.2.2 j) = (if b ≤ j ∧ j < b + 1 then (if j - b = 0 then oO 5 (dfl 5) else C (j - b)) else if 13 ≤ j ∧ j < b then C j else h.2.2 j)
    by_cases e : j = b
    · rw [if_pos ⟨by omega, by omega⟩, if_pos e, if_pos ⟨by omega, by omega⟩, if_pos (by omega)]
    · rw [if_neg (show ¬ (b ≤ j ∧ j < b + 1) by omega), if_neg e]
      by_cases e2 : 13 ≤ j ∧ j < b
      · rw [if_pos ⟨by omega, by omega⟩, if_pos e2]
      · rw [if_neg (by omega), if_neg e2]
  rw [e1]
  refine W_newU.trans (iff_of_eq (congrArg (Q none) ?_))
  refine Prod.ext rfl (Prod.ext rfl (funext fun j => ?_))
  show (if b ≤ j ∧ j < b + 15 then cellU b zD (j - b) else if 13 ≤ j ∧ j < b then C j else h.2.2 j) = (if 13 ≤ j ∧ j < b + 15 then (if b ≤ j ∧ j < b + 15 then cellU b zD (j - b) else C j) else h.2.2 j)
  by_cases e : b ≤ j ∧ j < b + 15
  · rw [if_pos e, if_pos ⟨by omega, by omega⟩, if_pos e]
  · rw [if_neg e, if_neg e]
    by_cases e2 : 13 ≤ j ∧ j < b
    · rw [if_pos e2, if_pos ⟨by omega, by omega⟩]
    · rw [if_neg e2, if_neg (by omega)]
theorem oz_W14 {d : Nat} {Q : Pst} : T (d + 3) 52 0 [.ref 14] [] (oz h t 15 (cup C 14 (oO 5 (dfl 5)))) Q ↔ Q none (oz h (t + 216) 29 (cuU C 14 zD)) := oz_W (b := 14) (by decide)
theorem oz_W29 {d : Nat} {Q : Pst} : T (d + 3) 52 0 [.ref 29] [] (oz h t 30 (cup C 29 (oO 5 (dfl 5)))) Q ↔ Q none (oz h (t + 216) 44 (cuU C 29 zD)) := oz_W (b := 29) (by decide)
theorem dfl_0 : dfl 0 = [.null, .null] := rfl
theorem dfl_1 : dfl 1 = [.null] := rfl
theorem dfl_2 : dfl 2 = [.null, .int 0, .int 0, .int 0, .int 0, .int 0, .int 0, .int 0, .int 0] := rfl
theorem dfl_4 : dfl 4 = [.null, .null, .null, .null, .int 0, .int 0, .int 0] := rfl
theorem dfl_6 : dfl 6 = [.null, .null, .null, .null, .null, .null, .null, .null, .int 0, .int 0] := rfl
theorem dfl_7 : dfl 7 = [.null, .null, .null, .long 0, .long 0, .null, .int 0, .null, .int 0, .int 0, .int 0, .int 0, .int 0, .null, .null, .null, .null, .null] := rfl
theorem nz_2 : ((0 : Int) ≤ (2 : Int32).toInt ∧ (2 : Int32).toInt ≤ 100000) = True := by decide
theorem nz_3 : ((0 : Int) ≤ (3 : Int32).toInt ∧ (3 : Int32).toInt ≤ 100000) = True := by decide
theorem nz_10 : ((0 : Int) ≤ (10 : Int32).toInt ∧ (10 : Int32).toInt ≤ 100000) = True := by decide
theorem nz_24 : ((0 : Int) ≤ (24 : Int32).toInt ∧ (24 : Int32).toInt ≤ 100000) = True := by decide
theorem nz_48 : ((0 : Int) ≤ (48 : Int32).toInt ∧ (48 : Int32).toInt ≤ 100000) = True := by decide
theorem nz_150 : ((0 : Int) ≤ (150 : Int32).toInt ∧ (150 : Int32).toInt ≤ 100000) = True := by decide
theorem nz_636 : ((0 : Int) ≤ (636 : Int32).toInt ∧ (636 : Int32).toInt ≤ 100000) = True := by decide
theorem ny_2 : (2 : Int32).toNatClampNeg = 2 := by decide
theorem ny_3 : (3 : Int32).toNatClampNeg = 3 := by decide
theorem ny_10 : (10 : Int32).toNatClampNeg = 10 := by decide
theorem ny_24 : (24 : Int32).toNatClampNeg = 24 := by decide
theorem ny_48 : (48 : Int32).toNatClampNeg = 48 := by decide
theorem ny_150 : (150 : Int32).toNatClampNeg = 150 := by decide
theorem ny_636 : (636 : Int32).toNatClampNeg = 636 := by decide
theorem oz_eq {C2 : Nat → AC} (e : ∀ a, a < m → 13 ≤ a → C a = C2 a) : oz h t m C = oz h t m C2 := by
  refine Prod.ext rfl (Prod.ext rfl (funext fun j => ?_))
  show (if 13 ≤ j ∧ j < m then C j else h.2.2 j) = (if 13 ≤ j ∧ j < m then C2 j else h.2.2 j)
  by_cases q : 13 ≤ j ∧ j < m
  · rw [if_pos q, if_pos q, e j q.2 q.1]
  · rw [if_neg q, if_neg q]
end OZ
def zV (k : Nat) : Int32 := if k = 6 then -1 else 0
def clZ (C : Nat → AC) (j : Nat) : AC := if j = 13 ∨ (45 ≤ j ∧ j < 58) then cellC 0 1 zV zD j else if 14 ≤ j ∧ j < 29 then cellU 14 zD (j - 14) else if 29 ≤ j ∧ j < 44 then cellU 29 zD (j - 29) else if j = 44 then oQ 2 (fun _ => none) else C j
set_option maxHeartbeats 4000000 in
set_option maxRecDepth 4000 in
theorem W_newC {d : Nat} {h : Hp} {Q : Pst} {C : Nat → AC} : T (d + 5) 74 0 [.ref 13] [] (oz h 10 14 (cup C 13 (oO 6 (dfl 6)))) Q ↔ Q none (oz h 710 58 (clZ C)) := by
  simp (disch := first | decide | omega) only [t74_0, t74_1, t74_4, t74_5, t74_8, t74_9, t74_12, t74_15, t74_16, t74_19, t74_20, t74_23, t74_26, t74_27, t74_28, t74_31, t74_34, t74_35, t74_38, t74_39, t74_42, t74_45, t74_46, t74_49, t74_50, t74_53, t74_56, t74_57, t74_60, t74_61, t74_64, t74_67, t74_68, t74_71, t74_72, t74_75, t74_78, t74_79, t74_80, t74_82, t74_85, t74_86, t74_87, t74_90, t74_91, t74_92, t74_95, t18_0, t18_1, t18_4, t18_5, t18_8, t18_10, t18_13, t18_14, t18_15, t18_18, t18_19, t18_20, t18_23, t18_24, t18_25, t18_28, t18_29, t18_30, t18_33, t18_34, t18_35, t18_38, t18_39, t18_40, t18_43, t18_44, t18_45, t18_48, t18_49, t18_50, t18_53, t5_0, t5_1, t5_4, t5_5, t5_7, t5_9, t5_12, t45_0, t45_1, t45_4, t45_5, t45_7, t45_9, t45_12, t45_13, t45_14, t45_16, t45_19, t45_20, t45_22, t45_24, t45_27, t45_28, t45_30, t45_32, t45_35, t45_36, t45_37, t45_40, t45_41, t45_42, t45_45, t45_46, t45_47, t45_50, t0_0, t0_1, t0_4, t0_5, t0_7, t0_9, t0_12, t0_13, t0_15, t0_17, t0_20, dfl_0, dfl_1, dfl_2, dfl_4, dfl_6, oz_1, oz_get, oz_new, oz_up, oz_W14, oz_W29, cuU_o, Nat.reduceAdd, cup_s, cup_o, cup_cup, na_4, na_6, nc_4, nc_6, nz_2, nz_3, nz_10, nz_24, nz_150, ny_2, ny_3, ny_10, ny_24, ny_150, true_and, pF_0_0, pF_0_1, pF_1_0, pF_2_0, pF_2_1, pF_2_2, pF_2_3, pF_2_4, pF_2_5, pF_2_6, pF_2_7, pF_2_8, pF_4_0, pF_4_1, pF_4_2, pF_4_3, pF_4_4, pF_4_5, pF_4_6, pF_6_0, pF_6_1, pF_6_2, pF_6_3, pF_6_4, pF_6_5, pF_6_6, pF_6_7, pF_6_8, pF_6_9, rl_s, rl_n, kil_i, kil_r]
  refine iff_of_eq (congrArg (Q none) (oz_eq (fun k hk h1 => ?_)))
  match k, hk, h1 with
  | 0, _, h1 => exact absurd h1 (by decide)
  | 1, _, h1 => exact absurd h1 (by decide)
  | 2, _, h1 => exact absurd h1 (by decide)
  | 3, _, h1 => exact absurd h1 (by decide)
  | 4, _, h1 => exact absurd h1 (by decide)
  | 5, _, h1 => exact absurd h1 (by decide)
  | 6, _, h1 => exact absurd h1 (by decide)
  | 7, _, h1 => exact absurd h1 (by decide)
  | 8, _, h1 => exact absurd h1 (by decide)
  | 9, _, h1 => exact absurd h1 (by decide)
  | 10, _, h1 => exact absurd h1 (by decide)
  | 11, _, h1 => exact absurd h1 (by decide)
  | 12, _, h1 => exact absurd h1 (by decide)
  | 13, _, _ => rfl
  | 14, _, _ => rfl
  | 15, _, _ => rfl
  | 16, _, _ => rfl
  | 17, _, _ => rfl
  | 18, _, _ => rfl
  | 19, _, _ => rfl
  | 20, _, _ => rfl
  | 21, _, _ => rfl
  | 22, _, _ => rfl
  | 23, _, _ => rfl
  | 24, _, _ => rfl
  | 25, _, _ => rfl
  | 26, _, _ => rfl
  | 27, _, _ => rfl
  | 28, _, _ => rfl
  | 29, _, _ => rfl
  | 30, _, _ => rfl
  | 31, _, _ => rfl
  | 32, _, _ => rfl
  | 33, _, _ => rfl
  | 34, _, _ => rfl
  | 35, _, _ => rfl
  | 36, _, _ => rfl
  | 37, _, _ => rfl
  | 38, _, _ => rfl
  | 39, _, _ => rfl
  | 40, _, _ => rfl
  | 41, _, _ => rfl
  | 42, _, _ => rfl
  | 43, _, _ => rfl
  | 44, _, _ => rfl
  | 45, _, _ => rfl
  | 46, _, _ => rfl
  | 47, _, _ => rfl
  | 48, _, _ => rfl
  | 49, _, _ => rfl
  | 50, _, _ => rfl
  | 51, _, _ => rfl
  | 52, _, _ => rfl
  | 53, _, _ => rfl
  | 54, _, _ => rfl
  | 55, _, _ => rfl
  | 56, _, _ => rfl
  | 57, _, _ => rfl
  | k + 58, hk, _ => omega
