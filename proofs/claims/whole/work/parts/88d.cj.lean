/-! the class's public calls: tell -/
/-- of so many sizes, how many by which so many parts stay -/
def cnt (p : Nat → Bool) (kk : Nat → Nat) (k : Nat) : Nat → Nat
  | 0 => 0
  | m + 1 => cnt p kk k m + if p m = true ∧ kk m = k then 1 else 0
def mx6 (f : Nat → Nat) : Nat := max (max (max (f 0) (f 1)) (max (f 2) (f 3))) (max (f 4) (f 5))
theorem cnt_le (p : Nat → Bool) (kk : Nat → Nat) (k : Nat) : ∀ m, cnt p kk k m ≤ m := by
  intro m
  induction m with
  | zero => exact Nat.le_refl 0
  | succ m ih => unfold cnt; split <;> omega
theorem mx6_le {f : Nat → Nat} {m : Nat} (h : ∀ k, k < 6 → f k ≤ m) : mx6 f ≤ m := by
  have h0 := h 0 (by decide); have h1 := h 1 (by decide); have h2 := h 2 (by decide); have h3 := h 3 (by decide); have h4 := h 4 (by decide); have h5 := h 5 (by decide)
  unfold mx6
  omega
theorem mx6_step {p : Nat → Bool} {kk : Nat → Nat} {m : Nat} (hp : p m = true) (hk : kk m < 6) : mx6 (fun k => cnt p kk k (m + 1)) = max (mx6 (fun k => cnt p kk k m)) (cnt p kk (kk m) m + 1) := by
  have e : ∀ k, cnt p kk k (m + 1) = cnt p kk k m + if kk m = k then 1 else 0 := fun k => by
    show cnt p kk k m + (if p m = true ∧ kk m = k then 1 else 0) = _
    simp only [hp, true_and]
  unfold mx6
  simp only [e]
  have : kk m = 0 ∨ kk m = 1 ∨ kk m = 2 ∨ kk m = 3 ∨ kk m = 4 ∨ kk m = 5 := by omega
  rcases this with z | z | z | z | z | z <;> rw [z] <;> simp (decide := true) only [if_true, if_false] <;> omega
theorem mx6_keep {p : Nat → Bool} {kk : Nat → Nat} {m : Nat} (hp : p m = false) : mx6 (fun k => cnt p kk k (m + 1)) = mx6 (fun k => cnt p kk k m) := by
  have e : ∀ k, cnt p kk k (m + 1) = cnt p kk k m := fun k => by
    show cnt p kk k m + (if p m = true ∧ kk m = k then 1 else 0) = _
    simp [hp]
  simp only [e]
theorem cnt_keep {p : Nat → Bool} {kk : Nat → Nat} {k m : Nat} (hp : ¬ (p m = true ∧ kk m = k)) : cnt p kk k (m + 1) = cnt p kk k m := by
  show cnt p kk k m + (if p m = true ∧ kk m = k then 1 else 0) = _
  rw [if_neg hp]; rfl
theorem cnt_one {p : Nat → Bool} {kk : Nat → Nat} {m : Nat} (hp : p m = true) : cnt p kk (kk m) (m + 1) = cnt p kk (kk m) m + 1 := by
  show cnt p kk (kk m) m + (if p m = true ∧ kk m = kk m then 1 else 0) = _
  rw [if_pos ⟨hp, rfl⟩]
def fitP (R : Nat → Int32) (i sn n : Nat) : Bool := szB R i (nI (1 + n)) sn
def fitK (R : Nat → Int32) (i j n : Nat) : Nat := nb (stb (R (13 + i)) (nI (1 + n)) (nd (R (26 + j)) (R (30 + j)) (R 10)))
theorem fitK_lt {R : Nat → Int32} {i j n : Nat} : fitK R i j n < 6 := by
  have := (nb_stb (R (13 + i)) (nI (1 + n)) (nd (R (26 + j)) (R (30 + j)) (R 10))).2
  unfold fitK
  omega
def mxV (R : Nat → Int32) (i j sn : Nat) : Nat := mx6 (fun k => cnt (fitP R i sn) (fitK R i j) k 30)
theorem sam_n {R : Nat → Int32} {i j sn k : Nat} (hk : k < 6) : sam R i j sn (nI k) = nI (cnt (fitP R i sn) (fitK R i j) k 30) := by
  have key : ∀ n m, itr (samF R i j sn (nI k)) n m (nI (cnt (fitP R i sn) (fitK R i j) k m)) = nI (cnt (fitP R i sn) (fitK R i j) k (m + n)) := by
    intro n
    induction n with
    | zero => intro m; rfl
    | succ n ih =>
      intro m
      have e : samF R i j sn (nI k) m (nI (cnt (fitP R i sn) (fitK R i j) k m)) = nI (cnt (fitP R i sn) (fitK R i j) k (m + 1)) := by
        obtain ⟨h1, h2⟩ := nb_stb (R (13 + i)) (nI (1 + m)) (nd (R (26 + j)) (R (30 + j)) (R 10))
        unfold samF
        rw [h1]
        have hq : (nI (nb (stb (R (13 + i)) (nI (1 + m)) (nd (R (26 + j)) (R (30 + j)) (R 10)))) = nI k) ↔ fitK R i j m = k := nI_eq (by omega) (by omega)
        by_cases q : fitP R i sn m = true ∧ fitK R i j m = k
        · rw [if_pos ⟨q.1, hq.mpr q.2⟩, ← q.2, cnt_one q.1, nI_1]
        · rw [if_neg (fun z => q ⟨z.1, hq.mp z.2⟩), cnt_keep q, Int32.add_zero]
      unfold itr
      rw [e, ih (m + 1), show m + 1 + n = m + (n + 1) by omega]
  have := key 30 0
  rw [Nat.zero_add] at this
  exact this
theorem mos_n {R : Nat → Int32} {i j sn : Nat} : mos R i j sn = nI (mxV R i j sn) ∧ mxV R i j sn ≤ 30 := by
  have hle := cnt_le (fitP R i sn) (fitK R i j)
  have e : ∀ k a, k < 6 → a ≤ 30 → mosF R i j sn k (nI a) = nI (max a (cnt (fitP R i sn) (fitK R i j) k 30)) := by
    intro k a hk ha
    have := hle k 30
    unfold mosF
    rw [sam_n hk]
    by_cases q : a < cnt (fitP R i sn) (fitK R i j) k 30
    · rw [if_pos ((lt_nn (by omega) (by omega)).mpr q)]; congr 1; omega
    · rw [if_neg (fun z => q ((lt_nn (by omega) (by omega)).mp z))]; congr 1; omega
  have h0 := hle 0 30; have h1 := hle 1 30; have h2 := hle 2 30; have h3 := hle 3 30; have h4 := hle 4 30; have h5 := hle 5 30
  refine ⟨?_, mx6_le (fun k _ => hle k 30)⟩
  show mosF R i j sn 5 (mosF R i j sn 4 (mosF R i j sn 3 (mosF R i j sn 2 (mosF R i j sn 1 (mosF R i j sn 0 (nI 0)))))) = _
  rw [e 0 _ (by omega) (by omega), e 1 _ (by omega) (by omega), e 2 _ (by omega) (by omega), e 3 _ (by omega) (by omega), e 4 _ (by omega) (by omega), e 5 _ (by omega) (by omega)]
  show nI _ = nI (max (max (max (cnt (fitP R i sn) (fitK R i j) 0 30) (cnt (fitP R i sn) (fitK R i j) 1 30)) (max (cnt (fitP R i sn) (fitK R i j) 2 30) (cnt (fitP R i sn) (fitK R i j) 3 30))) (max (cnt (fitP R i sn) (fitK R i j) 4 30) (cnt (fitP R i sn) (fitK R i j) 5 30)))
  congr 1
  omega
theorem cnt_pos {p : Nat → Bool} {kk : Nat → Nat} (hk : ∀ n, kk n < 6) : ∀ m, (∃ n, n < m ∧ p n = true) → 0 < mx6 (fun k => cnt p kk k m) := by
  intro m
  induction m with
  | zero => intro ⟨n, h, _⟩; omega
  | succ m ih =>
    intro ⟨n, h1, h2⟩
    cases q : p m with
    | true => rw [mx6_step q (hk m)]; omega
    | false =>
      rw [mx6_keep q]
      refine ih ⟨n, ?_, h2⟩
      by_cases z : n = m
      · rw [z, q] at h2; cases h2
      · omega
theorem cnt_none {p : Nat → Bool} {kk : Nat → Nat} {k : Nat} : ∀ m, (∀ n, n < m → p n = false) → cnt p kk k m = 0 := by
  intro m
  induction m with
  | zero => intro _; rfl
  | succ m ih =>
    intro h
    rw [cnt_keep (by rw [h m (by omega)]; simp), ih (fun n hn => h n (by omega))]
section W4
variable {d : Nat} {h : Hp} {Q : Pst} {ab be : Int32} {V : Nat → Int32} {O D : Nat → Nat → Int32} {R : Nat → Int32} {g hh sn nn mn un0 : Nat}
theorem W_largestGroup {i j : Nat} {G0 : Nat → Int32} (ri : RI R g hh sn nn mn un0) (sm : SM D R g hh sn nn mn un0) (hi : i < g) (hj : j < hh)
    (k : ∀ G, Q (some (.int (nI (mxV R i j sn)))) (hX h ab be V (wA O 48 G) D)) :
    T (d + 4) 9 0 [.ref 47, .ref 14, .int (nI i), .int (nI (vB (fitP R i sn) 30)), .int (nI j), un, un, un] [] (hX h ab be V (wA O 48 G0) D) Q := by
  have re := sm.rl ri
  have hv := vB_lt (fitP R i sn) 30
  have hw : ∀ G : Nat → Int32, (hX h ab be V (wA O 48 G) D).2.2 48 = oI 6 G := fun G => by rw [hC_48, wA_s]
  have hwet : D 0 2 = R 10 := sm.1.2.2.1
  have gG : ∀ {d : Nat} {Q : Pst} (G : Nat → Int32) (m : Nat), m < 6 → (T d 122 0 [.ref 48, .int (nI m)] [] (hX h ab be V (wA O 48 G) D) Q ↔ Q (some (.int (G m))) (hX h ab be V (wA O 48 G) D)) := fun G m hm => G_n (hw G) hm (by decide)
  have pG : ∀ {d : Nat} {Q : Pst} (G : Nat → Int32) (m : Nat) (x : Int32), m < 6 → (T d 123 0 [.ref 48, .int (nI m), .int x] [] (hX h ab be V (wA O 48 G) D) Q ↔ Q none (hX h ab be V (wA O 48 (upd G m x)) D)) := fun G m x hm => by rw [P_n (hw G) hm (by decide), hC_u48, wA_wA]
  simp (disch := first | assumption | omega | decide | exact hX_o13 | exact hU_o | exact hX_o45 | exact hX_o47 | exact hX_o49 | exact hX_o54 | exact hU_o7 | exact hU_o9 | exact hU_o11 | exact hU_o13) only [t9_0, t9_1, hC_13, hC_45, hC_47, hC_49, hC_54, gF_6_0, gF_6_1, gF_6_2, gF_6_3, gF_6_4, gF_6_5, gF_6_6, gF_6_7, gF_6_8, gF_6_9, hU_0, hU_7, hU_9, hU_11, hU_13, gF_5_0, gF_5_1, gF_5_2, gF_5_3, gF_5_4, gF_5_5, gF_5_6, gF_5_7, gF_5_8, gF_5_9, gF_5_10, gF_5_11, gF_5_12, gF_5_13, gF_3_0, gF_3_1, gF_3_2, gF_3_3, ln_add, nl_add, ln_mul, nl_mul, nI_add, nI_1, i32_nl, ite_not, lt_nn, lt_nl, lt_ln, eq_nn, eq_nl, eq_ln, if_true, if_false, kil_i, kil_r, kil_l, kil_u, rl_s, rl_n, Nat.zero_add, Nat.lt_irrefl, not_true_eq_false, not_false_eq_true, true_and, dp_1, dp_2, dp_3, dp_4, dp_5, dp_6, dp_7, dp_8, dp_9, dp_10, dp_11, dp_12, dp_13, dp_14, dp_15, dp_16, dp_17, dp_18, dp_19, dp_20, dp_21, dp_22, dp_23, dp_24, dp_25, dp_26, dp_27, dp_28, dp_29, dp_30, dp_31, dp_32, dp_33, dp_34, dp_35, dp_36, dp_37, dp_38, dp_39]
  have L1 := loop_d (P := fun m (G : Nat → Int32) (_ : Unit) => T (d + 4) 9 3 [.ref 47, .ref 14, .int (nI i), .int (nI (vB (fitP R i sn) 30)), .int (nI j), .int (nI m), un, un] [] (hX h ab be V (wA O 48 G) D) Q) (F := fun m G => upd G m 0) (E := fun G => T (d + 4) 9 31 [.ref 47, .ref 14, .int (nI i), .int (nI (vB (fitP R i sn) 30)), .int (nI j), .int (nI 0), .int (nI (1 + 0)), un] [] (hX h ab be V (wA O 48 G) D) Q) (g := 6) ?_ ?_
  · refine (L1 G0 ()).2 ?_
    have hz : ∀ k, k < 6 → itr (fun m (G : Nat → Int32) => upd G m 0) 6 0 G0 k = nI (cnt (fitP R i sn) (fitK R i j) k 0) := fun k hk => by rw [itr_z]; show (if k < 6 then (0 : Int32) else G0 k) = _; rw [if_pos hk]; rfl
    generalize itr (fun m (G : Nat → Int32) => upd G m 0) 6 0 G0 = G1 at *
    have L2 := loop_j (P := fun n (s : (Nat → Int32) × Int32) (u : Value) => T (d + 4) 9 31 [.ref 47, .ref 14, .int (nI i), .int (nI (vB (fitP R i sn) 30)), .int (nI j), .int s.2, .int (nI (1 + n)), u] [] (hX h ab be V (wA O 48 s.1) D) Q) (F := fun n s => if fitP R i sn n = true then (upd s.1 (fitK R i j n) (s.1 (fitK R i j n) + 1), if s.2 < s.1 (fitK R i j n) + 1 then s.1 (fitK R i j n) + 1 else s.2) else s) (E := fun s => Q (some (.int s.2)) (hX h ab be V (wA O 48 s.1) D)) (I := fun n s => n ≤ 30 → (∀ k, k < 6 → s.1 k = nI (cnt (fitP R i sn) (fitK R i j) k n)) ∧ s.2 = nI (mx6 (fun k => cnt (fitP R i sn) (fitK R i j) k n))) (g := 30) ?_ ?_
    · have I2 := itr_inv (F := fun n (s : (Nat → Int32) × Int32) => if fitP R i sn n = true then (upd s.1 (fitK R i j n) (s.1 (fitK R i j n) + 1), if s.2 < s.1 (fitK R i j n) + 1 then s.1 (fitK R i j n) + 1 else s.2) else s) (I := fun n s => n ≤ 30 → (∀ k, k < 6 → s.1 k = nI (cnt (fitP R i sn) (fitK R i j) k n)) ∧ s.2 = nI (mx6 (fun k => cnt (fitP R i sn) (fitK R i j) k n))) 30 0 (G1, nI 0) (fun _ => ⟨hz, rfl⟩) ?_
      · refine (L2 (G1, nI 0) un (fun _ => ⟨hz, rfl⟩)).2 ?_
        have := (I2 (by omega)).2
        rw [this]
        exact k _
      · intro n s _ hn ih _
        obtain ⟨a, b⟩ := ih (by omega)
        have hk := @fitK_lt R i j n
        have hcl := cnt_le (fitP R i sn) (fitK R i j) (fitK R i j n) n
        have hml : mx6 (fun k => cnt (fitP R i sn) (fitK R i j) k n) ≤ n := mx6_le (fun k _ => cnt_le (fitP R i sn) (fitK R i j) k n)
        cases q : fitP R i sn n with
        | true =>
          rw [if_pos rfl]
          refine ⟨fun k hk2 => ?_, ?_⟩
          · by_cases z : k = fitK R i j n
            · rw [z]; show upd s.1 _ _ _ = _; rw [upd_eq, a _ hk, nI_1, cnt_one q]
            · show upd s.1 _ _ _ = _; rw [upd_ne z, a k hk2, cnt_keep (fun y => z y.2.symm)]
          · show (if s.2 < s.1 (fitK R i j n) + 1 then s.1 (fitK R i j n) + 1 else s.2) = _
            rw [a _ hk, b, nI_1, mx6_step q hk]
            by_cases z : mx6 (fun k => cnt (fitP R i sn) (fitK R i j) k n) < cnt (fitP R i sn) (fitK R i j) (fitK R i j n) n + 1
            · rw [if_pos ((lt_nn (by omega) (by omega)).mpr z)]; congr 1; omega
            · rw [if_neg (fun y => z ((lt_nn (by omega) (by omega)).mp y))]; congr 1; omega
        | false =>
          rw [if_neg (by decide)]
          exact ⟨fun k hk2 => by rw [a k hk2, cnt_keep (by rw [q]; simp)], by rw [b, mx6_keep q]⟩
    · intro n s u hn ih
      obtain ⟨a, b⟩ := ih (by omega)
      have hk := @fitK_lt R i j n
      have hcl := cnt_le (fitP R i sn) (fitK R i j) (fitK R i j n) n
      have hml : mx6 (fun k => cnt (fitP R i sn) (fitK R i j) k n) ≤ n := mx6_le (fun k _ => cnt_le (fitP R i sn) (fitK R i j) k n)
      have hbit : vB (fitP R i sn) 30 / 2 ^ (1 + n) % 2 = bN (fitP R i sn n) := by rw [show 1 + n = n + 1 by omega]; exact vB_bit _ 30 n hn
      have hbs : bsx (stb (R (13 + i)) (nI (1 + n)) (nd (R (26 + j)) (R (30 + j)) (R 10))) = nI (fitK R i j n) := (nb_stb _ _ _).1
      cases q : fitP R i sn n with
      | true =>
        rw [q] at hbit
        refine ⟨fun _ => ⟨fun k hk2 => ?_, ?_⟩, .int (nI (fitK R i j n)), ?_⟩
        · rw [if_pos rfl]
          by_cases z : k = fitK R i j n
          · rw [z]; show upd s.1 _ _ _ = _; rw [upd_eq, a _ hk, nI_1, cnt_one q]
          · show upd s.1 _ _ _ = _; rw [upd_ne z, a k hk2, cnt_keep (fun y => z y.2.symm)]
        · rw [if_pos rfl]
          show (if s.2 < s.1 (fitK R i j n) + 1 then s.1 (fitK R i j n) + 1 else s.2) = _
          rw [a _ hk, b, nI_1, mx6_step q hk]
          by_cases z : mx6 (fun k => cnt (fitP R i sn) (fitK R i j) k n) < cnt (fitP R i sn) (fitK R i j) (fitK R i j n) n + 1
          · rw [if_pos ((lt_nn (by omega) (by omega)).mpr z)]; congr 1; omega
          · rw [if_neg (fun y => z ((lt_nn (by omega) (by omega)).mp y))]; congr 1; omega
        · rw [if_pos rfl]
          have U := @U_stayCountBySize (d + 1) (hC h ab be V (wA O 48 s.1)) (fun r h2 => T (d + 4) 9 60 [.ref 47, .ref 14, .int (nI i), .int (nI (vB (fitP R i sn) 30)), .int (nI j), .int s.2, .int (nI (1 + n)), u] (rl r []) h2 Q) 14 0 g hh D R i j (nI (1 + n)) (R 10) re hi hj ⟨_, by omega, rfl⟩ ri.2.2.2.2.2.2.1.2.2.1
          rw [t9_31, show 1 + (n + 1) = 1 + n + 1 by omega]
          simp (disch := first | assumption | omega | decide | exact hX_o13 | exact hU_o | exact hX_o45 | exact hX_o47 | exact hX_o49 | exact hX_o54 | exact hU_o7 | exact hU_o9 | exact hU_o11 | exact hU_o13) only [t9_33, t9_35, t9_38, t9_39, t9_41, t9_44, t9_47, t9_48, t9_49, t9_51, t9_53, t9_54, t9_57, hC_13, hC_45, hC_47, hC_49, hC_54, gF_6_0, gF_6_1, gF_6_2, gF_6_3, gF_6_4, gF_6_5, gF_6_6, gF_6_7, gF_6_8, gF_6_9, hU_0, hU_7, hU_9, hU_11, hU_13, gF_5_0, gF_5_1, gF_5_2, gF_5_3, gF_5_4, gF_5_5, gF_5_6, gF_5_7, gF_5_8, gF_5_9, gF_5_10, gF_5_11, gF_5_12, gF_5_13, gF_3_0, gF_3_1, gF_3_2, gF_3_3, ln_add, nl_add, ln_mul, nl_mul, nI_add, nI_1, i32_nl, ite_not, lt_nn, lt_nl, lt_ln, eq_nn, eq_nl, eq_ln, if_true, if_false, kil_i, kil_r, kil_l, kil_u, rl_s, rl_n, Nat.zero_add, Nat.lt_irrefl, not_true_eq_false, not_false_eq_true, true_and, dp_1, dp_2, dp_3, dp_4, dp_5, dp_6, dp_7, dp_8, dp_9, dp_10, dp_11, dp_12, dp_13, dp_14, dp_15, dp_16, dp_17, dp_18, dp_19, dp_20, dp_21, dp_22, dp_23, dp_24, dp_25, dp_26, dp_27, dp_28, dp_29, dp_30, dp_31, dp_32, dp_33, dp_34, dp_35, dp_36, dp_37, dp_38, dp_39, show ¬ 30 < 1 + n by omega, E_hasBit, hb_n (show vB (fitP R i sn) 30 < 2 ^ 31 from hv) (show 1 + n < 32 by omega), hbit, bN, show ¬ 1 = 0 by decide, hwet]
          refine U.trans ?_
          rw [hbs]
          have ex : ∀ x : Int32, upd s.1 (fitK R i j n) x (fitK R i j n) = x := fun x => upd_eq
          simp (disch := first | assumption | omega | decide | exact hX_o13 | exact hU_o | exact hX_o45 | exact hX_o47 | exact hX_o49 | exact hX_o54 | exact hU_o7 | exact hU_o9 | exact hU_o11 | exact hU_o13) only [t9_60, t9_62, t9_63, t9_66, t9_68, t9_69, t9_72, t9_74, t9_77, t9_78, t9_79, t9_82, t9_84, t9_85, t9_88, t9_90, t9_93, t9_96, t9_98, t9_101, hC_13, hC_45, hC_47, hC_49, hC_54, gF_6_0, gF_6_1, gF_6_2, gF_6_3, gF_6_4, gF_6_5, gF_6_6, gF_6_7, gF_6_8, gF_6_9, hU_0, hU_7, hU_9, hU_11, hU_13, gF_5_0, gF_5_1, gF_5_2, gF_5_3, gF_5_4, gF_5_5, gF_5_6, gF_5_7, gF_5_8, gF_5_9, gF_5_10, gF_5_11, gF_5_12, gF_5_13, gF_3_0, gF_3_1, gF_3_2, gF_3_3, ln_add, nl_add, ln_mul, nl_mul, nI_add, nI_1, i32_nl, ite_not, lt_nn, lt_nl, lt_ln, eq_nn, eq_nl, eq_ln, if_true, if_false, kil_i, kil_r, kil_l, kil_u, rl_s, rl_n, Nat.zero_add, Nat.lt_irrefl, not_true_eq_false, not_false_eq_true, true_and, dp_1, dp_2, dp_3, dp_4, dp_5, dp_6, dp_7, dp_8, dp_9, dp_10, dp_11, dp_12, dp_13, dp_14, dp_15, dp_16, dp_17, dp_18, dp_19, dp_20, dp_21, dp_22, dp_23, dp_24, dp_25, dp_26, dp_27, dp_28, dp_29, dp_30, dp_31, dp_32, dp_33, dp_34, dp_35, dp_36, dp_37, dp_38, dp_39, gF_1_0, gG _ _ hk, pG _ _ _ hk, ex]
      | false =>
        rw [q] at hbit
        refine ⟨fun _ => ?_, u, ?_⟩
        · rw [if_neg (by decide)]
          exact ⟨fun k hk2 => by rw [a k hk2, cnt_keep (by rw [q]; simp)], by rw [b, mx6_keep q]⟩
        · rw [if_neg (by decide), t9_31, show 1 + (n + 1) = 1 + n + 1 by omega]
          simp (disch := first | assumption | omega | decide | exact hX_o13 | exact hU_o | exact hX_o45 | exact hX_o47 | exact hX_o49 | exact hX_o54 | exact hU_o7 | exact hU_o9 | exact hU_o11 | exact hU_o13) only [t9_33, t9_35, t9_38, t9_39, t9_41, t9_44, t9_98, t9_101, hC_13, hC_45, hC_47, hC_49, hC_54, gF_6_0, gF_6_1, gF_6_2, gF_6_3, gF_6_4, gF_6_5, gF_6_6, gF_6_7, gF_6_8, gF_6_9, hU_0, hU_7, hU_9, hU_11, hU_13, gF_5_0, gF_5_1, gF_5_2, gF_5_3, gF_5_4, gF_5_5, gF_5_6, gF_5_7, gF_5_8, gF_5_9, gF_5_10, gF_5_11, gF_5_12, gF_5_13, gF_3_0, gF_3_1, gF_3_2, gF_3_3, ln_add, nl_add, ln_mul, nl_mul, nI_add, nI_1, i32_nl, ite_not, lt_nn, lt_nl, lt_ln, eq_nn, eq_nl, eq_ln, if_true, if_false, kil_i, kil_r, kil_l, kil_u, rl_s, rl_n, Nat.zero_add, Nat.lt_irrefl, not_true_eq_false, not_false_eq_true, true_and, dp_1, dp_2, dp_3, dp_4, dp_5, dp_6, dp_7, dp_8, dp_9, dp_10, dp_11, dp_12, dp_13, dp_14, dp_15, dp_16, dp_17, dp_18, dp_19, dp_20, dp_21, dp_22, dp_23, dp_24, dp_25, dp_26, dp_27, dp_28, dp_29, dp_30, dp_31, dp_32, dp_33, dp_34, dp_35, dp_36, dp_37, dp_38, dp_39, show ¬ 30 < 1 + n by omega, E_hasBit, hb_n (show vB (fitP R i sn) 30 < 2 ^ 31 from hv) (show 1 + n < 32 by omega), hbit, bN, Bool.false_eq_true]
    · intro s u _
      rw [t9_31]
      simp (disch := first | assumption | omega | decide | exact hX_o13 | exact hU_o | exact hX_o45 | exact hX_o47 | exact hX_o49 | exact hX_o54 | exact hU_o7 | exact hU_o9 | exact hU_o11 | exact hU_o13) only [t9_33, t9_35, t9_104, t9_106, hC_13, hC_45, hC_47, hC_49, hC_54, gF_6_0, gF_6_1, gF_6_2, gF_6_3, gF_6_4, gF_6_5, gF_6_6, gF_6_7, gF_6_8, gF_6_9, hU_0, hU_7, hU_9, hU_11, hU_13, gF_5_0, gF_5_1, gF_5_2, gF_5_3, gF_5_4, gF_5_5, gF_5_6, gF_5_7, gF_5_8, gF_5_9, gF_5_10, gF_5_11, gF_5_12, gF_5_13, gF_3_0, gF_3_1, gF_3_2, gF_3_3, ln_add, nl_add, ln_mul, nl_mul, nI_add, nI_1, i32_nl, ite_not, lt_nn, lt_nl, lt_ln, eq_nn, eq_nl, eq_ln, if_true, if_false, kil_i, kil_r, kil_l, kil_u, rl_s, rl_n, Nat.zero_add, Nat.lt_irrefl, not_true_eq_false, not_false_eq_true, true_and, dp_1, dp_2, dp_3, dp_4, dp_5, dp_6, dp_7, dp_8, dp_9, dp_10, dp_11, dp_12, dp_13, dp_14, dp_15, dp_16, dp_17, dp_18, dp_19, dp_20, dp_21, dp_22, dp_23, dp_24, dp_25, dp_26, dp_27, dp_28, dp_29, dp_30, dp_31, dp_32, dp_33, dp_34, dp_35, dp_36, dp_37, dp_38, dp_39, show 30 < 1 + 30 by decide]
  · intro m G _ hm
    refine ⟨(), ?_⟩
    rw [t9_3]
    simp (disch := first | assumption | omega | decide | exact hX_o13 | exact hU_o | exact hX_o45 | exact hX_o47 | exact hX_o49 | exact hX_o54 | exact hU_o7 | exact hU_o9 | exact hU_o11 | exact hU_o13) only [t9_5, t9_6, t9_9, t9_10, t9_13, t9_15, t9_16, t9_19, t9_22, hC_13, hC_45, hC_47, hC_49, hC_54, gF_6_0, gF_6_1, gF_6_2, gF_6_3, gF_6_4, gF_6_5, gF_6_6, gF_6_7, gF_6_8, gF_6_9, hU_0, hU_7, hU_9, hU_11, hU_13, gF_5_0, gF_5_1, gF_5_2, gF_5_3, gF_5_4, gF_5_5, gF_5_6, gF_5_7, gF_5_8, gF_5_9, gF_5_10, gF_5_11, gF_5_12, gF_5_13, gF_3_0, gF_3_1, gF_3_2, gF_3_3, ln_add, nl_add, ln_mul, nl_mul, nI_add, nI_1, i32_nl, ite_not, lt_nn, lt_nl, lt_ln, eq_nn, eq_nl, eq_ln, if_true, if_false, kil_i, kil_r, kil_l, kil_u, rl_s, rl_n, Nat.zero_add, Nat.lt_irrefl, not_true_eq_false, not_false_eq_true, true_and, dp_1, dp_2, dp_3, dp_4, dp_5, dp_6, dp_7, dp_8, dp_9, dp_10, dp_11, dp_12, dp_13, dp_14, dp_15, dp_16, dp_17, dp_18, dp_19, dp_20, dp_21, dp_22, dp_23, dp_24, dp_25, dp_26, dp_27, dp_28, dp_29, dp_30, dp_31, dp_32, dp_33, dp_34, dp_35, dp_36, dp_37, dp_38, dp_39, show ¬ 5 < m by omega, gF_1_0, pG _ _ _ hm]
  · intro G _
    rw [t9_3]
    simp (disch := first | assumption | omega | decide | exact hX_o13 | exact hU_o | exact hX_o45 | exact hX_o47 | exact hX_o49 | exact hX_o54 | exact hU_o7 | exact hU_o9 | exact hU_o11 | exact hU_o13) only [t9_5, t9_6, t9_25, t9_26, t9_28, t9_29, hC_13, hC_45, hC_47, hC_49, hC_54, gF_6_0, gF_6_1, gF_6_2, gF_6_3, gF_6_4, gF_6_5, gF_6_6, gF_6_7, gF_6_8, gF_6_9, hU_0, hU_7, hU_9, hU_11, hU_13, gF_5_0, gF_5_1, gF_5_2, gF_5_3, gF_5_4, gF_5_5, gF_5_6, gF_5_7, gF_5_8, gF_5_9, gF_5_10, gF_5_11, gF_5_12, gF_5_13, gF_3_0, gF_3_1, gF_3_2, gF_3_3, ln_add, nl_add, ln_mul, nl_mul, nI_add, nI_1, i32_nl, ite_not, lt_nn, lt_nl, lt_ln, eq_nn, eq_nl, eq_ln, if_true, if_false, kil_i, kil_r, kil_l, kil_u, rl_s, rl_n, Nat.zero_add, Nat.lt_irrefl, not_true_eq_false, not_false_eq_true, true_and, dp_1, dp_2, dp_3, dp_4, dp_5, dp_6, dp_7, dp_8, dp_9, dp_10, dp_11, dp_12, dp_13, dp_14, dp_15, dp_16, dp_17, dp_18, dp_19, dp_20, dp_21, dp_22, dp_23, dp_24, dp_25, dp_26, dp_27, dp_28, dp_29, dp_30, dp_31, dp_32, dp_33, dp_34, dp_35, dp_36, dp_37, dp_38, dp_39, show 5 < 6 by decide]
    exact Iff.rfl
def tlF (R : Nat → Int32) (i sn j : Nat) (s : Int32 × Int32) : Int32 × Int32 := (if nI (mxV R i j sn) < s.2 then nI j else s.1, if nI (mxV R i j sn) < s.2 then nI (mxV R i j sn) else s.2)
theorem tel_eq {R : Nat → Int32} {i sn : Nat} (hp : ∃ n, n < 30 ∧ fitP R i sn n = true) : (itr (tlF R i sn) hh 0 (-1, 31)).1 = (itr (telF R i sn) hh 0 (-1, 99)).1 := by
  have hpos : ∀ j, 0 < mxV R i j sn := fun j => cnt_pos (fun n => fitK_lt) 30 hp
  have hle : ∀ j, mxV R i j sn ≤ 30 := fun j => (@mos_n R i j sn).2
  have e : itr (telF R i sn) hh 0 (-1, 99) = itr (tlF R i sn) hh 0 (-1, 99) := itr_congr hh 0 _ (fun j s _ _ => by
    have h1 : (0 : Int32) < nI (mxV R i j sn) := (nI_ltI (by decide) (by have := hle j; omega) : nI 0 < nI (mxV R i j sn) ↔ 0 < mxV R i j sn).mpr (hpos j)
    unfold telF tlF
    rw [mos_n.1]
    simp only [h1, true_and])
  rw [e]
  cases hh with
  | zero => rfl
  | succ m =>
    have := itr_beg (f := fun j => nI (mxV R i j sn)) (w := fun j => nI j) (a := 31) (b := 99) (n := m + 1) (by omega) ((nI_ltI (by have := hle 0; omega) (by decide) : nI (mxV R i 0 sn) < nI 31 ↔ mxV R i 0 sn < 31).mpr (by have := hle 0; omega)) ((nI_ltI (by have := hle 0; omega) (by decide) : nI (mxV R i 0 sn) < nI 99 ↔ mxV R i 0 sn < 99).mpr (by have := hle 0; omega))
    exact congrArg Prod.fst this
theorem tel_none {R : Nat → Int32} {i sn : Nat} (hp : ∀ n, n < 30 → fitP R i sn n = false) : (itr (telF R i sn) hh 0 (-1, 99)).1 = -1 := by
  have h0 : ∀ j, mos R i j sn = 0 := fun j => by
    rw [mos_n.1]
    have : mxV R i j sn = 0 := by
      have h := @mx6_le (fun k => cnt (fitP R i sn) (fitK R i j) k 30) 0 (fun k _ => Nat.le_of_eq (cnt_none 30 hp))
      unfold mxV
      omega
    rw [this]; rfl
  have key : ∀ n j (s : Int32 × Int32), s.1 = -1 → (itr (telF R i sn) n j s).1 = -1 := by
    intro n
    induction n with
    | zero => intro j s hs; exact hs
    | succ n ih =>
      intro j s hs
      unfold itr
      refine ih (j + 1) _ ?_
      unfold telF
      rw [h0 j]
      simp only [Int32.lt_irrefl, false_and, if_false]
      exact hs
  exact key hh 0 _ rfl
theorem W_bestHouse {i : Nat} (ri : RI R g hh sn nn mn un0) (sm : SM D R g hh sn nn mn un0) (hi : i < g)
    (k : ∀ G, Q (some (.int (itr (telF R i sn) hh 0 (-1, 99)).1)) (hX h ab be V (wA O 48 G) D)) :
    T (d + 6) 8 0 [.ref 47, .ref 14, .int (nI i), un, un, un, un, un] [] (hX h ab be V O D) Q := by
  have h4 := ri.2.1.2
  have hh0 : D 0 1 = nI hh := sm.1.2.1.trans ri.2.1.1
  have hv : vB (fitP R i sn) 30 < 2 ^ 31 := vB_lt _ 30
  have W := @W_sizeBits (d + 0) h (fun r h2 => T (d + 6) 8 6 [.ref 47, .ref 14, .int (nI i), un, un, un, un, un] (rl r []) h2 Q) ab be V O D R g hh sn nn mn un0 i ri sm hi
  simp (disch := first | assumption | omega | decide | exact hX_o13 | exact hU_o | exact hX_o45 | exact hX_o47 | exact hX_o49 | exact hX_o54 | exact hU_o7 | exact hU_o9 | exact hU_o11 | exact hU_o13) only [t8_0, t8_1, t8_2, t8_3, hC_13, hC_45, hC_47, hC_49, hC_54, gF_6_0, gF_6_1, gF_6_2, gF_6_3, gF_6_4, gF_6_5, gF_6_6, gF_6_7, gF_6_8, gF_6_9, hU_0, hU_7, hU_9, hU_11, hU_13, gF_5_0, gF_5_1, gF_5_2, gF_5_3, gF_5_4, gF_5_5, gF_5_6, gF_5_7, gF_5_8, gF_5_9, gF_5_10, gF_5_11, gF_5_12, gF_5_13, gF_3_0, gF_3_1, gF_3_2, gF_3_3, ln_add, nl_add, ln_mul, nl_mul, nI_add, nI_1, i32_nl, ite_not, lt_nn, lt_nl, lt_ln, eq_nn, eq_nl, eq_ln, if_true, if_false, kil_i, kil_r, kil_l, kil_u, rl_s, rl_n, Nat.zero_add, Nat.lt_irrefl, not_true_eq_false, not_false_eq_true, true_and, dp_1, dp_2, dp_3, dp_4, dp_5, dp_6, dp_7, dp_8, dp_9, dp_10, dp_11, dp_12, dp_13, dp_14, dp_15, dp_16, dp_17, dp_18, dp_19, dp_20, dp_21, dp_22, dp_23, dp_24, dp_25, dp_26, dp_27, dp_28, dp_29, dp_30, dp_31, dp_32, dp_33, dp_34, dp_35, dp_36, dp_37, dp_38, dp_39]
  refine W.2 ?_
  show T (d + 6) 8 6 [.ref 47, .ref 14, .int (nI i), un, un, un, un, un] (rl (some (.int (nI (vB (fitP R i sn) 30)))) []) (hX h ab be V O D) Q
  simp (disch := first | assumption | omega | decide | exact hX_o13 | exact hU_o | exact hX_o45 | exact hX_o47 | exact hX_o49 | exact hX_o54 | exact hU_o7 | exact hU_o9 | exact hU_o11 | exact hU_o13) only [t8_6, t8_7, t8_8, t8_10, t8_12, t8_14, t8_15, hC_13, hC_45, hC_47, hC_49, hC_54, gF_6_0, gF_6_1, gF_6_2, gF_6_3, gF_6_4, gF_6_5, gF_6_6, gF_6_7, gF_6_8, gF_6_9, hU_0, hU_7, hU_9, hU_11, hU_13, gF_5_0, gF_5_1, gF_5_2, gF_5_3, gF_5_4, gF_5_5, gF_5_6, gF_5_7, gF_5_8, gF_5_9, gF_5_10, gF_5_11, gF_5_12, gF_5_13, gF_3_0, gF_3_1, gF_3_2, gF_3_3, ln_add, nl_add, ln_mul, nl_mul, nI_add, nI_1, i32_nl, ite_not, lt_nn, lt_nl, lt_ln, eq_nn, eq_nl, eq_ln, if_true, if_false, kil_i, kil_r, kil_l, kil_u, rl_s, rl_n, Nat.zero_add, Nat.lt_irrefl, not_true_eq_false, not_false_eq_true, true_and, dp_1, dp_2, dp_3, dp_4, dp_5, dp_6, dp_7, dp_8, dp_9, dp_10, dp_11, dp_12, dp_13, dp_14, dp_15, dp_16, dp_17, dp_18, dp_19, dp_20, dp_21, dp_22, dp_23, dp_24, dp_25, dp_26, dp_27, dp_28, dp_29, dp_30, dp_31, dp_32, dp_33, dp_34, dp_35, dp_36, dp_37, dp_38, dp_39]
  by_cases q : vB (fitP R i sn) 30 = 0
  · rw [t8_17]
    simp (disch := first | assumption | omega | decide | exact hX_o13 | exact hU_o | exact hX_o45 | exact hX_o47 | exact hX_o49 | exact hX_o54 | exact hU_o7 | exact hU_o9 | exact hU_o11 | exact hU_o13) only [t8_18, t8_62, t8_64, hC_13, hC_45, hC_47, hC_49, hC_54, gF_6_0, gF_6_1, gF_6_2, gF_6_3, gF_6_4, gF_6_5, gF_6_6, gF_6_7, gF_6_8, gF_6_9, hU_0, hU_7, hU_9, hU_11, hU_13, gF_5_0, gF_5_1, gF_5_2, gF_5_3, gF_5_4, gF_5_5, gF_5_6, gF_5_7, gF_5_8, gF_5_9, gF_5_10, gF_5_11, gF_5_12, gF_5_13, gF_3_0, gF_3_1, gF_3_2, gF_3_3, ln_add, nl_add, ln_mul, nl_mul, nI_add, nI_1, i32_nl, ite_not, lt_nn, lt_nl, lt_ln, eq_nn, eq_nl, eq_ln, if_true, if_false, kil_i, kil_r, kil_l, kil_u, rl_s, rl_n, Nat.zero_add, Nat.lt_irrefl, not_true_eq_false, not_false_eq_true, true_and, dp_1, dp_2, dp_3, dp_4, dp_5, dp_6, dp_7, dp_8, dp_9, dp_10, dp_11, dp_12, dp_13, dp_14, dp_15, dp_16, dp_17, dp_18, dp_19, dp_20, dp_21, dp_22, dp_23, dp_24, dp_25, dp_26, dp_27, dp_28, dp_29, dp_30, dp_31, dp_32, dp_33, dp_34, dp_35, dp_36, dp_37, dp_38, dp_39, q]
    have := k (O 48)
    rw [wA_self, tel_none ((vB_z _ 30).mp q)] at this
    exact this
  · have L := loop_w (P := fun j (s : Int32 × Int32) (u : (Nat → Int32) × Value) => T (d + 6) 8 17 [.ref 47, .ref 14, .int (nI i), .int (nI (vB (fitP R i sn) 30)), .int s.1, .int s.2, .int (nI j), u.2] [] (hX h ab be V (wA O 48 u.1) D) Q) (F := tlF R i sn) (g := hh) ?_ (-1, 31) ?_ (O 48, un)
    · rw [wA_self] at L
      exact L
    · intro j s u hj hs
      rw [t8_17]
      simp (disch := first | assumption | omega | decide | exact hX_o13 | exact hU_o | exact hX_o45 | exact hX_o47 | exact hX_o49 | exact hX_o54 | exact hU_o7 | exact hU_o9 | exact hU_o11 | exact hU_o13) only [t8_18, t8_21, t8_23, t8_24, t8_27, t8_30, t8_31, t8_32, t8_33, t8_34, t8_36, hC_13, hC_45, hC_47, hC_49, hC_54, gF_6_0, gF_6_1, gF_6_2, gF_6_3, gF_6_4, gF_6_5, gF_6_6, gF_6_7, gF_6_8, gF_6_9, hU_0, hU_7, hU_9, hU_11, hU_13, gF_5_0, gF_5_1, gF_5_2, gF_5_3, gF_5_4, gF_5_5, gF_5_6, gF_5_7, gF_5_8, gF_5_9, gF_5_10, gF_5_11, gF_5_12, gF_5_13, gF_3_0, gF_3_1, gF_3_2, gF_3_3, ln_add, nl_add, ln_mul, nl_mul, nI_add, nI_1, i32_nl, ite_not, lt_nn, lt_nl, lt_ln, eq_nn, eq_nl, eq_ln, if_true, if_false, kil_i, kil_r, kil_l, kil_u, rl_s, rl_n, Nat.zero_add, Nat.lt_irrefl, not_true_eq_false, not_false_eq_true, true_and, dp_1, dp_2, dp_3, dp_4, dp_5, dp_6, dp_7, dp_8, dp_9, dp_10, dp_11, dp_12, dp_13, dp_14, dp_15, dp_16, dp_17, dp_18, dp_19, dp_20, dp_21, dp_22, dp_23, dp_24, dp_25, dp_26, dp_27, dp_28, dp_29, dp_30, dp_31, dp_32, dp_33, dp_34, dp_35, dp_36, dp_37, dp_38, dp_39, q, hh0, hj]
      refine W_largestGroup (d := d + 1) ri sm hi hj (fun G => ?_)
      have hs2 := hs (G, .int (nI (mxV R i j sn)))
      unfold tlF at hs2
      by_cases q2 : nI (mxV R i j sn) < s.2
      · rw [if_pos q2, if_pos q2] at hs2
        simp (disch := first | assumption | omega | decide | exact hX_o13 | exact hU_o | exact hX_o45 | exact hX_o47 | exact hX_o49 | exact hX_o54 | exact hU_o7 | exact hU_o9 | exact hU_o11 | exact hU_o13) only [t8_39, t8_41, t8_43, t8_45, t8_48, t8_50, t8_52, t8_54, t8_56, t8_59, hC_13, hC_45, hC_47, hC_49, hC_54, gF_6_0, gF_6_1, gF_6_2, gF_6_3, gF_6_4, gF_6_5, gF_6_6, gF_6_7, gF_6_8, gF_6_9, hU_0, hU_7, hU_9, hU_11, hU_13, gF_5_0, gF_5_1, gF_5_2, gF_5_3, gF_5_4, gF_5_5, gF_5_6, gF_5_7, gF_5_8, gF_5_9, gF_5_10, gF_5_11, gF_5_12, gF_5_13, gF_3_0, gF_3_1, gF_3_2, gF_3_3, ln_add, nl_add, ln_mul, nl_mul, nI_add, nI_1, i32_nl, ite_not, lt_nn, lt_nl, lt_ln, eq_nn, eq_nl, eq_ln, if_true, if_false, kil_i, kil_r, kil_l, kil_u, rl_s, rl_n, Nat.zero_add, Nat.lt_irrefl, not_true_eq_false, not_false_eq_true, true_and, dp_1, dp_2, dp_3, dp_4, dp_5, dp_6, dp_7, dp_8, dp_9, dp_10, dp_11, dp_12, dp_13, dp_14, dp_15, dp_16, dp_17, dp_18, dp_19, dp_20, dp_21, dp_22, dp_23, dp_24, dp_25, dp_26, dp_27, dp_28, dp_29, dp_30, dp_31, dp_32, dp_33, dp_34, dp_35, dp_36, dp_37, dp_38, dp_39, q2]
        exact hs2
      · rw [if_neg q2, if_neg q2] at hs2
        simp (disch := first | assumption | omega | decide | exact hX_o13 | exact hU_o | exact hX_o45 | exact hX_o47 | exact hX_o49 | exact hX_o54 | exact hU_o7 | exact hU_o9 | exact hU_o11 | exact hU_o13) only [t8_39, t8_41, t8_43, t8_45, t8_48, t8_50, t8_52, t8_54, t8_56, t8_59, hC_13, hC_45, hC_47, hC_49, hC_54, gF_6_0, gF_6_1, gF_6_2, gF_6_3, gF_6_4, gF_6_5, gF_6_6, gF_6_7, gF_6_8, gF_6_9, hU_0, hU_7, hU_9, hU_11, hU_13, gF_5_0, gF_5_1, gF_5_2, gF_5_3, gF_5_4, gF_5_5, gF_5_6, gF_5_7, gF_5_8, gF_5_9, gF_5_10, gF_5_11, gF_5_12, gF_5_13, gF_3_0, gF_3_1, gF_3_2, gF_3_3, ln_add, nl_add, ln_mul, nl_mul, nI_add, nI_1, i32_nl, ite_not, lt_nn, lt_nl, lt_ln, eq_nn, eq_nl, eq_ln, if_true, if_false, kil_i, kil_r, kil_l, kil_u, rl_s, rl_n, Nat.zero_add, Nat.lt_irrefl, not_true_eq_false, not_false_eq_true, true_and, dp_1, dp_2, dp_3, dp_4, dp_5, dp_6, dp_7, dp_8, dp_9, dp_10, dp_11, dp_12, dp_13, dp_14, dp_15, dp_16, dp_17, dp_18, dp_19, dp_20, dp_21, dp_22, dp_23, dp_24, dp_25, dp_26, dp_27, dp_28, dp_29, dp_30, dp_31, dp_32, dp_33, dp_34, dp_35, dp_36, dp_37, dp_38, dp_39, q2]
        exact hs2
    · intro u
      have hp : ∃ n, n < 30 ∧ fitP R i sn n = true := by
        by_cases z : ∃ n, n < 30 ∧ fitP R i sn n = true
        · exact z
        · exact absurd ((vB_z _ 30).mpr (fun n hn => by
            cases y : fitP R i sn n with
            | false => rfl
            | true => exact absurd ⟨n, hn, y⟩ z)) q
      rw [t8_17]
      simp (disch := first | assumption | omega | decide | exact hX_o13 | exact hU_o | exact hX_o45 | exact hX_o47 | exact hX_o49 | exact hX_o54 | exact hU_o7 | exact hU_o9 | exact hU_o11 | exact hU_o13) only [t8_18, t8_21, t8_23, t8_24, t8_27, t8_62, t8_64, hC_13, hC_45, hC_47, hC_49, hC_54, gF_6_0, gF_6_1, gF_6_2, gF_6_3, gF_6_4, gF_6_5, gF_6_6, gF_6_7, gF_6_8, gF_6_9, hU_0, hU_7, hU_9, hU_11, hU_13, gF_5_0, gF_5_1, gF_5_2, gF_5_3, gF_5_4, gF_5_5, gF_5_6, gF_5_7, gF_5_8, gF_5_9, gF_5_10, gF_5_11, gF_5_12, gF_5_13, gF_3_0, gF_3_1, gF_3_2, gF_3_3, ln_add, nl_add, ln_mul, nl_mul, nI_add, nI_1, i32_nl, ite_not, lt_nn, lt_nl, lt_ln, eq_nn, eq_nl, eq_ln, if_true, if_false, kil_i, kil_r, kil_l, kil_u, rl_s, rl_n, Nat.zero_add, Nat.lt_irrefl, not_true_eq_false, not_false_eq_true, true_and, dp_1, dp_2, dp_3, dp_4, dp_5, dp_6, dp_7, dp_8, dp_9, dp_10, dp_11, dp_12, dp_13, dp_14, dp_15, dp_16, dp_17, dp_18, dp_19, dp_20, dp_21, dp_22, dp_23, dp_24, dp_25, dp_26, dp_27, dp_28, dp_29, dp_30, dp_31, dp_32, dp_33, dp_34, dp_35, dp_36, dp_37, dp_38, dp_39, q, hh0]
      rw [tel_eq hp]
      exact k u.1
end W4
section X8
variable {d : Nat} {h : Hp} {S : St} {g hh sn nn mn un0 n : Nat} {Q : Pst}
theorem X_tell {i : Int32} (c : ClsAt h S g hh sn nn mn un0 n) (k : ∀ h2, CAx h2 (sp_tell g hh sn S i).2 → frC h h2 → Q (some (.int (sp_tell g hh sn S i).1)) h2) : T (d + 9) 98 0 [.ref 13, .int i] [] h Q := by
  obtain ⟨ab, be, V, O, D, I, c1, c2, cb, ri, sm⟩ := c
  refine T_eq (hX_self c1 c2) ?_
  have re := sm.rl ri
  unfold sp_tell at k
  by_cases q : rg i 0 (g - 1 : Int) = true
  · rw [if_pos q] at k
    obtain ⟨a, ha, rfl⟩ := rg_n q
    have h6 := ri.1.2
    simp (disch := first | assumption | omega | decide) only [nI_clamp] at k
    simp (disch := first | assumption | omega | decide | exact hX_o13 | exact hU_o | exact hX_o45 | exact hX_o47 | exact hX_o49 | exact hX_o54 | exact hU_o7 | exact hU_o9 | exact hU_o11 | exact hU_o13) only [t98_0, t98_1, t98_4, t98_5, t98_8, t98_11, t98_12, t98_14, t98_17, t98_18, t98_19, t98_22, t98_23, t98_26, t98_27, hC_13, hC_45, hC_47, hC_49, hC_54, gF_6_0, gF_6_1, gF_6_2, gF_6_3, gF_6_4, gF_6_5, gF_6_6, gF_6_7, gF_6_8, gF_6_9, hU_0, hU_7, hU_9, hU_11, hU_13, gF_5_0, gF_5_1, gF_5_2, gF_5_3, gF_5_4, gF_5_5, gF_5_6, gF_5_7, gF_5_8, gF_5_9, gF_5_10, gF_5_11, gF_5_12, gF_5_13, gF_3_0, gF_3_1, gF_3_2, gF_3_3, ln_add, nl_add, ln_mul, nl_mul, nI_add, nI_1, i32_nl, ite_not, lt_nn, lt_nl, lt_ln, eq_nn, eq_nl, eq_ln, if_true, if_false, kil_i, kil_r, kil_l, kil_u, rl_s, rl_n, Nat.zero_add, Nat.lt_irrefl, not_true_eq_false, not_false_eq_true, true_and, dp_1, dp_2, dp_3, dp_4, dp_5, dp_6, dp_7, dp_8, dp_9, dp_10, dp_11, dp_12, dp_13, dp_14, dp_15, dp_16, dp_17, dp_18, dp_19, dp_20, dp_21, dp_22, dp_23, dp_24, dp_25, dp_26, dp_27, dp_28, dp_29, dp_30, dp_31, dp_32, dp_33, dp_34, dp_35, dp_36, dp_37, dp_38, dp_39, U_hasGuest re, zb_0, q]
    refine W_bestHouse (d := d + 2) ri sm ha (fun G => ?_)
    simp (disch := first | assumption | omega | decide | exact hX_o13 | exact hU_o | exact hX_o45 | exact hX_o47 | exact hX_o49 | exact hX_o54 | exact hU_o7 | exact hU_o9 | exact hU_o11 | exact hU_o13) only [t98_30, hC_13, hC_45, hC_47, hC_49, hC_54, gF_6_0, gF_6_1, gF_6_2, gF_6_3, gF_6_4, gF_6_5, gF_6_6, gF_6_7, gF_6_8, gF_6_9, hU_0, hU_7, hU_9, hU_11, hU_13, gF_5_0, gF_5_1, gF_5_2, gF_5_3, gF_5_4, gF_5_5, gF_5_6, gF_5_7, gF_5_8, gF_5_9, gF_5_10, gF_5_11, gF_5_12, gF_5_13, gF_3_0, gF_3_1, gF_3_2, gF_3_3, ln_add, nl_add, ln_mul, nl_mul, nI_add, nI_1, i32_nl, ite_not, lt_nn, lt_nl, lt_ln, eq_nn, eq_nl, eq_ln, if_true, if_false, kil_i, kil_r, kil_l, kil_u, rl_s, rl_n, Nat.zero_add, Nat.lt_irrefl, not_true_eq_false, not_false_eq_true, true_and, dp_1, dp_2, dp_3, dp_4, dp_5, dp_6, dp_7, dp_8, dp_9, dp_10, dp_11, dp_12, dp_13, dp_14, dp_15, dp_16, dp_17, dp_18, dp_19, dp_20, dp_21, dp_22, dp_23, dp_24, dp_25, dp_26, dp_27, dp_28, dp_29, dp_30, dp_31, dp_32, dp_33, dp_34, dp_35, dp_36, dp_37, dp_38, dp_39]
    exact kcN (cb.oth (a := 48) (by decide) (by decide)) ri sm k
  · rw [if_neg q] at k
    simp (disch := first | assumption | omega | decide | exact hX_o13 | exact hU_o | exact hX_o45 | exact hX_o47 | exact hX_o49 | exact hX_o54 | exact hU_o7 | exact hU_o9 | exact hU_o11 | exact hU_o13) only [t98_0, t98_1, t98_4, t98_5, t98_8, t98_11, t98_12, t98_14, t98_17, t98_18, t98_19, t98_22, t98_23, t98_26, t98_27, t98_30, hC_13, hC_45, hC_47, hC_49, hC_54, gF_6_0, gF_6_1, gF_6_2, gF_6_3, gF_6_4, gF_6_5, gF_6_6, gF_6_7, gF_6_8, gF_6_9, hU_0, hU_7, hU_9, hU_11, hU_13, gF_5_0, gF_5_1, gF_5_2, gF_5_3, gF_5_4, gF_5_5, gF_5_6, gF_5_7, gF_5_8, gF_5_9, gF_5_10, gF_5_11, gF_5_12, gF_5_13, gF_3_0, gF_3_1, gF_3_2, gF_3_3, ln_add, nl_add, ln_mul, nl_mul, nI_add, nI_1, i32_nl, ite_not, lt_nn, lt_nl, lt_ln, eq_nn, eq_nl, eq_ln, if_true, if_false, kil_i, kil_r, kil_l, kil_u, rl_s, rl_n, Nat.zero_add, Nat.lt_irrefl, not_true_eq_false, not_false_eq_true, true_and, dp_1, dp_2, dp_3, dp_4, dp_5, dp_6, dp_7, dp_8, dp_9, dp_10, dp_11, dp_12, dp_13, dp_14, dp_15, dp_16, dp_17, dp_18, dp_19, dp_20, dp_21, dp_22, dp_23, dp_24, dp_25, dp_26, dp_27, dp_28, dp_29, dp_30, dp_31, dp_32, dp_33, dp_34, dp_35, dp_36, dp_37, dp_38, dp_39, U_hasGuest re, zb_0, q, C_refB, Bool.false_eq_true]
    exact kcR cb ri sm 0 k
end X8
