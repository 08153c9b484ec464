/-! the reference: what it writes into its row -/
def isMO (h : Hp) : Prop := ∃ ab be ln pa pb rg rh dg, h.2.2 58 = MO ab be ln pa pb rg rh dg
def hm (h : Hp) (R : Nat → Int32) : Hp := hup h 59 (oI 636 R)
theorem hm_58 {h : Hp} {R : Nat → Int32} : (hm h R).2.2 58 = h.2.2 58 := rfl
theorem hm_59 {h : Hp} {R : Nat → Int32} : (hm h R).2.2 59 = oI 636 R := rfl
theorem hm_up {h : Hp} {R R2 : Nat → Int32} : hup (hm h R) 59 (oI 636 R2) = hm h R2 := hup_same
theorem isMO.mr {h : Hp} {R : Nat → Int32} (m : isMO h) : MR (hm h R) R := by
  obtain ⟨ab, be, ln, pa, pb, rg, rh, dg, e⟩ := m
  exact ⟨⟨ab, be, ln, pa, pb, rg, rh, dg, e⟩, rfl⟩
theorem isMO.o {h : Hp} {R : Nat → Int32} (m : isMO h) : isO ((hm h R).2.2 58) 7 := m.mr.o
/-- n places from src on, copied to dst on -/
def cpR (R : Nat → Int32) (src dst n : Nat) : Nat → Int32 := fun j => if dst ≤ j ∧ j < dst + n then R (src + (j - dst)) else R j
theorem itr_cp (src dst : Nat) : ∀ n i (R0 R : Nat → Int32), (dst ≤ src ∨ src + i + n ≤ dst) → R = cpR R0 src dst i → itr (fun k (R : Nat → Int32) => upd R (dst + k) (R (src + k))) n i R = cpR R0 src dst (i + n) := by
  intro n
  induction n with
  | zero => intro i R0 R _ e; exact e
  | succ n ih =>
    intro i R0 R hd e
    unfold itr
    rw [show i + (n + 1) = (i + 1) + n by omega]
    refine ih (i + 1) R0 _ (by omega) ?_
    funext j
    by_cases q : j = dst + i
    · subst q
      simp only [upd, cpR, e, if_true]
      rw [if_neg (by omega), if_pos (by omega)]
      congr 1; omega
    · simp only [upd, if_neg q, e, cpR]
      by_cases q2 : dst ≤ j ∧ j < dst + i
      · rw [if_pos q2, if_pos (by omega)]
      · rw [if_neg q2, if_neg (by omega)]
theorem itr_cp0 {src dst n : Nat} {R : Nat → Int32} (hd : dst ≤ src ∨ src + n ≤ dst) : itr (fun k (R : Nat → Int32) => upd R (dst + k) (R (src + k))) n 0 R = cpR R src dst n := by
  rw [itr_cp src dst n 0 R R (by omega) ?_, Nat.zero_add]
  funext j
  unfold cpR
  rw [if_neg (by omega)]
theorem itr_z (N : Nat) (R : Nat → Int32) : itr (fun k (R : Nat → Int32) => upd R k 0) N 0 R = fun j => if j < N then 0 else R j := by
  have key : ∀ n i (Q : Nat → Int32), (Q = fun j => if j < i then 0 else R j) → itr (fun k (R : Nat → Int32) => upd R k 0) n i Q = fun j => if j < i + n then 0 else R j := by
    intro n
    induction n with
    | zero => intro i Q e; exact e
    | succ n ih =>
      intro i Q e
      unfold itr
      rw [show i + (n + 1) = (i + 1) + n by omega]
      refine ih (i + 1) _ ?_
      rw [e]
      funext j
      simp only [upd]
      by_cases q : j = i
      · rw [if_pos q, if_pos (by omega)]
      · rw [if_neg q]
        by_cases q2 : j < i
        · rw [if_pos q2, if_pos (by omega)]
        · rw [if_neg q2, if_neg (by omega)]
  have := key N 0 R (by funext j; rw [if_neg (by omega)])
  rw [this, Nat.zero_add]
section M3
variable {d : Nat} {R : Nat → Int32} {h : Hp} {Q : Pst}
theorem E_layUplands {w : Int32} (mo : isMO h) : T d 131 0 [.ref 58, .int w, un] [] (hm h R) Q ↔ Q none (hm h (upd (fun j => if j < 208 then 0 else R j) 10 w)) := by
  obtain ⟨ab, be, ln, pa, pb, rg, rh, dg, e1⟩ := mo
  simp (disch := first | assumption | omega | decide) only [t131_0, t131_1, kil_i]
  have L := loop_d (P := fun i (S : Nat → Int32) (u : Value) => T d 131 2 [.ref 58, .int w, .int (nI i)] [] (hm h S) Q) (F := fun k S => upd S k 0) (E := fun S => Q none (hm h (upd S 10 w))) (g := 208) ?_ ?_
  · rw [← itr_z]; exact L R un
  · intro i S u hi
    refine ⟨un, ?_⟩
    rw [t131_2]
    simp (disch := first | assumption | omega | decide) only [t131_0, t131_1, t131_3, t131_6, t131_9, t131_10, t131_13, t131_14, t131_15, t131_16, t131_19, t131_22, t131_23, t131_26, t131_28, t131_29, t131_30, hm_58, hm_59, hm_up, e1, MO, gF_7_0, aS_n, i32_nl, ite_not, lt_nl, hi, if_true, kil_i, nI_1]
  · intro S u
    rw [t131_2]
    simp (disch := first | assumption | omega | decide) only [t131_3, t131_6, t131_22, t131_23, t131_26, t131_28, t131_29, t131_30, hm_58, hm_59, hm_up, e1, MO, gF_7_0, aS_l, i32_nl, ite_not, lt_nl, Nat.lt_irrefl, if_false]
/-- a guest more -/
def rwG (R : Nat → Int32) (k s : Int32) (g : Nat) : Nat → Int32 := upd (upd (upd (upd (upd R (13 + g) k) (19 + g) s) g (-1)) 12 (nI (g + 1))) 111 0
theorem E_addGuest {k s : Int32} {g : Nat} (mo : isMO h) (hg : R 12 = nI g) (h6 : g < 6) : T d 133 0 [.ref 58, .int k, .int s, un] [] (hm h R) Q ↔ Q none (hm h (rwG R k s g)) := by
  obtain ⟨ab, be, ln, pa, pb, rg, rh, dg, e1⟩ := mo
  have e : upd (upd (upd R (13 + g) k) (19 + g) s) (0 + g) (-1) 12 = nI g := by
    simp only [upd]; rw [if_neg (by omega), if_neg (by omega), if_neg (by omega), hg]
  simp (disch := first | assumption | omega | decide) only [t133_0, t133_1, t133_4, t133_6, t133_7, t133_8, t133_9, t133_12, t133_14, t133_15, t133_16, t133_17, t133_18, t133_19, t133_22, t133_24, t133_25, t133_26, t133_27, t133_28, t133_29, t133_32, t133_33, t133_34, t133_35, t133_36, t133_37, t133_38, t133_41, t133_43, t133_44, t133_45, t133_46, t133_47, t133_48, t133_49, t133_52, t133_54, t133_55, t133_56, hm_58, hm_59, hm_up, e1, MO, gF_7_0, aL_l, aS_l, aS_n, hg, ln_add, e, nI_1, kil_i, rwG]
  simp only [Nat.zero_add]
def rwH (R : Nat → Int32) (k s : Int32) (g : Nat) : Nat → Int32 := upd (upd (upd (upd R (26 + g) k) (30 + g) s) 25 (nI (g + 1))) 111 0
theorem E_addHouse {k s : Int32} {g : Nat} (mo : isMO h) (hg : R 25 = nI g) (h6 : g < 4) : T d 135 0 [.ref 58, .int k, .int s, un] [] (hm h R) Q ↔ Q none (hm h (rwH R k s g)) := by
  obtain ⟨ab, be, ln, pa, pb, rg, rh, dg, e1⟩ := mo
  have e : upd (upd R (26 + g) k) (30 + g) s 25 = nI g := by
    simp only [upd]; rw [if_neg (by omega), if_neg (by omega), hg]
  simp (disch := first | assumption | omega | decide) only [t135_0, t135_1, t135_4, t135_6, t135_7, t135_8, t135_9, t135_12, t135_14, t135_15, t135_16, t135_17, t135_18, t135_19, t135_22, t135_24, t135_25, t135_26, t135_27, t135_28, t135_29, t135_32, t135_34, t135_35, t135_36, t135_37, t135_38, t135_39, t135_40, t135_43, t135_45, t135_46, t135_47, hm_58, hm_59, hm_up, e1, MO, gF_7_0, aL_l, aS_l, aS_n, hg, ln_add, e, nI_1, kil_i, rwH]
theorem E_layTried (mo : isMO h) : T d 174 0 [.ref 58, un] [] (hm h R) Q ↔ Q none (hm h (cpR R 0 624 12)) := by
  obtain ⟨ab, be, ln, pa, pb, rg, rh, dg, e1⟩ := mo
  simp (disch := first | assumption | omega | decide) only [t174_0, t174_1, kil_i, kil_r]
  have L := loop_d (P := fun i (S : Nat → Int32) (u : Value) => T d 174 2 [.ref 58, .int (nI i)] [] (hm h S) Q) (F := fun k S => upd S (624 + k) (S (0 + k))) (E := fun S => Q none (hm h S)) (g := 12) ?_ ?_
  · rw [← itr_cp0 (by omega)]; exact L R un
  · intro i S u hi
    refine ⟨un, ?_⟩
    rw [t174_2]
    simp (disch := first | assumption | omega | decide) only [t174_0, t174_1, t174_3, t174_5, t174_8, t174_9, t174_12, t174_15, t174_16, t174_17, t174_18, t174_21, t174_22, t174_23, t174_24, t174_27, t174_30, hm_58, hm_59, hm_up, e1, MO, gF_7_0, aS_n, aL_n, ln_add, i32_nl, ite_not, lt_nl, hi, if_true, kil_r, nI_1, Nat.zero_add]
  · intro S u
    rw [t174_2]
    simp (disch := first | assumption | omega | decide) only [t174_3, t174_5, t174_30, i32_nl, ite_not, lt_nl, Nat.lt_irrefl, if_false]
/-- what may be undone grows by what stands now; the first goes, if there are eight -/
def rwK (R : Nat → Int32) (n : Nat) : Nat → Int32 := upd (cpR R 0 (112 + 12 * n) 12) 111 (nI (n + 1))
def rwS (R : Nat → Int32) : Nat → Int32 := upd (cpR R 124 112 84) 111 (nI 7)
theorem cpR_0 {src dst : Nat} : cpR R src dst 0 = R := by
  funext j; unfold cpR; rw [if_neg (by omega)]
theorem cpR_s {src dst i : Nat} (hd : dst ≤ src ∨ src + i < dst) : upd (cpR R src dst i) (dst + i) (cpR R src dst i (src + i)) = cpR R src dst (i + 1) := by
  funext j
  by_cases q : j = dst + i
  · subst q
    simp only [upd, cpR, if_true]
    rw [if_neg (by omega), if_pos (by omega)]
    congr 1; omega
  · simp only [upd, if_neg q, cpR]
    by_cases q2 : dst ≤ j ∧ j < dst + i
    · rw [if_pos q2, if_pos (by omega)]
    · rw [if_neg q2, if_neg (by omega)]
theorem cpR_o {src dst n j : Nat} (hj : j < dst ∨ dst + n ≤ j) : cpR R src dst n j = R j := by
  unfold cpR; rw [if_neg (by omega)]
theorem cpR_i {src dst n j : Nat} (hj : j < n) : cpR R src dst n (dst + j) = R (src + j) := by
  unfold cpR; rw [if_pos (by omega)]; congr 1; omega
theorem E_keepPast_1 {n : Nat} {u0 : Value} (mo : isMO h) (hn : R 111 = nI n) (h8 : n < 8) : T d 162 55 [.ref 58, u0] [] (hm h R) Q ↔ Q none (hm h (rwK R n)) := by
  obtain ⟨ab, be, ln, pa, pb, rg, rh, dg, e1⟩ := mo
  have hc : ∀ i, cpR R 0 (112 + 12 * n) i 111 = nI n := fun i => by rw [cpR_o (by omega), hn]
  simp (disch := first | assumption | omega | decide) only [t162_55, t162_56, kil_i, kil_r]
  have L := loop_d (P := fun i (_ : Unit) (u : Value) => T d 162 57 [.ref 58, .int (nI i)] [] (hm h (cpR R 0 (112 + 12 * n) i)) Q) (F := fun _ s => s) (E := fun _ => Q none (hm h (rwK R n))) (g := 12) ?_ ?_
  · have L2 := L () un
    rw [cpR_0] at L2
    exact L2
  · intro i _ u hi
    refine ⟨un, ?_⟩
    rw [← cpR_s (by omega), t162_57]
    simp (disch := first | assumption | omega | decide) only [t162_58, t162_60, t162_63, t162_64, t162_67, t162_69, t162_71, t162_72, t162_75, t162_77, t162_78, t162_79, t162_80, t162_81, t162_82, t162_83, t162_86, t162_87, t162_88, t162_89, t162_92, hm_58, hm_59, hm_up, e1, MO, gF_7_0, aS_n, aL_n, aL_l, hc, ln_add, ln_mul, nI_add, i32_nl, ite_not, lt_nl, hi, if_true, kil_r, nI_1, Nat.zero_add]
  · intro _ u
    rw [t162_57]
    simp (disch := first | assumption | omega | decide) only [t162_58, t162_60, t162_95, t162_96, t162_99, t162_101, t162_102, t162_103, t162_104, t162_105, t162_106, hm_58, hm_59, hm_up, e1, MO, gF_7_0, aS_l, aL_l, hc, i32_nl, ite_not, lt_nl, Nat.lt_irrefl, if_false, nI_1, rwK]
/-- how many may be undone then -/
def rwP (R : Nat → Int32) (n : Nat) : Nat → Int32 := if n = 8 then rwK (rwS R) 7 else rwK R n
theorem E_keepPast {n : Nat} (mo : isMO h) (hn : R 111 = nI n) (h8 : n ≤ 8) : T d 162 0 [.ref 58, un] [] (hm h R) Q ↔ Q none (hm h (rwP R n)) := by
  obtain ⟨ab, be, ln, pa, pb, rg, rh, dg, e1⟩ := id mo
  simp (disch := first | assumption | omega | decide) only [t162_0, t162_1, t162_4, t162_6, t162_7, t162_9, hm_58, hm_59, e1, MO, gF_7_0, aL_l, hn, eq_nl]
  by_cases q : n = 8
  · subst q
    simp (disch := first | assumption | omega | decide) only [not_true_eq_false, if_false, t162_12, t162_13, kil_r, rwP, if_true]
    have hc : ∀ i, cpR R 124 112 i 111 = nI 8 := fun i => by rw [cpR_o (by omega), hn]
    have L := loop_d (P := fun i (_ : Unit) (u : Value) => T d 162 14 [.ref 58, .int (nI i)] [] (hm h (cpR R 124 112 i)) Q) (F := fun _ s => s) (E := fun _ => Q none (hm h (rwK (rwS R) 7))) (g := 84) ?_ ?_
    · have L2 := L () un
      rw [cpR_0] at L2
      exact L2
    · intro i _ u hi
      refine ⟨un, ?_⟩
      rw [← cpR_s (by omega), t162_14]
      simp (disch := first | assumption | omega | decide) only [t162_15, t162_17, t162_20, t162_21, t162_24, t162_26, t162_27, t162_28, t162_29, t162_32, t162_34, t162_35, t162_36, t162_37, t162_38, t162_41, hm_58, hm_59, hm_up, e1, MO, gF_7_0, aS_n, aL_n, aL_l, ln_add, i32_nl, ite_not, lt_nl, hi, if_true, kil_r, nI_1]
    · intro _ u
      rw [t162_14]
      simp (disch := first | assumption | omega | decide) only [t162_15, t162_17, t162_44, t162_45, t162_48, t162_50, t162_51, t162_52, t162_53, t162_54, hm_58, hm_59, hm_up, e1, MO, gF_7_0, aS_l, aL_l, hc, i32_nl, ite_not, lt_nl, Nat.lt_irrefl, if_false]
      rw [show nI 8 - 1 = nI 7 from rfl]
      exact E_keepPast_1 (R := rwS R) mo rfl (by omega)
  · simp only [q, not_false_eq_true, if_true, rwP, if_false]
    exact E_keepPast_1 mo hn (by omega)
/-- the liking of all -/
def alk (R : Nat → Int32) (b : Nat) : Int32 := 0 + R (b + 6 + 0) + R (b + 6 + 1) + R (b + 6 + 2) + R (b + 6 + 3)
theorem E_allLiking {b : Nat} (mo : isMO h) (hb : b ≤ 624) : T d 161 0 [.ref 58, .int (nI b), un, un] [] (hm h R) Q ↔ Q (some (.int (alk R b))) (hm h R) := by
  obtain ⟨ab, be, ln, pa, pb, rg, rh, dg, e1⟩ := mo
  simp (disch := first | assumption | omega | decide) only [t161_0, t161_1, t161_2, t161_3, kil_i, kil_r]
  have L := loop_d (P := fun i (s : Int32) (u : Value) => T d 161 4 [.ref 58, .int (nI b), .int s, .int (nI i)] [] (hm h R) Q) (F := fun i s => s + R (b + 6 + i)) (E := fun s => Q (some (.int s)) (hm h R)) (g := 4) ?_ ?_
  · exact L 0 un
  · intro i s u hi
    refine ⟨un, ?_⟩
    rw [t161_4]
    simp (disch := first | assumption | omega | decide) only [t161_5, t161_6, t161_9, t161_10, t161_11, t161_14, t161_15, t161_17, t161_18, t161_19, t161_20, t161_21, t161_22, t161_23, t161_26, hm_58, hm_59, e1, MO, gF_7_0, aL_n, nl_add, nI_add, i32_nl, ite_not, lt_nl, hi, if_true, kil_i, nI_1]
  · intro s u
    rw [t161_4]
    simp (disch := first | assumption | omega | decide) only [t161_5, t161_6, t161_29, t161_30, i32_nl, ite_not, lt_nl, Nat.lt_irrefl, if_false]
/-- who is out -/
def out (R : Nat → Int32) (g : Nat) : Int32 := itr (fun i s => s + if R i = -1 then 0 else 1) g 0 0
theorem E_outOnes {g : Nat} (mo : isMO h) (hg : R 12 = nI g) (h6 : g ≤ 6) : T d 208 0 [.ref 58, un, un] [] (hm h R) Q ↔ Q (some (.int (out R g))) (hm h R) := by
  obtain ⟨ab, be, ln, pa, pb, rg, rh, dg, e1⟩ := mo
  simp (disch := first | assumption | omega | decide) only [t208_0, t208_1, t208_2, t208_3, kil_i, kil_r]
  have L := loop_d (P := fun i (s : Int32) (u : Value) => T d 208 4 [.ref 58, .int s, .int (nI i)] [] (hm h R) Q) (F := fun i s => s + if R i = -1 then 0 else 1) (E := fun s => Q (some (.int s)) (hm h R)) (g := g) ?_ ?_
  · exact L 0 un
  · intro i s u hi
    refine ⟨un, ?_⟩
    rw [t208_4]
    simp (disch := first | assumption | omega | decide) only [t208_5, t208_6, t208_9, t208_11, t208_12, t208_15, t208_16, t208_17, t208_20, t208_21, t208_22, t208_23, t208_24, t208_25, t208_28, t208_29, t208_32, t208_33, t208_34, t208_35, t208_38, hm_58, hm_59, e1, MO, gF_7_0, aL_n, aL_l, hg, ln_add, i32_nl, ite_not, lt_nn, hi, if_true, kil_i, kil_r, nI_1, Nat.zero_add]
    by_cases q : R i = -1 <;> simp only [q, not_true_eq_false, not_false_eq_true, if_true, if_false, kil_r]
  · intro s u
    rw [t208_4]
    simp (disch := first | assumption | omega | decide) only [t208_5, t208_6, t208_9, t208_11, t208_12, t208_41, t208_42, hm_58, hm_59, e1, MO, gF_7_0, aL_l, hg, i32_nl, ite_not, lt_nn, Nat.lt_irrefl, if_false]
end M3
