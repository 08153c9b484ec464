theorem b0 : (mR 0).2.2.1 = cX0_init := by rw [m0]
theorem c0_0 : cod 0 0 = some (.aload_n 0, 1) := cod_of b0 dX0_init_0
theorem t0_0 {d : Nat} {h : Hp} {Q : Pst} {x : Nat} {st : List Value} : T d 0 0 [.ref x] st h Q ↔ T d 0 1 [.ref x] (.ref x :: st) h Q := T_aload_n c0_0 rfl
theorem c0_1 : cod 0 1 = some (.invokespecial 3, 3) := cod_of b0 dX0_init_1
theorem t0_1 {d : Nat} {h : Hp} {Q : Pst} {a : Nat} {ls : List Value} : T (d + 1) 0 1 ls [.ref a] h Q ↔ T (d + 1) 0 4 ls [] h Q := T_objinitR m0 c0_1 k0_3 (by simp [stk, Value.category])
theorem c0_4 : cod 0 4 = some (.aload_n 0, 1) := cod_of b0 dX0_init_4
theorem t0_4 {d : Nat} {h : Hp} {Q : Pst} {x : Nat} {st : List Value} : T d 0 4 [.ref x] st h Q ↔ T d 0 5 [.ref x] (.ref x :: st) h Q := T_aload_n c0_4 rfl
theorem c0_5 : cod 0 5 = some (.bipush 10, 2) := cod_of b0 dX0_init_5
theorem t0_5 {d : Nat} {h : Hp} {Q : Pst} {ls : List Value} {st : List Value} : T d 0 5 ls st h Q ↔ T d 0 7 ls (.int 10 :: st) h Q := T_bipushV c0_5 (by decide)
theorem c0_7 : cod 0 7 = some (.newarray .int, 2) := cod_of b0 dX0_init_7
theorem t0_7 {d : Nat} {h : Hp} {Q : Pst} {x : Int32} {ls : List Value} {st : List Value} : T d 0 7 ls (.int x :: st) h Q ↔ ((0 ≤ x.toInt ∧ x.toInt ≤ 100000) ∧ T d 0 9 ls (.ref h.1 :: st) (hnew h x.toNatClampNeg (oI x.toNatClampNeg fun _ => 0)) Q) := T_newi c0_7
theorem c0_9 : cod 0 9 = some (.putfield 9, 3) := cod_of b0 dX0_init_9
theorem t0_9 {d : Nat} {h : Hp} {Q : Pst} {a x : Nat} {ls : List Value} {st : List Value} : T d 0 9 ls (.ref x :: .ref a :: st) h Q ↔ pF (h.2.2 a) 0 0 (.ref x) (fun cell => T d 0 12 ls st (hup h a cell) Q) := T_putfieldR m0 c0_9 f0_9 (by decide +kernel)
theorem c0_12 : cod 0 12 = some (.aload_n 0, 1) := cod_of b0 dX0_init_12
theorem t0_12 {d : Nat} {h : Hp} {Q : Pst} {x : Nat} {st : List Value} : T d 0 12 [.ref x] st h Q ↔ T d 0 13 [.ref x] (.ref x :: st) h Q := T_aload_n c0_12 rfl
theorem c0_13 : cod 0 13 = some (.bipush 10, 2) := cod_of b0 dX0_init_13
theorem t0_13 {d : Nat} {h : Hp} {Q : Pst} {ls : List Value} {st : List Value} : T d 0 13 ls st h Q ↔ T d 0 15 ls (.int 10 :: st) h Q := T_bipushV c0_13 (by decide)
theorem c0_15 : cod 0 15 = some (.newarray .int, 2) := cod_of b0 dX0_init_15
theorem t0_15 {d : Nat} {h : Hp} {Q : Pst} {x : Int32} {ls : List Value} {st : List Value} : T d 0 15 ls (.int x :: st) h Q ↔ ((0 ≤ x.toInt ∧ x.toInt ≤ 100000) ∧ T d 0 17 ls (.ref h.1 :: st) (hnew h x.toNatClampNeg (oI x.toNatClampNeg fun _ => 0)) Q) := T_newi c0_15
theorem c0_17 : cod 0 17 = some (.putfield 15, 3) := cod_of b0 dX0_init_17
theorem t0_17 {d : Nat} {h : Hp} {Q : Pst} {a x : Nat} {ls : List Value} {st : List Value} : T d 0 17 ls (.ref x :: .ref a :: st) h Q ↔ pF (h.2.2 a) 0 1 (.ref x) (fun cell => T d 0 20 ls st (hup h a cell) Q) := T_putfieldR m0 c0_17 f0_15 (by decide +kernel)
theorem c0_20 : cod 0 20 = some (.return_, 1) := cod_of b0 dX0_init_20
theorem t0_20 {d : Nat} {h : Hp} {Q : Pst} {ls : List Value} : T d 0 20 ls [] h Q ↔ Q none h := T_retR m0 c0_20 rfl
theorem b1 : (mR 1).2.2.1 = cX0_setUp := by rw [m1]
theorem c1_0 : cod 1 0 = some (.iconst 1, 1) := cod_of b1 dX0_setUp_0
theorem t1_0 {d : Nat} {h : Hp} {Q : Pst} {ls : List Value} {st : List Value} : T d 1 0 ls st h Q ↔ T d 1 1 ls (.int 1 :: st) h Q := T_iconstV c1_0 (by decide)
theorem c1_1 : cod 1 1 = some (.istore 5, 2) := cod_of b1 dX0_setUp_1
theorem t1_1 {d : Nat} {h : Hp} {Q : Pst} {l0 l1 l2 l3 l4 l5 : Value} {x : Int32} {st : List Value} : T d 1 1 [l0, l1, l2, l3, l4, l5] (.int x :: st) h Q ↔ T d 1 3 [l0, l1, l2, l3, kil l4, .int x] st h Q := T_istore c1_1 (Nat.le_of_ble_eq_true rfl)
theorem c1_3 : cod 1 3 = some (.iload 5, 2) := cod_of b1 dX0_setUp_3
theorem t1_3 {d : Nat} {h : Hp} {Q : Pst} {l0 l1 l2 l3 l4 : Value} {x : Int32} {st : List Value} : T d 1 3 [l0, l1, l2, l3, l4, .int x] st h Q ↔ T d 1 5 [l0, l1, l2, l3, l4, .int x] (.int x :: st) h Q := T_iload c1_3 rfl
theorem c1_5 : cod 1 5 = some (.bipush 9, 2) := cod_of b1 dX0_setUp_5
theorem t1_5 {d : Nat} {h : Hp} {Q : Pst} {ls : List Value} {st : List Value} : T d 1 5 ls st h Q ↔ T d 1 7 ls (.int 9 :: st) h Q := T_bipushV c1_5 (by decide)
theorem c1_7 : cod 1 7 = some (.if_icmp .gt 45, 3) := cod_of b1 dX0_setUp_7
theorem t1_7 {d : Nat} {h : Hp} {Q : Pst} {x y : Int32} {ls : List Value} {st : List Value} : T d 1 7 ls (.int y :: .int x :: st) h Q ↔ (if y < x then T d 1 52 ls st h Q else T d 1 10 ls st h Q) := T_icmp_gt c1_7 (by decide)
theorem c1_10 : cod 1 10 = some (.aload_n 0, 1) := cod_of b1 dX0_setUp_10
theorem t1_10 {d : Nat} {h : Hp} {Q : Pst} {l1 l2 l3 l4 l5 : Value} {x : Nat} {st : List Value} : T d 1 10 [.ref x, l1, l2, l3, l4, l5] st h Q ↔ T d 1 11 [.ref x, l1, l2, l3, l4, l5] (.ref x :: st) h Q := T_aload_n c1_10 rfl
theorem c1_11 : cod 1 11 = some (.getfield 9, 3) := cod_of b1 dX0_setUp_11
theorem t1_11 {d : Nat} {h : Hp} {Q : Pst} {a : Nat} {ls : List Value} {st : List Value} : T d 1 11 ls (.ref a :: st) h Q ↔ gF (h.2.2 a) 0 0 (fun v => T d 1 14 ls (v :: st) h Q) := T_getfieldR m1 c1_11 f0_9
theorem c1_14 : cod 1 14 = some (.iload 5, 2) := cod_of b1 dX0_setUp_14
theorem t1_14 {d : Nat} {h : Hp} {Q : Pst} {l0 l1 l2 l3 l4 : Value} {x : Int32} {st : List Value} : T d 1 14 [l0, l1, l2, l3, l4, .int x] st h Q ↔ T d 1 16 [l0, l1, l2, l3, l4, .int x] (.int x :: st) h Q := T_iload c1_14 rfl
theorem c1_16 : cod 1 16 = some (.aload_n 1, 1) := cod_of b1 dX0_setUp_16
theorem t1_16 {d : Nat} {h : Hp} {Q : Pst} {l0 l2 l3 l4 l5 : Value} {x : Nat} {st : List Value} : T d 1 16 [l0, .ref x, l2, l3, l4, l5] st h Q ↔ T d 1 17 [l0, .ref x, l2, l3, l4, l5] (.ref x :: st) h Q := T_aload_n c1_16 rfl
theorem c1_17 : cod 1 17 = some (.iload 4, 2) := cod_of b1 dX0_setUp_17
theorem t1_17 {d : Nat} {h : Hp} {Q : Pst} {l0 l1 l2 l3 l5 : Value} {x : Int32} {st : List Value} : T d 1 17 [l0, l1, l2, l3, .int x, l5] st h Q ↔ T d 1 19 [l0, l1, l2, l3, .int x, l5] (.int x :: st) h Q := T_iload c1_17 rfl
theorem c1_19 : cod 1 19 = some (.iload_n 2, 1) := cod_of b1 dX0_setUp_19
theorem t1_19 {d : Nat} {h : Hp} {Q : Pst} {l0 l1 l3 l4 l5 : Value} {x : Int32} {st : List Value} : T d 1 19 [l0, l1, .int x, l3, l4, l5] st h Q ↔ T d 1 20 [l0, l1, .int x, l3, l4, l5] (.int x :: st) h Q := T_iload_n c1_19 rfl
theorem c1_20 : cod 1 20 = some (.iload 5, 2) := cod_of b1 dX0_setUp_20
theorem t1_20 {d : Nat} {h : Hp} {Q : Pst} {l0 l1 l2 l3 l4 : Value} {x : Int32} {st : List Value} : T d 1 20 [l0, l1, l2, l3, l4, .int x] st h Q ↔ T d 1 22 [l0, l1, l2, l3, l4, .int x] (.int x :: st) h Q := T_iload c1_20 rfl
theorem c1_22 : cod 1 22 = some (.invokevirtual 18, 3) := cod_of b1 dX0_setUp_22
theorem t1_22 {d : Nat} {h : Hp} {Q : Pst} {a0 a1 a2 s0 : Int32} {s1 a : Nat} {ls : List Value} (ho : isO (h.2.2 a) 5) : T (d + 1) 1 22 ls [.int a2, .int a1, .int a0, .ref a, .int s0, .ref s1] h Q ↔ T d 64 0 [.ref a, .int a0, .int a1, .int a2, un] [] h (fun x h2 => T (d + 1) 1 25 ls (rl x [.int s0, .ref s1]) h2 Q) := T_virtualR (as := [.int a0, .int a1, .int a2]) (r := [.int s0, .ref s1]) m1 m64 c1_22 k0_18  rfl (by decide) rfl (by simp [wrd, Value.category]) (by simp [stk, Value.category]) rfl (by decide +kernel) ho
theorem c1_25 : cod 1 25 = some (.invokestatic 24, 3) := cod_of b1 dX0_setUp_25
theorem t1_25 {d : Nat} {h : Hp} {Q : Pst} {a0 : Nat} {a1 a2 : Int32} {ls : List Value} : T (d + 1) 1 25 ls [.int a2, .int a1, .ref a0] h Q ↔ T d 123 0 [.ref a0, .int a1, .int a2] [] h (fun x h2 => T (d + 1) 1 28 ls (rl x []) h2 Q) := T_staticR (as := [.ref a0, .int a1, .int a2]) (r := []) m1 m123 c1_25 k0_24 (Or.inr rfl) rfl (by decide) rfl (by simp [wrd, Value.category]) (by simp [stk, Value.category]) rfl
theorem c1_28 : cod 1 28 = some (.aload_n 0, 1) := cod_of b1 dX0_setUp_28
theorem t1_28 {d : Nat} {h : Hp} {Q : Pst} {l1 l2 l3 l4 l5 : Value} {x : Nat} {st : List Value} : T d 1 28 [.ref x, l1, l2, l3, l4, l5] st h Q ↔ T d 1 29 [.ref x, l1, l2, l3, l4, l5] (.ref x :: st) h Q := T_aload_n c1_28 rfl
theorem c1_29 : cod 1 29 = some (.getfield 15, 3) := cod_of b1 dX0_setUp_29
theorem t1_29 {d : Nat} {h : Hp} {Q : Pst} {a : Nat} {ls : List Value} {st : List Value} : T d 1 29 ls (.ref a :: st) h Q ↔ gF (h.2.2 a) 0 1 (fun v => T d 1 32 ls (v :: st) h Q) := T_getfieldR m1 c1_29 f0_15
theorem c1_32 : cod 1 32 = some (.iload 5, 2) := cod_of b1 dX0_setUp_32
theorem t1_32 {d : Nat} {h : Hp} {Q : Pst} {l0 l1 l2 l3 l4 : Value} {x : Int32} {st : List Value} : T d 1 32 [l0, l1, l2, l3, l4, .int x] st h Q ↔ T d 1 34 [l0, l1, l2, l3, l4, .int x] (.int x :: st) h Q := T_iload c1_32 rfl
theorem c1_34 : cod 1 34 = some (.aload_n 1, 1) := cod_of b1 dX0_setUp_34
theorem t1_34 {d : Nat} {h : Hp} {Q : Pst} {l0 l2 l3 l4 l5 : Value} {x : Nat} {st : List Value} : T d 1 34 [l0, .ref x, l2, l3, l4, l5] st h Q ↔ T d 1 35 [l0, .ref x, l2, l3, l4, l5] (.ref x :: st) h Q := T_aload_n c1_34 rfl
theorem c1_35 : cod 1 35 = some (.iload 4, 2) := cod_of b1 dX0_setUp_35
theorem t1_35 {d : Nat} {h : Hp} {Q : Pst} {l0 l1 l2 l3 l5 : Value} {x : Int32} {st : List Value} : T d 1 35 [l0, l1, l2, l3, .int x, l5] st h Q ↔ T d 1 37 [l0, l1, l2, l3, .int x, l5] (.int x :: st) h Q := T_iload c1_35 rfl
theorem c1_37 : cod 1 37 = some (.iload_n 3, 1) := cod_of b1 dX0_setUp_37
theorem t1_37 {d : Nat} {h : Hp} {Q : Pst} {l0 l1 l2 l4 l5 : Value} {x : Int32} {st : List Value} : T d 1 37 [l0, l1, l2, .int x, l4, l5] st h Q ↔ T d 1 38 [l0, l1, l2, .int x, l4, l5] (.int x :: st) h Q := T_iload_n c1_37 rfl
theorem c1_38 : cod 1 38 = some (.iload 5, 2) := cod_of b1 dX0_setUp_38
theorem t1_38 {d : Nat} {h : Hp} {Q : Pst} {l0 l1 l2 l3 l4 : Value} {x : Int32} {st : List Value} : T d 1 38 [l0, l1, l2, l3, l4, .int x] st h Q ↔ T d 1 40 [l0, l1, l2, l3, l4, .int x] (.int x :: st) h Q := T_iload c1_38 rfl
theorem c1_40 : cod 1 40 = some (.invokevirtual 18, 3) := cod_of b1 dX0_setUp_40
theorem t1_40 {d : Nat} {h : Hp} {Q : Pst} {a0 a1 a2 s0 : Int32} {s1 a : Nat} {ls : List Value} (ho : isO (h.2.2 a) 5) : T (d + 1) 1 40 ls [.int a2, .int a1, .int a0, .ref a, .int s0, .ref s1] h Q ↔ T d 64 0 [.ref a, .int a0, .int a1, .int a2, un] [] h (fun x h2 => T (d + 1) 1 43 ls (rl x [.int s0, .ref s1]) h2 Q) := T_virtualR (as := [.int a0, .int a1, .int a2]) (r := [.int s0, .ref s1]) m1 m64 c1_40 k0_18  rfl (by decide) rfl (by simp [wrd, Value.category]) (by simp [stk, Value.category]) rfl (by decide +kernel) ho
theorem c1_43 : cod 1 43 = some (.invokestatic 24, 3) := cod_of b1 dX0_setUp_43
theorem t1_43 {d : Nat} {h : Hp} {Q : Pst} {a0 : Nat} {a1 a2 : Int32} {ls : List Value} : T (d + 1) 1 43 ls [.int a2, .int a1, .ref a0] h Q ↔ T d 123 0 [.ref a0, .int a1, .int a2] [] h (fun x h2 => T (d + 1) 1 46 ls (rl x []) h2 Q) := T_staticR (as := [.ref a0, .int a1, .int a2]) (r := []) m1 m123 c1_43 k0_24 (Or.inr rfl) rfl (by decide) rfl (by simp [wrd, Value.category]) (by simp [stk, Value.category]) rfl
theorem c1_46 : cod 1 46 = some (.iinc 5 1, 3) := cod_of b1 dX0_setUp_46
theorem t1_46 {d : Nat} {h : Hp} {Q : Pst} {l0 l1 l2 l3 l4 : Value} {x : Int32} {st : List Value} : T d 1 46 [l0, l1, l2, l3, l4, .int x] st h Q ↔ T d 1 49 [l0, l1, l2, l3, kil l4, .int (x + 1)] st h Q := T_iincV c1_46 rfl (Nat.le_of_ble_eq_true rfl) (by decide) rfl
theorem c1_49 : cod 1 49 = some (.goto (-46), 3) := cod_of b1 dX0_setUp_49
theorem t1_49 {d : Nat} {h : Hp} {Q : Pst} {ls : List Value} {st : List Value} : T d 1 49 ls st h Q ↔ T d 1 3 ls st h Q := T_goto c1_49 (by decide)
theorem c1_52 : cod 1 52 = some (.return_, 1) := cod_of b1 dX0_setUp_52
theorem t1_52 {d : Nat} {h : Hp} {Q : Pst} {ls : List Value} : T d 1 52 ls [] h Q ↔ Q none h := T_retR m1 c1_52 rfl
theorem b2 : (mR 2).2.2.1 = cX0_restingPair := by rw [m2]
theorem c2_0 : cod 2 0 = some (.iconst 0, 1) := cod_of b2 dX0_restingPair_0
theorem t2_0 {d : Nat} {h : Hp} {Q : Pst} {ls : List Value} {st : List Value} : T d 2 0 ls st h Q ↔ T d 2 1 ls (.int 0 :: st) h Q := T_iconstV c2_0 (by decide)
theorem c2_1 : cod 2 1 = some (.istore_n 2, 1) := cod_of b2 dX0_restingPair_1
theorem t2_1 {d : Nat} {h : Hp} {Q : Pst} {l0 l1 l2 l3 l4 : Value} {x : Int32} {st : List Value} : T d 2 1 [l0, l1, l2, l3, l4] (.int x :: st) h Q ↔ T d 2 2 [l0, kil l1, .int x, l3, l4] st h Q := T_istore_n c2_1 (Nat.le_of_ble_eq_true rfl)
theorem c2_2 : cod 2 2 = some (.iconst 1, 1) := cod_of b2 dX0_restingPair_2
theorem t2_2 {d : Nat} {h : Hp} {Q : Pst} {ls : List Value} {st : List Value} : T d 2 2 ls st h Q ↔ T d 2 3 ls (.int 1 :: st) h Q := T_iconstV c2_2 (by decide)
theorem c2_3 : cod 2 3 = some (.istore_n 3, 1) := cod_of b2 dX0_restingPair_3
theorem t2_3 {d : Nat} {h : Hp} {Q : Pst} {l0 l1 l2 l3 l4 : Value} {x : Int32} {st : List Value} : T d 2 3 [l0, l1, l2, l3, l4] (.int x :: st) h Q ↔ T d 2 4 [l0, l1, kil l2, .int x, l4] st h Q := T_istore_n c2_3 (Nat.le_of_ble_eq_true rfl)
theorem c2_4 : cod 2 4 = some (.iload_n 3, 1) := cod_of b2 dX0_restingPair_4
theorem t2_4 {d : Nat} {h : Hp} {Q : Pst} {l0 l1 l2 l4 : Value} {x : Int32} {st : List Value} : T d 2 4 [l0, l1, l2, .int x, l4] st h Q ↔ T d 2 5 [l0, l1, l2, .int x, l4] (.int x :: st) h Q := T_iload_n c2_4 rfl
theorem c2_5 : cod 2 5 = some (.bipush 9, 2) := cod_of b2 dX0_restingPair_5
theorem t2_5 {d : Nat} {h : Hp} {Q : Pst} {ls : List Value} {st : List Value} : T d 2 5 ls st h Q ↔ T d 2 7 ls (.int 9 :: st) h Q := T_bipushV c2_5 (by decide)
theorem c2_7 : cod 2 7 = some (.if_icmp .gt 51, 3) := cod_of b2 dX0_restingPair_7
theorem t2_7 {d : Nat} {h : Hp} {Q : Pst} {x y : Int32} {ls : List Value} {st : List Value} : T d 2 7 ls (.int y :: .int x :: st) h Q ↔ (if y < x then T d 2 58 ls st h Q else T d 2 10 ls st h Q) := T_icmp_gt c2_7 (by decide)
theorem c2_10 : cod 2 10 = some (.iconst 1, 1) := cod_of b2 dX0_restingPair_10
theorem t2_10 {d : Nat} {h : Hp} {Q : Pst} {ls : List Value} {st : List Value} : T d 2 10 ls st h Q ↔ T d 2 11 ls (.int 1 :: st) h Q := T_iconstV c2_10 (by decide)
theorem c2_11 : cod 2 11 = some (.istore 4, 2) := cod_of b2 dX0_restingPair_11
theorem t2_11 {d : Nat} {h : Hp} {Q : Pst} {l0 l1 l2 l3 l4 : Value} {x : Int32} {st : List Value} : T d 2 11 [l0, l1, l2, l3, l4] (.int x :: st) h Q ↔ T d 2 13 [l0, l1, l2, kil l3, .int x] st h Q := T_istore c2_11 (Nat.le_of_ble_eq_true rfl)
theorem c2_13 : cod 2 13 = some (.iload 4, 2) := cod_of b2 dX0_restingPair_13
theorem t2_13 {d : Nat} {h : Hp} {Q : Pst} {l0 l1 l2 l3 : Value} {x : Int32} {st : List Value} : T d 2 13 [l0, l1, l2, l3, .int x] st h Q ↔ T d 2 15 [l0, l1, l2, l3, .int x] (.int x :: st) h Q := T_iload c2_13 rfl
theorem c2_15 : cod 2 15 = some (.bipush 9, 2) := cod_of b2 dX0_restingPair_15
theorem t2_15 {d : Nat} {h : Hp} {Q : Pst} {ls : List Value} {st : List Value} : T d 2 15 ls st h Q ↔ T d 2 17 ls (.int 9 :: st) h Q := T_bipushV c2_15 (by decide)
theorem c2_17 : cod 2 17 = some (.if_icmp .gt 35, 3) := cod_of b2 dX0_restingPair_17
theorem t2_17 {d : Nat} {h : Hp} {Q : Pst} {x y : Int32} {ls : List Value} {st : List Value} : T d 2 17 ls (.int y :: .int x :: st) h Q ↔ (if y < x then T d 2 52 ls st h Q else T d 2 20 ls st h Q) := T_icmp_gt c2_17 (by decide)
theorem c2_20 : cod 2 20 = some (.aload_n 0, 1) := cod_of b2 dX0_restingPair_20
theorem t2_20 {d : Nat} {h : Hp} {Q : Pst} {l1 l2 l3 l4 : Value} {x : Nat} {st : List Value} : T d 2 20 [.ref x, l1, l2, l3, l4] st h Q ↔ T d 2 21 [.ref x, l1, l2, l3, l4] (.ref x :: st) h Q := T_aload_n c2_20 rfl
theorem c2_21 : cod 2 21 = some (.iload_n 3, 1) := cod_of b2 dX0_restingPair_21
theorem t2_21 {d : Nat} {h : Hp} {Q : Pst} {l0 l1 l2 l4 : Value} {x : Int32} {st : List Value} : T d 2 21 [l0, l1, l2, .int x, l4] st h Q ↔ T d 2 22 [l0, l1, l2, .int x, l4] (.int x :: st) h Q := T_iload_n c2_21 rfl
theorem c2_22 : cod 2 22 = some (.iload 4, 2) := cod_of b2 dX0_restingPair_22
theorem t2_22 {d : Nat} {h : Hp} {Q : Pst} {l0 l1 l2 l3 : Value} {x : Int32} {st : List Value} : T d 2 22 [l0, l1, l2, l3, .int x] st h Q ↔ T d 2 24 [l0, l1, l2, l3, .int x] (.int x :: st) h Q := T_iload c2_22 rfl
theorem c2_24 : cod 2 24 = some (.invokevirtual 28, 3) := cod_of b2 dX0_restingPair_24
theorem t2_24 {d : Nat} {h : Hp} {Q : Pst} {a0 a1 : Int32} {a : Nat} {ls : List Value} (ho : isO (h.2.2 a) 0) : T (d + 1) 2 24 ls [.int a1, .int a0, .ref a] h Q ↔ T d 3 0 [.ref a, .int a0, .int a1, un, un, un, un] [] h (fun x h2 => T (d + 1) 2 27 ls (rl x []) h2 Q) := T_virtualR (as := [.int a0, .int a1]) (r := []) m2 m3 c2_24 k0_28  rfl (by decide) rfl (by simp [wrd, Value.category]) (by simp [stk, Value.category]) rfl (by decide +kernel) ho
theorem c2_27 : cod 2 27 = some (.ifCond .eq 19, 3) := cod_of b2 dX0_restingPair_27
theorem t2_27 {d : Nat} {h : Hp} {Q : Pst} {x : Int32} {ls : List Value} {st : List Value} : T d 2 27 ls (.int x :: st) h Q ↔ (if x = 0 then T d 2 46 ls st h Q else T d 2 30 ls st h Q) := T_if_eq c2_27 (by decide)
theorem c2_30 : cod 2 30 = some (.iload_n 2, 1) := cod_of b2 dX0_restingPair_30
theorem t2_30 {d : Nat} {h : Hp} {Q : Pst} {l0 l1 l3 l4 : Value} {x : Int32} {st : List Value} : T d 2 30 [l0, l1, .int x, l3, l4] st h Q ↔ T d 2 31 [l0, l1, .int x, l3, l4] (.int x :: st) h Q := T_iload_n c2_30 rfl
theorem c2_31 : cod 2 31 = some (.iload_n 1, 1) := cod_of b2 dX0_restingPair_31
theorem t2_31 {d : Nat} {h : Hp} {Q : Pst} {l0 l2 l3 l4 : Value} {x : Int32} {st : List Value} : T d 2 31 [l0, .int x, l2, l3, l4] st h Q ↔ T d 2 32 [l0, .int x, l2, l3, l4] (.int x :: st) h Q := T_iload_n c2_31 rfl
theorem c2_32 : cod 2 32 = some (.if_icmp .ne 11, 3) := cod_of b2 dX0_restingPair_32
theorem t2_32 {d : Nat} {h : Hp} {Q : Pst} {x y : Int32} {ls : List Value} {st : List Value} : T d 2 32 ls (.int y :: .int x :: st) h Q ↔ (if ¬ x = y then T d 2 43 ls st h Q else T d 2 35 ls st h Q) := T_icmp_ne c2_32 (by decide)
theorem c2_35 : cod 2 35 = some (.bipush 10, 2) := cod_of b2 dX0_restingPair_35
theorem t2_35 {d : Nat} {h : Hp} {Q : Pst} {ls : List Value} {st : List Value} : T d 2 35 ls st h Q ↔ T d 2 37 ls (.int 10 :: st) h Q := T_bipushV c2_35 (by decide)
theorem c2_37 : cod 2 37 = some (.iload_n 3, 1) := cod_of b2 dX0_restingPair_37
theorem t2_37 {d : Nat} {h : Hp} {Q : Pst} {l0 l1 l2 l4 : Value} {x : Int32} {st : List Value} : T d 2 37 [l0, l1, l2, .int x, l4] st h Q ↔ T d 2 38 [l0, l1, l2, .int x, l4] (.int x :: st) h Q := T_iload_n c2_37 rfl
theorem c2_38 : cod 2 38 = some (.imul, 1) := cod_of b2 dX0_restingPair_38
theorem t2_38 {d : Nat} {h : Hp} {Q : Pst} {x y : Int32} {ls : List Value} {st : List Value} : T d 2 38 ls (.int y :: .int x :: st) h Q ↔ T d 2 39 ls (.int (x * y) :: st) h Q := T_imul c2_38
theorem c2_39 : cod 2 39 = some (.iload 4, 2) := cod_of b2 dX0_restingPair_39
theorem t2_39 {d : Nat} {h : Hp} {Q : Pst} {l0 l1 l2 l3 : Value} {x : Int32} {st : List Value} : T d 2 39 [l0, l1, l2, l3, .int x] st h Q ↔ T d 2 41 [l0, l1, l2, l3, .int x] (.int x :: st) h Q := T_iload c2_39 rfl
theorem c2_41 : cod 2 41 = some (.iadd, 1) := cod_of b2 dX0_restingPair_41
theorem t2_41 {d : Nat} {h : Hp} {Q : Pst} {x y : Int32} {ls : List Value} {st : List Value} : T d 2 41 ls (.int y :: .int x :: st) h Q ↔ T d 2 42 ls (.int (x + y) :: st) h Q := T_iadd c2_41
theorem c2_42 : cod 2 42 = some (.ireturn, 1) := cod_of b2 dX0_restingPair_42
theorem t2_42 {d : Nat} {h : Hp} {Q : Pst} {x : Int32} {ls : List Value} : T d 2 42 ls [.int x] h Q ↔ Q (some (.int x)) h := T_iretR m2 c2_42 rfl
theorem c2_43 : cod 2 43 = some (.iinc 2 1, 3) := cod_of b2 dX0_restingPair_43
theorem t2_43 {d : Nat} {h : Hp} {Q : Pst} {l0 l1 l3 l4 : Value} {x : Int32} {st : List Value} : T d 2 43 [l0, l1, .int x, l3, l4] st h Q ↔ T d 2 46 [l0, kil l1, .int (x + 1), l3, l4] st h Q := T_iincV c2_43 rfl (Nat.le_of_ble_eq_true rfl) (by decide) rfl
theorem c2_46 : cod 2 46 = some (.iinc 4 1, 3) := cod_of b2 dX0_restingPair_46
theorem t2_46 {d : Nat} {h : Hp} {Q : Pst} {l0 l1 l2 l3 : Value} {x : Int32} {st : List Value} : T d 2 46 [l0, l1, l2, l3, .int x] st h Q ↔ T d 2 49 [l0, l1, l2, kil l3, .int (x + 1)] st h Q := T_iincV c2_46 rfl (Nat.le_of_ble_eq_true rfl) (by decide) rfl
theorem c2_49 : cod 2 49 = some (.goto (-36), 3) := cod_of b2 dX0_restingPair_49
theorem t2_49 {d : Nat} {h : Hp} {Q : Pst} {ls : List Value} {st : List Value} : T d 2 49 ls st h Q ↔ T d 2 13 ls st h Q := T_goto c2_49 (by decide)
theorem c2_52 : cod 2 52 = some (.iinc 3 1, 3) := cod_of b2 dX0_restingPair_52
theorem t2_52 {d : Nat} {h : Hp} {Q : Pst} {l0 l1 l2 l4 : Value} {x : Int32} {st : List Value} : T d 2 52 [l0, l1, l2, .int x, l4] st h Q ↔ T d 2 55 [l0, l1, kil l2, .int (x + 1), l4] st h Q := T_iincV c2_52 rfl (Nat.le_of_ble_eq_true rfl) (by decide) rfl
theorem c2_55 : cod 2 55 = some (.goto (-51), 3) := cod_of b2 dX0_restingPair_55
theorem t2_55 {d : Nat} {h : Hp} {Q : Pst} {ls : List Value} {st : List Value} : T d 2 55 ls st h Q ↔ T d 2 4 ls st h Q := T_goto c2_55 (by decide)
theorem c2_58 : cod 2 58 = some (.iload_n 1, 1) := cod_of b2 dX0_restingPair_58
theorem t2_58 {d : Nat} {h : Hp} {Q : Pst} {l0 l2 l3 l4 : Value} {x : Int32} {st : List Value} : T d 2 58 [l0, .int x, l2, l3, l4] st h Q ↔ T d 2 59 [l0, .int x, l2, l3, l4] (.int x :: st) h Q := T_iload_n c2_58 rfl
theorem c2_59 : cod 2 59 = some (.iconst (-1), 1) := cod_of b2 dX0_restingPair_59
theorem t2_59 {d : Nat} {h : Hp} {Q : Pst} {ls : List Value} {st : List Value} : T d 2 59 ls st h Q ↔ T d 2 60 ls (.int (-1) :: st) h Q := T_iconstV c2_59 (by decide)
theorem c2_60 : cod 2 60 = some (.if_icmp .ne 7, 3) := cod_of b2 dX0_restingPair_60
theorem t2_60 {d : Nat} {h : Hp} {Q : Pst} {x y : Int32} {ls : List Value} {st : List Value} : T d 2 60 ls (.int y :: .int x :: st) h Q ↔ (if ¬ x = y then T d 2 67 ls st h Q else T d 2 63 ls st h Q) := T_icmp_ne c2_60 (by decide)
theorem c2_63 : cod 2 63 = some (.iload_n 2, 1) := cod_of b2 dX0_restingPair_63
theorem t2_63 {d : Nat} {h : Hp} {Q : Pst} {l0 l1 l3 l4 : Value} {x : Int32} {st : List Value} : T d 2 63 [l0, l1, .int x, l3, l4] st h Q ↔ T d 2 64 [l0, l1, .int x, l3, l4] (.int x :: st) h Q := T_iload_n c2_63 rfl
theorem c2_64 : cod 2 64 = some (.goto 5, 3) := cod_of b2 dX0_restingPair_64
theorem t2_64 {d : Nat} {h : Hp} {Q : Pst} {ls : List Value} {st : List Value} : T d 2 64 ls st h Q ↔ T d 2 69 ls st h Q := T_goto c2_64 (by decide)
theorem c2_69 : cod 2 69 = some (.ireturn, 1) := cod_of b2 dX0_restingPair_69
theorem t2_69 {d : Nat} {h : Hp} {Q : Pst} {x : Int32} {ls : List Value} : T d 2 69 ls [.int x] h Q ↔ Q (some (.int x)) h := T_iretR m2 c2_69 rfl
theorem c2_67 : cod 2 67 = some (.bipush (-5), 2) := cod_of b2 dX0_restingPair_67
theorem t2_67 {d : Nat} {h : Hp} {Q : Pst} {ls : List Value} {st : List Value} : T d 2 67 ls st h Q ↔ T d 2 69 ls (.int (-5) :: st) h Q := T_bipushV c2_67 (by decide)
theorem b3 : (mR 3).2.2.1 = cX0_rests := by rw [m3]
theorem c3_0 : cod 3 0 = some (.aload_n 0, 1) := cod_of b3 dX0_rests_0
theorem t3_0 {d : Nat} {h : Hp} {Q : Pst} {l1 l2 l3 l4 l5 l6 : Value} {x : Nat} {st : List Value} : T d 3 0 [.ref x, l1, l2, l3, l4, l5, l6] st h Q ↔ T d 3 1 [.ref x, l1, l2, l3, l4, l5, l6] (.ref x :: st) h Q := T_aload_n c3_0 rfl
theorem c3_1 : cod 3 1 = some (.getfield 9, 3) := cod_of b3 dX0_rests_1
theorem t3_1 {d : Nat} {h : Hp} {Q : Pst} {a : Nat} {ls : List Value} {st : List Value} : T d 3 1 ls (.ref a :: st) h Q ↔ gF (h.2.2 a) 0 0 (fun v => T d 3 4 ls (v :: st) h Q) := T_getfieldR m3 c3_1 f0_9
theorem c3_4 : cod 3 4 = some (.iload_n 1, 1) := cod_of b3 dX0_rests_4
theorem t3_4 {d : Nat} {h : Hp} {Q : Pst} {l0 l2 l3 l4 l5 l6 : Value} {x : Int32} {st : List Value} : T d 3 4 [l0, .int x, l2, l3, l4, l5, l6] st h Q ↔ T d 3 5 [l0, .int x, l2, l3, l4, l5, l6] (.int x :: st) h Q := T_iload_n c3_4 rfl
theorem c3_5 : cod 3 5 = some (.invokestatic 32, 3) := cod_of b3 dX0_rests_5
theorem t3_5 {d : Nat} {h : Hp} {Q : Pst} {a0 : Nat} {a1 : Int32} {ls : List Value} : T (d + 1) 3 5 ls [.int a1, .ref a0] h Q ↔ T d 122 0 [.ref a0, .int a1] [] h (fun x h2 => T (d + 1) 3 8 ls (rl x []) h2 Q) := T_staticR (as := [.ref a0, .int a1]) (r := []) m3 m122 c3_5 k0_32 (Or.inr rfl) rfl (by decide) rfl (by simp [wrd, Value.category]) (by simp [stk, Value.category]) rfl
theorem c3_8 : cod 3 8 = some (.istore_n 3, 1) := cod_of b3 dX0_rests_8
theorem t3_8 {d : Nat} {h : Hp} {Q : Pst} {l0 l1 l2 l3 l4 l5 l6 : Value} {x : Int32} {st : List Value} : T d 3 8 [l0, l1, l2, l3, l4, l5, l6] (.int x :: st) h Q ↔ T d 3 9 [l0, l1, kil l2, .int x, l4, l5, l6] st h Q := T_istore_n c3_8 (Nat.le_of_ble_eq_true rfl)
theorem c3_9 : cod 3 9 = some (.aload_n 0, 1) := cod_of b3 dX0_rests_9
theorem t3_9 {d : Nat} {h : Hp} {Q : Pst} {l1 l2 l3 l4 l5 l6 : Value} {x : Nat} {st : List Value} : T d 3 9 [.ref x, l1, l2, l3, l4, l5, l6] st h Q ↔ T d 3 10 [.ref x, l1, l2, l3, l4, l5, l6] (.ref x :: st) h Q := T_aload_n c3_9 rfl
theorem c3_10 : cod 3 10 = some (.getfield 15, 3) := cod_of b3 dX0_rests_10
theorem t3_10 {d : Nat} {h : Hp} {Q : Pst} {a : Nat} {ls : List Value} {st : List Value} : T d 3 10 ls (.ref a :: st) h Q ↔ gF (h.2.2 a) 0 1 (fun v => T d 3 13 ls (v :: st) h Q) := T_getfieldR m3 c3_10 f0_15
theorem c3_13 : cod 3 13 = some (.iload_n 2, 1) := cod_of b3 dX0_rests_13
theorem t3_13 {d : Nat} {h : Hp} {Q : Pst} {l0 l1 l3 l4 l5 l6 : Value} {x : Int32} {st : List Value} : T d 3 13 [l0, l1, .int x, l3, l4, l5, l6] st h Q ↔ T d 3 14 [l0, l1, .int x, l3, l4, l5, l6] (.int x :: st) h Q := T_iload_n c3_13 rfl
theorem c3_14 : cod 3 14 = some (.invokestatic 32, 3) := cod_of b3 dX0_rests_14
theorem t3_14 {d : Nat} {h : Hp} {Q : Pst} {a0 : Nat} {a1 : Int32} {ls : List Value} : T (d + 1) 3 14 ls [.int a1, .ref a0] h Q ↔ T d 122 0 [.ref a0, .int a1] [] h (fun x h2 => T (d + 1) 3 17 ls (rl x []) h2 Q) := T_staticR (as := [.ref a0, .int a1]) (r := []) m3 m122 c3_14 k0_32 (Or.inr rfl) rfl (by decide) rfl (by simp [wrd, Value.category]) (by simp [stk, Value.category]) rfl
theorem c3_17 : cod 3 17 = some (.istore 4, 2) := cod_of b3 dX0_rests_17
theorem t3_17 {d : Nat} {h : Hp} {Q : Pst} {l0 l1 l2 l3 l4 l5 l6 : Value} {x : Int32} {st : List Value} : T d 3 17 [l0, l1, l2, l3, l4, l5, l6] (.int x :: st) h Q ↔ T d 3 19 [l0, l1, l2, kil l3, .int x, l5, l6] st h Q := T_istore c3_17 (Nat.le_of_ble_eq_true rfl)
theorem c3_19 : cod 3 19 = some (.iconst 1, 1) := cod_of b3 dX0_rests_19
theorem t3_19 {d : Nat} {h : Hp} {Q : Pst} {ls : List Value} {st : List Value} : T d 3 19 ls st h Q ↔ T d 3 20 ls (.int 1 :: st) h Q := T_iconstV c3_19 (by decide)
theorem c3_20 : cod 3 20 = some (.istore 5, 2) := cod_of b3 dX0_rests_20
theorem t3_20 {d : Nat} {h : Hp} {Q : Pst} {l0 l1 l2 l3 l4 l5 l6 : Value} {x : Int32} {st : List Value} : T d 3 20 [l0, l1, l2, l3, l4, l5, l6] (.int x :: st) h Q ↔ T d 3 22 [l0, l1, l2, l3, kil l4, .int x, l6] st h Q := T_istore c3_20 (Nat.le_of_ble_eq_true rfl)
theorem c3_22 : cod 3 22 = some (.iload 5, 2) := cod_of b3 dX0_rests_22
theorem t3_22 {d : Nat} {h : Hp} {Q : Pst} {l0 l1 l2 l3 l4 l6 : Value} {x : Int32} {st : List Value} : T d 3 22 [l0, l1, l2, l3, l4, .int x, l6] st h Q ↔ T d 3 24 [l0, l1, l2, l3, l4, .int x, l6] (.int x :: st) h Q := T_iload c3_22 rfl
theorem c3_24 : cod 3 24 = some (.bipush 9, 2) := cod_of b3 dX0_rests_24
theorem t3_24 {d : Nat} {h : Hp} {Q : Pst} {ls : List Value} {st : List Value} : T d 3 24 ls st h Q ↔ T d 3 26 ls (.int 9 :: st) h Q := T_bipushV c3_24 (by decide)
theorem c3_26 : cod 3 26 = some (.if_icmp .gt 68, 3) := cod_of b3 dX0_rests_26
theorem t3_26 {d : Nat} {h : Hp} {Q : Pst} {x y : Int32} {ls : List Value} {st : List Value} : T d 3 26 ls (.int y :: .int x :: st) h Q ↔ (if y < x then T d 3 94 ls st h Q else T d 3 29 ls st h Q) := T_icmp_gt c3_26 (by decide)
theorem c3_29 : cod 3 29 = some (.aload_n 0, 1) := cod_of b3 dX0_rests_29
theorem t3_29 {d : Nat} {h : Hp} {Q : Pst} {l1 l2 l3 l4 l5 l6 : Value} {x : Nat} {st : List Value} : T d 3 29 [.ref x, l1, l2, l3, l4, l5, l6] st h Q ↔ T d 3 30 [.ref x, l1, l2, l3, l4, l5, l6] (.ref x :: st) h Q := T_aload_n c3_29 rfl
theorem c3_30 : cod 3 30 = some (.getfield 9, 3) := cod_of b3 dX0_rests_30
theorem t3_30 {d : Nat} {h : Hp} {Q : Pst} {a : Nat} {ls : List Value} {st : List Value} : T d 3 30 ls (.ref a :: st) h Q ↔ gF (h.2.2 a) 0 0 (fun v => T d 3 33 ls (v :: st) h Q) := T_getfieldR m3 c3_30 f0_9
theorem c3_33 : cod 3 33 = some (.iload 5, 2) := cod_of b3 dX0_rests_33
theorem t3_33 {d : Nat} {h : Hp} {Q : Pst} {l0 l1 l2 l3 l4 l6 : Value} {x : Int32} {st : List Value} : T d 3 33 [l0, l1, l2, l3, l4, .int x, l6] st h Q ↔ T d 3 35 [l0, l1, l2, l3, l4, .int x, l6] (.int x :: st) h Q := T_iload c3_33 rfl
theorem c3_35 : cod 3 35 = some (.invokestatic 32, 3) := cod_of b3 dX0_rests_35
theorem t3_35 {d : Nat} {h : Hp} {Q : Pst} {a0 : Nat} {a1 : Int32} {ls : List Value} : T (d + 1) 3 35 ls [.int a1, .ref a0] h Q ↔ T d 122 0 [.ref a0, .int a1] [] h (fun x h2 => T (d + 1) 3 38 ls (rl x []) h2 Q) := T_staticR (as := [.ref a0, .int a1]) (r := []) m3 m122 c3_35 k0_32 (Or.inr rfl) rfl (by decide) rfl (by simp [wrd, Value.category]) (by simp [stk, Value.category]) rfl
theorem c3_38 : cod 3 38 = some (.iload 4, 2) := cod_of b3 dX0_rests_38
theorem t3_38 {d : Nat} {h : Hp} {Q : Pst} {l0 l1 l2 l3 l5 l6 : Value} {x : Int32} {st : List Value} : T d 3 38 [l0, l1, l2, l3, .int x, l5, l6] st h Q ↔ T d 3 40 [l0, l1, l2, l3, .int x, l5, l6] (.int x :: st) h Q := T_iload c3_38 rfl
theorem c3_40 : cod 3 40 = some (.invokestatic 36, 3) := cod_of b3 dX0_rests_40
theorem t3_40 {d : Nat} {h : Hp} {Q : Pst} {a0 a1 : Int32} {ls : List Value} : T (d + 1) 3 40 ls [.int a1, .int a0] h Q ↔ T d 4 0 [.int a0, .int a1] [] h (fun x h2 => T (d + 1) 3 43 ls (rl x []) h2 Q) := T_staticR (as := [.int a0, .int a1]) (r := []) m3 m4 c3_40 k0_36 (Or.inl rfl) rfl (by decide) rfl (by simp [wrd, Value.category]) (by simp [stk, Value.category]) rfl
theorem c3_43 : cod 3 43 = some (.iload_n 3, 1) := cod_of b3 dX0_rests_43
theorem t3_43 {d : Nat} {h : Hp} {Q : Pst} {l0 l1 l2 l4 l5 l6 : Value} {x : Int32} {st : List Value} : T d 3 43 [l0, l1, l2, .int x, l4, l5, l6] st h Q ↔ T d 3 44 [l0, l1, l2, .int x, l4, l5, l6] (.int x :: st) h Q := T_iload_n c3_43 rfl
theorem c3_44 : cod 3 44 = some (.iload 4, 2) := cod_of b3 dX0_rests_44
theorem t3_44 {d : Nat} {h : Hp} {Q : Pst} {l0 l1 l2 l3 l5 l6 : Value} {x : Int32} {st : List Value} : T d 3 44 [l0, l1, l2, l3, .int x, l5, l6] st h Q ↔ T d 3 46 [l0, l1, l2, l3, .int x, l5, l6] (.int x :: st) h Q := T_iload c3_44 rfl
theorem c3_46 : cod 3 46 = some (.invokestatic 36, 3) := cod_of b3 dX0_rests_46
theorem t3_46 {d : Nat} {h : Hp} {Q : Pst} {a0 a1 s0 : Int32} {ls : List Value} : T (d + 1) 3 46 ls [.int a1, .int a0, .int s0] h Q ↔ T d 4 0 [.int a0, .int a1] [] h (fun x h2 => T (d + 1) 3 49 ls (rl x [.int s0]) h2 Q) := T_staticR (as := [.int a0, .int a1]) (r := [.int s0]) m3 m4 c3_46 k0_36 (Or.inl rfl) rfl (by decide) rfl (by simp [wrd, Value.category]) (by simp [stk, Value.category]) rfl
theorem c3_49 : cod 3 49 = some (.if_icmp .le 7, 3) := cod_of b3 dX0_rests_49
theorem t3_49 {d : Nat} {h : Hp} {Q : Pst} {x y : Int32} {ls : List Value} {st : List Value} : T d 3 49 ls (.int y :: .int x :: st) h Q ↔ (if x ≤ y then T d 3 56 ls st h Q else T d 3 52 ls st h Q) := T_icmp_le c3_49 (by decide)
theorem c3_52 : cod 3 52 = some (.iconst 1, 1) := cod_of b3 dX0_rests_52
theorem t3_52 {d : Nat} {h : Hp} {Q : Pst} {ls : List Value} {st : List Value} : T d 3 52 ls st h Q ↔ T d 3 53 ls (.int 1 :: st) h Q := T_iconstV c3_52 (by decide)
theorem c3_53 : cod 3 53 = some (.goto 4, 3) := cod_of b3 dX0_rests_53
theorem t3_53 {d : Nat} {h : Hp} {Q : Pst} {ls : List Value} {st : List Value} : T d 3 53 ls st h Q ↔ T d 3 57 ls st h Q := T_goto c3_53 (by decide)
theorem c3_57 : cod 3 57 = some (.istore 6, 2) := cod_of b3 dX0_rests_57
theorem t3_57 {d : Nat} {h : Hp} {Q : Pst} {l0 l1 l2 l3 l4 l5 l6 : Value} {x : Int32} {st : List Value} : T d 3 57 [l0, l1, l2, l3, l4, l5, l6] (.int x :: st) h Q ↔ T d 3 59 [l0, l1, l2, l3, l4, kil l5, .int x] st h Q := T_istore c3_57 (Nat.le_of_ble_eq_true rfl)
theorem c3_59 : cod 3 59 = some (.iload 6, 2) := cod_of b3 dX0_rests_59
theorem t3_59 {d : Nat} {h : Hp} {Q : Pst} {l0 l1 l2 l3 l4 l5 : Value} {x : Int32} {st : List Value} : T d 3 59 [l0, l1, l2, l3, l4, l5, .int x] st h Q ↔ T d 3 61 [l0, l1, l2, l3, l4, l5, .int x] (.int x :: st) h Q := T_iload c3_59 rfl
theorem c3_61 : cod 3 61 = some (.ifCond .ne 25, 3) := cod_of b3 dX0_rests_61
theorem t3_61 {d : Nat} {h : Hp} {Q : Pst} {x : Int32} {ls : List Value} {st : List Value} : T d 3 61 ls (.int x :: st) h Q ↔ (if ¬ x = 0 then T d 3 86 ls st h Q else T d 3 64 ls st h Q) := T_if_ne c3_61 (by decide)
theorem c3_64 : cod 3 64 = some (.aload_n 0, 1) := cod_of b3 dX0_rests_64
theorem t3_64 {d : Nat} {h : Hp} {Q : Pst} {l1 l2 l3 l4 l5 l6 : Value} {x : Nat} {st : List Value} : T d 3 64 [.ref x, l1, l2, l3, l4, l5, l6] st h Q ↔ T d 3 65 [.ref x, l1, l2, l3, l4, l5, l6] (.ref x :: st) h Q := T_aload_n c3_64 rfl
theorem c3_65 : cod 3 65 = some (.getfield 15, 3) := cod_of b3 dX0_rests_65
theorem t3_65 {d : Nat} {h : Hp} {Q : Pst} {a : Nat} {ls : List Value} {st : List Value} : T d 3 65 ls (.ref a :: st) h Q ↔ gF (h.2.2 a) 0 1 (fun v => T d 3 68 ls (v :: st) h Q) := T_getfieldR m3 c3_65 f0_15
theorem c3_68 : cod 3 68 = some (.iload 5, 2) := cod_of b3 dX0_rests_68
theorem t3_68 {d : Nat} {h : Hp} {Q : Pst} {l0 l1 l2 l3 l4 l6 : Value} {x : Int32} {st : List Value} : T d 3 68 [l0, l1, l2, l3, l4, .int x, l6] st h Q ↔ T d 3 70 [l0, l1, l2, l3, l4, .int x, l6] (.int x :: st) h Q := T_iload c3_68 rfl
theorem c3_70 : cod 3 70 = some (.invokestatic 32, 3) := cod_of b3 dX0_rests_70
theorem t3_70 {d : Nat} {h : Hp} {Q : Pst} {a0 : Nat} {a1 : Int32} {ls : List Value} : T (d + 1) 3 70 ls [.int a1, .ref a0] h Q ↔ T d 122 0 [.ref a0, .int a1] [] h (fun x h2 => T (d + 1) 3 73 ls (rl x []) h2 Q) := T_staticR (as := [.ref a0, .int a1]) (r := []) m3 m122 c3_70 k0_32 (Or.inr rfl) rfl (by decide) rfl (by simp [wrd, Value.category]) (by simp [stk, Value.category]) rfl
theorem c3_73 : cod 3 73 = some (.iload_n 3, 1) := cod_of b3 dX0_rests_73
theorem t3_73 {d : Nat} {h : Hp} {Q : Pst} {l0 l1 l2 l4 l5 l6 : Value} {x : Int32} {st : List Value} : T d 3 73 [l0, l1, l2, .int x, l4, l5, l6] st h Q ↔ T d 3 74 [l0, l1, l2, .int x, l4, l5, l6] (.int x :: st) h Q := T_iload_n c3_73 rfl
theorem c3_74 : cod 3 74 = some (.invokestatic 36, 3) := cod_of b3 dX0_rests_74
theorem t3_74 {d : Nat} {h : Hp} {Q : Pst} {a0 a1 : Int32} {ls : List Value} : T (d + 1) 3 74 ls [.int a1, .int a0] h Q ↔ T d 4 0 [.int a0, .int a1] [] h (fun x h2 => T (d + 1) 3 77 ls (rl x []) h2 Q) := T_staticR (as := [.int a0, .int a1]) (r := []) m3 m4 c3_74 k0_36 (Or.inl rfl) rfl (by decide) rfl (by simp [wrd, Value.category]) (by simp [stk, Value.category]) rfl
theorem c3_77 : cod 3 77 = some (.iload 4, 2) := cod_of b3 dX0_rests_77
theorem t3_77 {d : Nat} {h : Hp} {Q : Pst} {l0 l1 l2 l3 l5 l6 : Value} {x : Int32} {st : List Value} : T d 3 77 [l0, l1, l2, l3, .int x, l5, l6] st h Q ↔ T d 3 79 [l0, l1, l2, l3, .int x, l5, l6] (.int x :: st) h Q := T_iload c3_77 rfl
theorem c3_79 : cod 3 79 = some (.iload_n 3, 1) := cod_of b3 dX0_rests_79
theorem t3_79 {d : Nat} {h : Hp} {Q : Pst} {l0 l1 l2 l4 l5 l6 : Value} {x : Int32} {st : List Value} : T d 3 79 [l0, l1, l2, .int x, l4, l5, l6] st h Q ↔ T d 3 80 [l0, l1, l2, .int x, l4, l5, l6] (.int x :: st) h Q := T_iload_n c3_79 rfl
theorem c3_80 : cod 3 80 = some (.invokestatic 36, 3) := cod_of b3 dX0_rests_80
theorem t3_80 {d : Nat} {h : Hp} {Q : Pst} {a0 a1 s0 : Int32} {ls : List Value} : T (d + 1) 3 80 ls [.int a1, .int a0, .int s0] h Q ↔ T d 4 0 [.int a0, .int a1] [] h (fun x h2 => T (d + 1) 3 83 ls (rl x [.int s0]) h2 Q) := T_staticR (as := [.int a0, .int a1]) (r := [.int s0]) m3 m4 c3_80 k0_36 (Or.inl rfl) rfl (by decide) rfl (by simp [wrd, Value.category]) (by simp [stk, Value.category]) rfl
theorem c3_83 : cod 3 83 = some (.if_icmp .le 5, 3) := cod_of b3 dX0_rests_83
theorem t3_83 {d : Nat} {h : Hp} {Q : Pst} {x y : Int32} {ls : List Value} {st : List Value} : T d 3 83 ls (.int y :: .int x :: st) h Q ↔ (if x ≤ y then T d 3 88 ls st h Q else T d 3 86 ls st h Q) := T_icmp_le c3_83 (by decide)
theorem c3_88 : cod 3 88 = some (.iinc 5 1, 3) := cod_of b3 dX0_rests_88
theorem t3_88 {d : Nat} {h : Hp} {Q : Pst} {l0 l1 l2 l3 l4 l6 : Value} {x : Int32} {st : List Value} : T d 3 88 [l0, l1, l2, l3, l4, .int x, l6] st h Q ↔ T d 3 91 [l0, l1, l2, l3, kil l4, .int (x + 1), l6] st h Q := T_iincV c3_88 rfl (Nat.le_of_ble_eq_true rfl) (by decide) rfl
theorem c3_91 : cod 3 91 = some (.goto (-69), 3) := cod_of b3 dX0_rests_91
theorem t3_91 {d : Nat} {h : Hp} {Q : Pst} {ls : List Value} {st : List Value} : T d 3 91 ls st h Q ↔ T d 3 22 ls st h Q := T_goto c3_91 (by decide)
theorem c3_86 : cod 3 86 = some (.iconst 0, 1) := cod_of b3 dX0_rests_86
theorem t3_86 {d : Nat} {h : Hp} {Q : Pst} {ls : List Value} {st : List Value} : T d 3 86 ls st h Q ↔ T d 3 87 ls (.int 0 :: st) h Q := T_iconstV c3_86 (by decide)
theorem c3_87 : cod 3 87 = some (.ireturn, 1) := cod_of b3 dX0_rests_87
theorem t3_87 {d : Nat} {h : Hp} {Q : Pst} {x : Int32} {ls : List Value} : T d 3 87 ls [.int x] h Q ↔ (narrow .boolean (.int x) = .int x ∧ Q (some (.int x)) h) := T_zretR m3 c3_87 rfl
theorem c3_56 : cod 3 56 = some (.iconst 0, 1) := cod_of b3 dX0_rests_56
theorem t3_56 {d : Nat} {h : Hp} {Q : Pst} {ls : List Value} {st : List Value} : T d 3 56 ls st h Q ↔ T d 3 57 ls (.int 0 :: st) h Q := T_iconstV c3_56 (by decide)
theorem c3_94 : cod 3 94 = some (.iconst 1, 1) := cod_of b3 dX0_rests_94
theorem t3_94 {d : Nat} {h : Hp} {Q : Pst} {ls : List Value} {st : List Value} : T d 3 94 ls st h Q ↔ T d 3 95 ls (.int 1 :: st) h Q := T_iconstV c3_94 (by decide)
theorem c3_95 : cod 3 95 = some (.ireturn, 1) := cod_of b3 dX0_rests_95
theorem t3_95 {d : Nat} {h : Hp} {Q : Pst} {x : Int32} {ls : List Value} : T d 3 95 ls [.int x] h Q ↔ (narrow .boolean (.int x) = .int x ∧ Q (some (.int x)) h) := T_zretR m3 c3_95 rfl
theorem b4 : (mR 4).2.2.1 = cX0_gets := by rw [m4]
theorem c4_0 : cod 4 0 = some (.iload_n 1, 1) := cod_of b4 dX0_gets_0
theorem t4_0 {d : Nat} {h : Hp} {Q : Pst} {l0 : Value} {x : Int32} {st : List Value} : T d 4 0 [l0, .int x] st h Q ↔ T d 4 1 [l0, .int x] (.int x :: st) h Q := T_iload_n c4_0 rfl
theorem c4_1 : cod 4 1 = some (.iload_n 0, 1) := cod_of b4 dX0_gets_1
theorem t4_1 {d : Nat} {h : Hp} {Q : Pst} {l1 : Value} {x : Int32} {st : List Value} : T d 4 1 [.int x, l1] st h Q ↔ T d 4 2 [.int x, l1] (.int x :: st) h Q := T_iload_n c4_1 rfl
theorem c4_2 : cod 4 2 = some (.if_icmp .lt 9, 3) := cod_of b4 dX0_gets_2
theorem t4_2 {d : Nat} {h : Hp} {Q : Pst} {x y : Int32} {ls : List Value} {st : List Value} : T d 4 2 ls (.int y :: .int x :: st) h Q ↔ (if x < y then T d 4 11 ls st h Q else T d 4 5 ls st h Q) := T_icmp_lt c4_2 (by decide)
theorem c4_5 : cod 4 5 = some (.iload_n 0, 1) := cod_of b4 dX0_gets_5
theorem t4_5 {d : Nat} {h : Hp} {Q : Pst} {l1 : Value} {x : Int32} {st : List Value} : T d 4 5 [.int x, l1] st h Q ↔ T d 4 6 [.int x, l1] (.int x :: st) h Q := T_iload_n c4_5 rfl
theorem c4_6 : cod 4 6 = some (.iconst 2, 1) := cod_of b4 dX0_gets_6
theorem t4_6 {d : Nat} {h : Hp} {Q : Pst} {ls : List Value} {st : List Value} : T d 4 6 ls st h Q ↔ T d 4 7 ls (.int 2 :: st) h Q := T_iconstV c4_6 (by decide)
theorem c4_7 : cod 4 7 = some (.isub, 1) := cod_of b4 dX0_gets_7
theorem t4_7 {d : Nat} {h : Hp} {Q : Pst} {x y : Int32} {ls : List Value} {st : List Value} : T d 4 7 ls (.int y :: .int x :: st) h Q ↔ T d 4 8 ls (.int (x - y) :: st) h Q := T_isub c4_7
theorem c4_8 : cod 4 8 = some (.goto 4, 3) := cod_of b4 dX0_gets_8
theorem t4_8 {d : Nat} {h : Hp} {Q : Pst} {ls : List Value} {st : List Value} : T d 4 8 ls st h Q ↔ T d 4 12 ls st h Q := T_goto c4_8 (by decide)
theorem c4_12 : cod 4 12 = some (.ireturn, 1) := cod_of b4 dX0_gets_12
theorem t4_12 {d : Nat} {h : Hp} {Q : Pst} {x : Int32} {ls : List Value} : T d 4 12 ls [.int x] h Q ↔ Q (some (.int x)) h := T_iretR m4 c4_12 rfl
theorem c4_11 : cod 4 11 = some (.iload_n 0, 1) := cod_of b4 dX0_gets_11
theorem t4_11 {d : Nat} {h : Hp} {Q : Pst} {l1 : Value} {x : Int32} {st : List Value} : T d 4 11 [.int x, l1] st h Q ↔ T d 4 12 [.int x, l1] (.int x :: st) h Q := T_iload_n c4_11 rfl
theorem b5 : (mR 5).2.2.1 = cX1_init := by rw [m5]
theorem c5_0 : cod 5 0 = some (.aload_n 0, 1) := cod_of b5 dX1_init_0
theorem t5_0 {d : Nat} {h : Hp} {Q : Pst} {x : Nat} {st : List Value} : T d 5 0 [.ref x] st h Q ↔ T d 5 1 [.ref x] (.ref x :: st) h Q := T_aload_n c5_0 rfl
theorem c5_1 : cod 5 1 = some (.invokespecial 3, 3) := cod_of b5 dX1_init_1
theorem t5_1 {d : Nat} {h : Hp} {Q : Pst} {a : Nat} {ls : List Value} : T (d + 1) 5 1 ls [.ref a] h Q ↔ T (d + 1) 5 4 ls [] h Q := T_objinitR m5 c5_1 k1_3 (by simp [stk, Value.category])
theorem c5_4 : cod 5 4 = some (.aload_n 0, 1) := cod_of b5 dX1_init_4
theorem t5_4 {d : Nat} {h : Hp} {Q : Pst} {x : Nat} {st : List Value} : T d 5 4 [.ref x] st h Q ↔ T d 5 5 [.ref x] (.ref x :: st) h Q := T_aload_n c5_4 rfl
theorem c5_5 : cod 5 5 = some (.bipush 6, 2) := cod_of b5 dX1_init_5
theorem t5_5 {d : Nat} {h : Hp} {Q : Pst} {ls : List Value} {st : List Value} : T d 5 5 ls st h Q ↔ T d 5 7 ls (.int 6 :: st) h Q := T_bipushV c5_5 (by decide)
theorem c5_7 : cod 5 7 = some (.newarray .int, 2) := cod_of b5 dX1_init_7
theorem t5_7 {d : Nat} {h : Hp} {Q : Pst} {x : Int32} {ls : List Value} {st : List Value} : T d 5 7 ls (.int x :: st) h Q ↔ ((0 ≤ x.toInt ∧ x.toInt ≤ 100000) ∧ T d 5 9 ls (.ref h.1 :: st) (hnew h x.toNatClampNeg (oI x.toNatClampNeg fun _ => 0)) Q) := T_newi c5_7
theorem c5_9 : cod 5 9 = some (.putfield 9, 3) := cod_of b5 dX1_init_9
theorem t5_9 {d : Nat} {h : Hp} {Q : Pst} {a x : Nat} {ls : List Value} {st : List Value} : T d 5 9 ls (.ref x :: .ref a :: st) h Q ↔ pF (h.2.2 a) 1 0 (.ref x) (fun cell => T d 5 12 ls st (hup h a cell) Q) := T_putfieldR m5 c5_9 f1_9 (by decide +kernel)
theorem c5_12 : cod 5 12 = some (.return_, 1) := cod_of b5 dX1_init_12
theorem t5_12 {d : Nat} {h : Hp} {Q : Pst} {ls : List Value} : T d 5 12 ls [] h Q ↔ Q none h := T_retR m5 c5_12 rfl
theorem b6 : (mR 6).2.2.1 = cX1_sizeBits := by rw [m6]
theorem c6_0 : cod 6 0 = some (.iconst 0, 1) := cod_of b6 dX1_sizeBits_0
theorem t6_0 {d : Nat} {h : Hp} {Q : Pst} {ls : List Value} {st : List Value} : T d 6 0 ls st h Q ↔ T d 6 1 ls (.int 0 :: st) h Q := T_iconstV c6_0 (by decide)
theorem c6_1 : cod 6 1 = some (.istore_n 3, 1) := cod_of b6 dX1_sizeBits_1
theorem t6_1 {d : Nat} {h : Hp} {Q : Pst} {l0 l1 l2 l3 l4 : Value} {x : Int32} {st : List Value} : T d 6 1 [l0, l1, l2, l3, l4] (.int x :: st) h Q ↔ T d 6 2 [l0, l1, kil l2, .int x, l4] st h Q := T_istore_n c6_1 (Nat.le_of_ble_eq_true rfl)
theorem c6_2 : cod 6 2 = some (.iconst 1, 1) := cod_of b6 dX1_sizeBits_2
theorem t6_2 {d : Nat} {h : Hp} {Q : Pst} {ls : List Value} {st : List Value} : T d 6 2 ls st h Q ↔ T d 6 3 ls (.int 1 :: st) h Q := T_iconstV c6_2 (by decide)
theorem c6_3 : cod 6 3 = some (.istore 4, 2) := cod_of b6 dX1_sizeBits_3
theorem t6_3 {d : Nat} {h : Hp} {Q : Pst} {l0 l1 l2 l3 l4 : Value} {x : Int32} {st : List Value} : T d 6 3 [l0, l1, l2, l3, l4] (.int x :: st) h Q ↔ T d 6 5 [l0, l1, l2, kil l3, .int x] st h Q := T_istore c6_3 (Nat.le_of_ble_eq_true rfl)
theorem c6_5 : cod 6 5 = some (.iload 4, 2) := cod_of b6 dX1_sizeBits_5
theorem t6_5 {d : Nat} {h : Hp} {Q : Pst} {l0 l1 l2 l3 : Value} {x : Int32} {st : List Value} : T d 6 5 [l0, l1, l2, l3, .int x] st h Q ↔ T d 6 7 [l0, l1, l2, l3, .int x] (.int x :: st) h Q := T_iload c6_5 rfl
theorem c6_7 : cod 6 7 = some (.bipush 30, 2) := cod_of b6 dX1_sizeBits_7
theorem t6_7 {d : Nat} {h : Hp} {Q : Pst} {ls : List Value} {st : List Value} : T d 6 7 ls st h Q ↔ T d 6 9 ls (.int 30 :: st) h Q := T_bipushV c6_7 (by decide)
theorem c6_9 : cod 6 9 = some (.if_icmp .gt 27, 3) := cod_of b6 dX1_sizeBits_9
theorem t6_9 {d : Nat} {h : Hp} {Q : Pst} {x y : Int32} {ls : List Value} {st : List Value} : T d 6 9 ls (.int y :: .int x :: st) h Q ↔ (if y < x then T d 6 36 ls st h Q else T d 6 12 ls st h Q) := T_icmp_gt c6_9 (by decide)
theorem c6_12 : cod 6 12 = some (.aload_n 0, 1) := cod_of b6 dX1_sizeBits_12
theorem t6_12 {d : Nat} {h : Hp} {Q : Pst} {l1 l2 l3 l4 : Value} {x : Nat} {st : List Value} : T d 6 12 [.ref x, l1, l2, l3, l4] st h Q ↔ T d 6 13 [.ref x, l1, l2, l3, l4] (.ref x :: st) h Q := T_aload_n c6_12 rfl
theorem c6_13 : cod 6 13 = some (.aload_n 1, 1) := cod_of b6 dX1_sizeBits_13
theorem t6_13 {d : Nat} {h : Hp} {Q : Pst} {l0 l2 l3 l4 : Value} {x : Nat} {st : List Value} : T d 6 13 [l0, .ref x, l2, l3, l4] st h Q ↔ T d 6 14 [l0, .ref x, l2, l3, l4] (.ref x :: st) h Q := T_aload_n c6_13 rfl
theorem c6_14 : cod 6 14 = some (.iload_n 2, 1) := cod_of b6 dX1_sizeBits_14
theorem t6_14 {d : Nat} {h : Hp} {Q : Pst} {l0 l1 l3 l4 : Value} {x : Int32} {st : List Value} : T d 6 14 [l0, l1, .int x, l3, l4] st h Q ↔ T d 6 15 [l0, l1, .int x, l3, l4] (.int x :: st) h Q := T_iload_n c6_14 rfl
theorem c6_15 : cod 6 15 = some (.iload 4, 2) := cod_of b6 dX1_sizeBits_15
theorem t6_15 {d : Nat} {h : Hp} {Q : Pst} {l0 l1 l2 l3 : Value} {x : Int32} {st : List Value} : T d 6 15 [l0, l1, l2, l3, .int x] st h Q ↔ T d 6 17 [l0, l1, l2, l3, .int x] (.int x :: st) h Q := T_iload c6_15 rfl
theorem c6_17 : cod 6 17 = some (.invokevirtual 15, 3) := cod_of b6 dX1_sizeBits_17
theorem t6_17 {d : Nat} {h : Hp} {Q : Pst} {a0 a : Nat} {a1 a2 : Int32} {ls : List Value} (ho : isO (h.2.2 a) 1) : T (d + 1) 6 17 ls [.int a2, .int a1, .ref a0, .ref a] h Q ↔ T d 7 0 [.ref a, .ref a0, .int a1, .int a2, un, un, un] [] h (fun x h2 => T (d + 1) 6 20 ls (rl x []) h2 Q) := T_virtualR (as := [.ref a0, .int a1, .int a2]) (r := []) m6 m7 c6_17 k1_15  rfl (by decide) rfl (by simp [wrd, Value.category]) (by simp [stk, Value.category]) rfl (by decide +kernel) ho
theorem c6_20 : cod 6 20 = some (.ifCond .eq 10, 3) := cod_of b6 dX1_sizeBits_20
theorem t6_20 {d : Nat} {h : Hp} {Q : Pst} {x : Int32} {ls : List Value} {st : List Value} : T d 6 20 ls (.int x :: st) h Q ↔ (if x = 0 then T d 6 30 ls st h Q else T d 6 23 ls st h Q) := T_if_eq c6_20 (by decide)
theorem c6_23 : cod 6 23 = some (.iload_n 3, 1) := cod_of b6 dX1_sizeBits_23
theorem t6_23 {d : Nat} {h : Hp} {Q : Pst} {l0 l1 l2 l4 : Value} {x : Int32} {st : List Value} : T d 6 23 [l0, l1, l2, .int x, l4] st h Q ↔ T d 6 24 [l0, l1, l2, .int x, l4] (.int x :: st) h Q := T_iload_n c6_23 rfl
theorem c6_24 : cod 6 24 = some (.iconst 1, 1) := cod_of b6 dX1_sizeBits_24
theorem t6_24 {d : Nat} {h : Hp} {Q : Pst} {ls : List Value} {st : List Value} : T d 6 24 ls st h Q ↔ T d 6 25 ls (.int 1 :: st) h Q := T_iconstV c6_24 (by decide)
theorem c6_25 : cod 6 25 = some (.iload 4, 2) := cod_of b6 dX1_sizeBits_25
theorem t6_25 {d : Nat} {h : Hp} {Q : Pst} {l0 l1 l2 l3 : Value} {x : Int32} {st : List Value} : T d 6 25 [l0, l1, l2, l3, .int x] st h Q ↔ T d 6 27 [l0, l1, l2, l3, .int x] (.int x :: st) h Q := T_iload c6_25 rfl
theorem c6_27 : cod 6 27 = some (.ishl, 1) := cod_of b6 dX1_sizeBits_27
theorem t6_27 {d : Nat} {h : Hp} {Q : Pst} {x y : Int32} {ls : List Value} {st : List Value} : T d 6 27 ls (.int y :: .int x :: st) h Q ↔ T d 6 28 ls (.int (x <<< (y &&& 31)) :: st) h Q := T_ishl c6_27
theorem c6_28 : cod 6 28 = some (.ior, 1) := cod_of b6 dX1_sizeBits_28
theorem t6_28 {d : Nat} {h : Hp} {Q : Pst} {x y : Int32} {ls : List Value} {st : List Value} : T d 6 28 ls (.int y :: .int x :: st) h Q ↔ T d 6 29 ls (.int (x ||| y) :: st) h Q := T_ior c6_28
theorem c6_29 : cod 6 29 = some (.istore_n 3, 1) := cod_of b6 dX1_sizeBits_29
theorem t6_29 {d : Nat} {h : Hp} {Q : Pst} {l0 l1 l2 l3 l4 : Value} {x : Int32} {st : List Value} : T d 6 29 [l0, l1, l2, l3, l4] (.int x :: st) h Q ↔ T d 6 30 [l0, l1, kil l2, .int x, l4] st h Q := T_istore_n c6_29 (Nat.le_of_ble_eq_true rfl)
theorem c6_30 : cod 6 30 = some (.iinc 4 1, 3) := cod_of b6 dX1_sizeBits_30
theorem t6_30 {d : Nat} {h : Hp} {Q : Pst} {l0 l1 l2 l3 : Value} {x : Int32} {st : List Value} : T d 6 30 [l0, l1, l2, l3, .int x] st h Q ↔ T d 6 33 [l0, l1, l2, kil l3, .int (x + 1)] st h Q := T_iincV c6_30 rfl (Nat.le_of_ble_eq_true rfl) (by decide) rfl
theorem c6_33 : cod 6 33 = some (.goto (-28), 3) := cod_of b6 dX1_sizeBits_33
theorem t6_33 {d : Nat} {h : Hp} {Q : Pst} {ls : List Value} {st : List Value} : T d 6 33 ls st h Q ↔ T d 6 5 ls st h Q := T_goto c6_33 (by decide)
theorem c6_36 : cod 6 36 = some (.iload_n 3, 1) := cod_of b6 dX1_sizeBits_36
theorem t6_36 {d : Nat} {h : Hp} {Q : Pst} {l0 l1 l2 l4 : Value} {x : Int32} {st : List Value} : T d 6 36 [l0, l1, l2, .int x, l4] st h Q ↔ T d 6 37 [l0, l1, l2, .int x, l4] (.int x :: st) h Q := T_iload_n c6_36 rfl
theorem c6_37 : cod 6 37 = some (.ireturn, 1) := cod_of b6 dX1_sizeBits_37
theorem t6_37 {d : Nat} {h : Hp} {Q : Pst} {x : Int32} {ls : List Value} : T d 6 37 ls [.int x] h Q ↔ Q (some (.int x)) h := T_iretR m6 c6_37 rfl
theorem b7 : (mR 7).2.2.1 = cX1_sizeFits := by rw [m7]
theorem c7_0 : cod 7 0 = some (.aload_n 1, 1) := cod_of b7 dX1_sizeFits_0
theorem t7_0 {d : Nat} {h : Hp} {Q : Pst} {l0 l2 l3 l4 l5 l6 : Value} {x : Nat} {st : List Value} : T d 7 0 [l0, .ref x, l2, l3, l4, l5, l6] st h Q ↔ T d 7 1 [l0, .ref x, l2, l3, l4, l5, l6] (.ref x :: st) h Q := T_aload_n c7_0 rfl
theorem c7_1 : cod 7 1 = some (.getfield 19, 3) := cod_of b7 dX1_sizeFits_1
theorem t7_1 {d : Nat} {h : Hp} {Q : Pst} {a : Nat} {ls : List Value} {st : List Value} : T d 7 1 ls (.ref a :: st) h Q ↔ gF (h.2.2 a) 5 6 (fun v => T d 7 4 ls (v :: st) h Q) := T_getfieldR m7 c7_1 f1_19
theorem c7_4 : cod 7 4 = some (.astore 4, 2) := cod_of b7 dX1_sizeFits_4
theorem t7_4 {d : Nat} {h : Hp} {Q : Pst} {l0 l1 l2 l3 l4 l5 l6 : Value} {x : Nat} {st : List Value} : T d 7 4 [l0, l1, l2, l3, l4, l5, l6] (.ref x :: st) h Q ↔ T d 7 6 [l0, l1, l2, kil l3, .ref x, l5, l6] st h Q := T_astore c7_4 (Nat.le_of_ble_eq_true rfl)
theorem c7_6 : cod 7 6 = some (.iconst 0, 1) := cod_of b7 dX1_sizeFits_6
theorem t7_6 {d : Nat} {h : Hp} {Q : Pst} {ls : List Value} {st : List Value} : T d 7 6 ls st h Q ↔ T d 7 7 ls (.int 0 :: st) h Q := T_iconstV c7_6 (by decide)
theorem c7_7 : cod 7 7 = some (.istore 5, 2) := cod_of b7 dX1_sizeFits_7
theorem t7_7 {d : Nat} {h : Hp} {Q : Pst} {l0 l1 l2 l3 l4 l5 l6 : Value} {x : Int32} {st : List Value} : T d 7 7 [l0, l1, l2, l3, l4, l5, l6] (.int x :: st) h Q ↔ T d 7 9 [l0, l1, l2, l3, kil l4, .int x, l6] st h Q := T_istore c7_7 (Nat.le_of_ble_eq_true rfl)
theorem c7_9 : cod 7 9 = some (.iload 5, 2) := cod_of b7 dX1_sizeFits_9
theorem t7_9 {d : Nat} {h : Hp} {Q : Pst} {l0 l1 l2 l3 l4 l6 : Value} {x : Int32} {st : List Value} : T d 7 9 [l0, l1, l2, l3, l4, .int x, l6] st h Q ↔ T d 7 11 [l0, l1, l2, l3, l4, .int x, l6] (.int x :: st) h Q := T_iload c7_9 rfl
theorem c7_11 : cod 7 11 = some (.aload 4, 2) := cod_of b7 dX1_sizeFits_11
theorem t7_11 {d : Nat} {h : Hp} {Q : Pst} {l0 l1 l2 l3 l5 l6 : Value} {x : Nat} {st : List Value} : T d 7 11 [l0, l1, l2, l3, .ref x, l5, l6] st h Q ↔ T d 7 13 [l0, l1, l2, l3, .ref x, l5, l6] (.ref x :: st) h Q := T_aload c7_11 rfl
theorem c7_13 : cod 7 13 = some (.getfield 25, 3) := cod_of b7 dX1_sizeFits_13
theorem t7_13 {d : Nat} {h : Hp} {Q : Pst} {a : Nat} {ls : List Value} {st : List Value} : T d 7 13 ls (.ref a :: st) h Q ↔ gF (h.2.2 a) 3 3 (fun v => T d 7 16 ls (v :: st) h Q) := T_getfieldR m7 c7_13 f1_25
theorem c7_16 : cod 7 16 = some (.if_icmp .ge 68, 3) := cod_of b7 dX1_sizeFits_16
theorem t7_16 {d : Nat} {h : Hp} {Q : Pst} {x y : Int32} {ls : List Value} {st : List Value} : T d 7 16 ls (.int y :: .int x :: st) h Q ↔ (if y ≤ x then T d 7 84 ls st h Q else T d 7 19 ls st h Q) := T_icmp_ge c7_16 (by decide)
theorem c7_19 : cod 7 19 = some (.aload 4, 2) := cod_of b7 dX1_sizeFits_19
theorem t7_19 {d : Nat} {h : Hp} {Q : Pst} {l0 l1 l2 l3 l5 l6 : Value} {x : Nat} {st : List Value} : T d 7 19 [l0, l1, l2, l3, .ref x, l5, l6] st h Q ↔ T d 7 21 [l0, l1, l2, l3, .ref x, l5, l6] (.ref x :: st) h Q := T_aload c7_19 rfl
theorem c7_21 : cod 7 21 = some (.iload 5, 2) := cod_of b7 dX1_sizeFits_21
theorem t7_21 {d : Nat} {h : Hp} {Q : Pst} {l0 l1 l2 l3 l4 l6 : Value} {x : Int32} {st : List Value} : T d 7 21 [l0, l1, l2, l3, l4, .int x, l6] st h Q ↔ T d 7 23 [l0, l1, l2, l3, l4, .int x, l6] (.int x :: st) h Q := T_iload c7_21 rfl
theorem c7_23 : cod 7 23 = some (.iconst 0, 1) := cod_of b7 dX1_sizeFits_23
theorem t7_23 {d : Nat} {h : Hp} {Q : Pst} {ls : List Value} {st : List Value} : T d 7 23 ls st h Q ↔ T d 7 24 ls (.int 0 :: st) h Q := T_iconstV c7_23 (by decide)
theorem c7_24 : cod 7 24 = some (.invokevirtual 31, 3) := cod_of b7 dX1_sizeFits_24
theorem t7_24 {d : Nat} {h : Hp} {Q : Pst} {a0 a1 : Int32} {a : Nat} {ls : List Value} (ho : isO (h.2.2 a) 3) : T (d + 1) 7 24 ls [.int a1, .int a0, .ref a] h Q ↔ T d 39 0 [.ref a, .int a0, .int a1] [] h (fun x h2 => T (d + 1) 7 27 ls (rl x []) h2 Q) := T_virtualR (as := [.int a0, .int a1]) (r := []) m7 m39 c7_24 k1_31  rfl (by decide) rfl (by simp [wrd, Value.category]) (by simp [stk, Value.category]) rfl (by decide +kernel) ho
theorem c7_27 : cod 7 27 = some (.iload_n 2, 1) := cod_of b7 dX1_sizeFits_27
theorem t7_27 {d : Nat} {h : Hp} {Q : Pst} {l0 l1 l3 l4 l5 l6 : Value} {x : Int32} {st : List Value} : T d 7 27 [l0, l1, .int x, l3, l4, l5, l6] st h Q ↔ T d 7 28 [l0, l1, .int x, l3, l4, l5, l6] (.int x :: st) h Q := T_iload_n c7_27 rfl
theorem c7_28 : cod 7 28 = some (.if_icmp .ne 7, 3) := cod_of b7 dX1_sizeFits_28
theorem t7_28 {d : Nat} {h : Hp} {Q : Pst} {x y : Int32} {ls : List Value} {st : List Value} : T d 7 28 ls (.int y :: .int x :: st) h Q ↔ (if ¬ x = y then T d 7 35 ls st h Q else T d 7 31 ls st h Q) := T_icmp_ne c7_28 (by decide)
theorem c7_31 : cod 7 31 = some (.iconst 1, 1) := cod_of b7 dX1_sizeFits_31
theorem t7_31 {d : Nat} {h : Hp} {Q : Pst} {ls : List Value} {st : List Value} : T d 7 31 ls st h Q ↔ T d 7 32 ls (.int 1 :: st) h Q := T_iconstV c7_31 (by decide)
theorem c7_32 : cod 7 32 = some (.goto 4, 3) := cod_of b7 dX1_sizeFits_32
theorem t7_32 {d : Nat} {h : Hp} {Q : Pst} {ls : List Value} {st : List Value} : T d 7 32 ls st h Q ↔ T d 7 36 ls st h Q := T_goto c7_32 (by decide)
theorem c7_36 : cod 7 36 = some (.istore 6, 2) := cod_of b7 dX1_sizeFits_36
theorem t7_36 {d : Nat} {h : Hp} {Q : Pst} {l0 l1 l2 l3 l4 l5 l6 : Value} {x : Int32} {st : List Value} : T d 7 36 [l0, l1, l2, l3, l4, l5, l6] (.int x :: st) h Q ↔ T d 7 38 [l0, l1, l2, l3, l4, kil l5, .int x] st h Q := T_istore c7_36 (Nat.le_of_ble_eq_true rfl)
theorem c7_38 : cod 7 38 = some (.iload 6, 2) := cod_of b7 dX1_sizeFits_38
theorem t7_38 {d : Nat} {h : Hp} {Q : Pst} {l0 l1 l2 l3 l4 l5 : Value} {x : Int32} {st : List Value} : T d 7 38 [l0, l1, l2, l3, l4, l5, .int x] st h Q ↔ T d 7 40 [l0, l1, l2, l3, l4, l5, .int x] (.int x :: st) h Q := T_iload c7_38 rfl
theorem c7_40 : cod 7 40 = some (.ifCond .eq 38, 3) := cod_of b7 dX1_sizeFits_40
theorem t7_40 {d : Nat} {h : Hp} {Q : Pst} {x : Int32} {ls : List Value} {st : List Value} : T d 7 40 ls (.int x :: st) h Q ↔ (if x = 0 then T d 7 78 ls st h Q else T d 7 43 ls st h Q) := T_if_eq c7_40 (by decide)
theorem c7_43 : cod 7 43 = some (.aload_n 1, 1) := cod_of b7 dX1_sizeFits_43
theorem t7_43 {d : Nat} {h : Hp} {Q : Pst} {l0 l2 l3 l4 l5 l6 : Value} {x : Nat} {st : List Value} : T d 7 43 [l0, .ref x, l2, l3, l4, l5, l6] st h Q ↔ T d 7 44 [l0, .ref x, l2, l3, l4, l5, l6] (.ref x :: st) h Q := T_aload_n c7_43 rfl
theorem c7_44 : cod 7 44 = some (.iload_n 2, 1) := cod_of b7 dX1_sizeFits_44
theorem t7_44 {d : Nat} {h : Hp} {Q : Pst} {l0 l1 l3 l4 l5 l6 : Value} {x : Int32} {st : List Value} : T d 7 44 [l0, l1, .int x, l3, l4, l5, l6] st h Q ↔ T d 7 45 [l0, l1, .int x, l3, l4, l5, l6] (.int x :: st) h Q := T_iload_n c7_44 rfl
theorem c7_45 : cod 7 45 = some (.iload_n 3, 1) := cod_of b7 dX1_sizeFits_45
theorem t7_45 {d : Nat} {h : Hp} {Q : Pst} {l0 l1 l2 l4 l5 l6 : Value} {x : Int32} {st : List Value} : T d 7 45 [l0, l1, l2, .int x, l4, l5, l6] st h Q ↔ T d 7 46 [l0, l1, l2, .int x, l4, l5, l6] (.int x :: st) h Q := T_iload_n c7_45 rfl
theorem c7_46 : cod 7 46 = some (.aload 4, 2) := cod_of b7 dX1_sizeFits_46
theorem t7_46 {d : Nat} {h : Hp} {Q : Pst} {l0 l1 l2 l3 l5 l6 : Value} {x : Nat} {st : List Value} : T d 7 46 [l0, l1, l2, l3, .ref x, l5, l6] st h Q ↔ T d 7 48 [l0, l1, l2, l3, .ref x, l5, l6] (.ref x :: st) h Q := T_aload c7_46 rfl
theorem c7_48 : cod 7 48 = some (.iload 5, 2) := cod_of b7 dX1_sizeFits_48
theorem t7_48 {d : Nat} {h : Hp} {Q : Pst} {l0 l1 l2 l3 l4 l6 : Value} {x : Int32} {st : List Value} : T d 7 48 [l0, l1, l2, l3, l4, .int x, l6] st h Q ↔ T d 7 50 [l0, l1, l2, l3, l4, .int x, l6] (.int x :: st) h Q := T_iload c7_48 rfl
theorem c7_50 : cod 7 50 = some (.iconst 1, 1) := cod_of b7 dX1_sizeFits_50
theorem t7_50 {d : Nat} {h : Hp} {Q : Pst} {ls : List Value} {st : List Value} : T d 7 50 ls st h Q ↔ T d 7 51 ls (.int 1 :: st) h Q := T_iconstV c7_50 (by decide)
theorem c7_51 : cod 7 51 = some (.invokevirtual 31, 3) := cod_of b7 dX1_sizeFits_51
theorem t7_51 {d : Nat} {h : Hp} {Q : Pst} {a0 a1 s0 s1 : Int32} {s2 a : Nat} {ls : List Value} (ho : isO (h.2.2 a) 3) : T (d + 1) 7 51 ls [.int a1, .int a0, .ref a, .int s0, .int s1, .ref s2] h Q ↔ T d 39 0 [.ref a, .int a0, .int a1] [] h (fun x h2 => T (d + 1) 7 54 ls (rl x [.int s0, .int s1, .ref s2]) h2 Q) := T_virtualR (as := [.int a0, .int a1]) (r := [.int s0, .int s1, .ref s2]) m7 m39 c7_51 k1_31  rfl (by decide) rfl (by simp [wrd, Value.category]) (by simp [stk, Value.category]) rfl (by decide +kernel) ho
theorem c7_54 : cod 7 54 = some (.aload 4, 2) := cod_of b7 dX1_sizeFits_54
theorem t7_54 {d : Nat} {h : Hp} {Q : Pst} {l0 l1 l2 l3 l5 l6 : Value} {x : Nat} {st : List Value} : T d 7 54 [l0, l1, l2, l3, .ref x, l5, l6] st h Q ↔ T d 7 56 [l0, l1, l2, l3, .ref x, l5, l6] (.ref x :: st) h Q := T_aload c7_54 rfl
theorem c7_56 : cod 7 56 = some (.iload 5, 2) := cod_of b7 dX1_sizeFits_56
theorem t7_56 {d : Nat} {h : Hp} {Q : Pst} {l0 l1 l2 l3 l4 l6 : Value} {x : Int32} {st : List Value} : T d 7 56 [l0, l1, l2, l3, l4, .int x, l6] st h Q ↔ T d 7 58 [l0, l1, l2, l3, l4, .int x, l6] (.int x :: st) h Q := T_iload c7_56 rfl
theorem c7_58 : cod 7 58 = some (.iconst 2, 1) := cod_of b7 dX1_sizeFits_58
theorem t7_58 {d : Nat} {h : Hp} {Q : Pst} {ls : List Value} {st : List Value} : T d 7 58 ls st h Q ↔ T d 7 59 ls (.int 2 :: st) h Q := T_iconstV c7_58 (by decide)
theorem c7_59 : cod 7 59 = some (.invokevirtual 31, 3) := cod_of b7 dX1_sizeFits_59
theorem t7_59 {d : Nat} {h : Hp} {Q : Pst} {a0 a1 s0 s1 s2 : Int32} {s3 a : Nat} {ls : List Value} (ho : isO (h.2.2 a) 3) : T (d + 1) 7 59 ls [.int a1, .int a0, .ref a, .int s0, .int s1, .int s2, .ref s3] h Q ↔ T d 39 0 [.ref a, .int a0, .int a1] [] h (fun x h2 => T (d + 1) 7 62 ls (rl x [.int s0, .int s1, .int s2, .ref s3]) h2 Q) := T_virtualR (as := [.int a0, .int a1]) (r := [.int s0, .int s1, .int s2, .ref s3]) m7 m39 c7_59 k1_31  rfl (by decide) rfl (by simp [wrd, Value.category]) (by simp [stk, Value.category]) rfl (by decide +kernel) ho
theorem c7_62 : cod 7 62 = some (.invokevirtual 35, 3) := cod_of b7 dX1_sizeFits_62
theorem t7_62 {d : Nat} {h : Hp} {Q : Pst} {a0 a1 a2 a3 : Int32} {a : Nat} {ls : List Value} (ho : isO (h.2.2 a) 5) : T (d + 1) 7 62 ls [.int a3, .int a2, .int a1, .int a0, .ref a] h Q ↔ T d 66 0 [.ref a, .int a0, .int a1, .int a2, .int a3, un] [] h (fun x h2 => T (d + 1) 7 65 ls (rl x []) h2 Q) := T_virtualR (as := [.int a0, .int a1, .int a2, .int a3]) (r := []) m7 m66 c7_62 k1_35  rfl (by decide) rfl (by simp [wrd, Value.category]) (by simp [stk, Value.category]) rfl (by decide +kernel) ho
theorem c7_65 : cod 7 65 = some (.aload 4, 2) := cod_of b7 dX1_sizeFits_65
theorem t7_65 {d : Nat} {h : Hp} {Q : Pst} {l0 l1 l2 l3 l5 l6 : Value} {x : Nat} {st : List Value} : T d 7 65 [l0, l1, l2, l3, .ref x, l5, l6] st h Q ↔ T d 7 67 [l0, l1, l2, l3, .ref x, l5, l6] (.ref x :: st) h Q := T_aload c7_65 rfl
theorem c7_67 : cod 7 67 = some (.iload 5, 2) := cod_of b7 dX1_sizeFits_67
theorem t7_67 {d : Nat} {h : Hp} {Q : Pst} {l0 l1 l2 l3 l4 l6 : Value} {x : Int32} {st : List Value} : T d 7 67 [l0, l1, l2, l3, l4, .int x, l6] st h Q ↔ T d 7 69 [l0, l1, l2, l3, l4, .int x, l6] (.int x :: st) h Q := T_iload c7_67 rfl
theorem c7_69 : cod 7 69 = some (.iconst 3, 1) := cod_of b7 dX1_sizeFits_69
theorem t7_69 {d : Nat} {h : Hp} {Q : Pst} {ls : List Value} {st : List Value} : T d 7 69 ls st h Q ↔ T d 7 70 ls (.int 3 :: st) h Q := T_iconstV c7_69 (by decide)
theorem c7_70 : cod 7 70 = some (.invokevirtual 31, 3) := cod_of b7 dX1_sizeFits_70
theorem t7_70 {d : Nat} {h : Hp} {Q : Pst} {a0 a1 s0 : Int32} {a : Nat} {ls : List Value} (ho : isO (h.2.2 a) 3) : T (d + 1) 7 70 ls [.int a1, .int a0, .ref a, .int s0] h Q ↔ T d 39 0 [.ref a, .int a0, .int a1] [] h (fun x h2 => T (d + 1) 7 73 ls (rl x [.int s0]) h2 Q) := T_virtualR (as := [.int a0, .int a1]) (r := [.int s0]) m7 m39 c7_70 k1_31  rfl (by decide) rfl (by simp [wrd, Value.category]) (by simp [stk, Value.category]) rfl (by decide +kernel) ho
theorem c7_73 : cod 7 73 = some (.if_icmp .eq 5, 3) := cod_of b7 dX1_sizeFits_73
theorem t7_73 {d : Nat} {h : Hp} {Q : Pst} {x y : Int32} {ls : List Value} {st : List Value} : T d 7 73 ls (.int y :: .int x :: st) h Q ↔ (if x = y then T d 7 78 ls st h Q else T d 7 76 ls st h Q) := T_icmp_eq c7_73 (by decide)
theorem c7_76 : cod 7 76 = some (.iconst 0, 1) := cod_of b7 dX1_sizeFits_76
theorem t7_76 {d : Nat} {h : Hp} {Q : Pst} {ls : List Value} {st : List Value} : T d 7 76 ls st h Q ↔ T d 7 77 ls (.int 0 :: st) h Q := T_iconstV c7_76 (by decide)
theorem c7_77 : cod 7 77 = some (.ireturn, 1) := cod_of b7 dX1_sizeFits_77
theorem t7_77 {d : Nat} {h : Hp} {Q : Pst} {x : Int32} {ls : List Value} : T d 7 77 ls [.int x] h Q ↔ (narrow .boolean (.int x) = .int x ∧ Q (some (.int x)) h) := T_zretR m7 c7_77 rfl
theorem c7_78 : cod 7 78 = some (.iinc 5 1, 3) := cod_of b7 dX1_sizeFits_78
theorem t7_78 {d : Nat} {h : Hp} {Q : Pst} {l0 l1 l2 l3 l4 l6 : Value} {x : Int32} {st : List Value} : T d 7 78 [l0, l1, l2, l3, l4, .int x, l6] st h Q ↔ T d 7 81 [l0, l1, l2, l3, kil l4, .int (x + 1), l6] st h Q := T_iincV c7_78 rfl (Nat.le_of_ble_eq_true rfl) (by decide) rfl
theorem c7_81 : cod 7 81 = some (.goto (-72), 3) := cod_of b7 dX1_sizeFits_81
theorem t7_81 {d : Nat} {h : Hp} {Q : Pst} {ls : List Value} {st : List Value} : T d 7 81 ls st h Q ↔ T d 7 9 ls st h Q := T_goto c7_81 (by decide)
theorem c7_35 : cod 7 35 = some (.iconst 0, 1) := cod_of b7 dX1_sizeFits_35
theorem t7_35 {d : Nat} {h : Hp} {Q : Pst} {ls : List Value} {st : List Value} : T d 7 35 ls st h Q ↔ T d 7 36 ls (.int 0 :: st) h Q := T_iconstV c7_35 (by decide)
theorem c7_84 : cod 7 84 = some (.iconst 1, 1) := cod_of b7 dX1_sizeFits_84
theorem t7_84 {d : Nat} {h : Hp} {Q : Pst} {ls : List Value} {st : List Value} : T d 7 84 ls st h Q ↔ T d 7 85 ls (.int 1 :: st) h Q := T_iconstV c7_84 (by decide)
theorem c7_85 : cod 7 85 = some (.ireturn, 1) := cod_of b7 dX1_sizeFits_85
theorem t7_85 {d : Nat} {h : Hp} {Q : Pst} {x : Int32} {ls : List Value} : T d 7 85 ls [.int x] h Q ↔ (narrow .boolean (.int x) = .int x ∧ Q (some (.int x)) h) := T_zretR m7 c7_85 rfl
theorem b8 : (mR 8).2.2.1 = cX1_bestHouse := by rw [m8]
theorem c8_0 : cod 8 0 = some (.aload_n 0, 1) := cod_of b8 dX1_bestHouse_0
theorem t8_0 {d : Nat} {h : Hp} {Q : Pst} {l1 l2 l3 l4 l5 l6 l7 : Value} {x : Nat} {st : List Value} : T d 8 0 [.ref x, l1, l2, l3, l4, l5, l6, l7] st h Q ↔ T d 8 1 [.ref x, l1, l2, l3, l4, l5, l6, l7] (.ref x :: st) h Q := T_aload_n c8_0 rfl
theorem c8_1 : cod 8 1 = some (.aload_n 1, 1) := cod_of b8 dX1_bestHouse_1
theorem t8_1 {d : Nat} {h : Hp} {Q : Pst} {l0 l2 l3 l4 l5 l6 l7 : Value} {x : Nat} {st : List Value} : T d 8 1 [l0, .ref x, l2, l3, l4, l5, l6, l7] st h Q ↔ T d 8 2 [l0, .ref x, l2, l3, l4, l5, l6, l7] (.ref x :: st) h Q := T_aload_n c8_1 rfl
theorem c8_2 : cod 8 2 = some (.iload_n 2, 1) := cod_of b8 dX1_bestHouse_2
theorem t8_2 {d : Nat} {h : Hp} {Q : Pst} {l0 l1 l3 l4 l5 l6 l7 : Value} {x : Int32} {st : List Value} : T d 8 2 [l0, l1, .int x, l3, l4, l5, l6, l7] st h Q ↔ T d 8 3 [l0, l1, .int x, l3, l4, l5, l6, l7] (.int x :: st) h Q := T_iload_n c8_2 rfl
theorem c8_3 : cod 8 3 = some (.invokevirtual 39, 3) := cod_of b8 dX1_bestHouse_3
theorem t8_3 {d : Nat} {h : Hp} {Q : Pst} {a0 a : Nat} {a1 : Int32} {ls : List Value} (ho : isO (h.2.2 a) 1) : T (d + 1) 8 3 ls [.int a1, .ref a0, .ref a] h Q ↔ T d 6 0 [.ref a, .ref a0, .int a1, un, un] [] h (fun x h2 => T (d + 1) 8 6 ls (rl x []) h2 Q) := T_virtualR (as := [.ref a0, .int a1]) (r := []) m8 m6 c8_3 k1_39  rfl (by decide) rfl (by simp [wrd, Value.category]) (by simp [stk, Value.category]) rfl (by decide +kernel) ho
theorem c8_6 : cod 8 6 = some (.istore_n 3, 1) := cod_of b8 dX1_bestHouse_6
theorem t8_6 {d : Nat} {h : Hp} {Q : Pst} {l0 l1 l2 l3 l4 l5 l6 l7 : Value} {x : Int32} {st : List Value} : T d 8 6 [l0, l1, l2, l3, l4, l5, l6, l7] (.int x :: st) h Q ↔ T d 8 7 [l0, l1, kil l2, .int x, l4, l5, l6, l7] st h Q := T_istore_n c8_6 (Nat.le_of_ble_eq_true rfl)
theorem c8_7 : cod 8 7 = some (.iconst (-1), 1) := cod_of b8 dX1_bestHouse_7
theorem t8_7 {d : Nat} {h : Hp} {Q : Pst} {ls : List Value} {st : List Value} : T d 8 7 ls st h Q ↔ T d 8 8 ls (.int (-1) :: st) h Q := T_iconstV c8_7 (by decide)
theorem c8_8 : cod 8 8 = some (.istore 4, 2) := cod_of b8 dX1_bestHouse_8
theorem t8_8 {d : Nat} {h : Hp} {Q : Pst} {l0 l1 l2 l3 l4 l5 l6 l7 : Value} {x : Int32} {st : List Value} : T d 8 8 [l0, l1, l2, l3, l4, l5, l6, l7] (.int x :: st) h Q ↔ T d 8 10 [l0, l1, l2, kil l3, .int x, l5, l6, l7] st h Q := T_istore c8_8 (Nat.le_of_ble_eq_true rfl)
theorem c8_10 : cod 8 10 = some (.bipush 31, 2) := cod_of b8 dX1_bestHouse_10
theorem t8_10 {d : Nat} {h : Hp} {Q : Pst} {ls : List Value} {st : List Value} : T d 8 10 ls st h Q ↔ T d 8 12 ls (.int 31 :: st) h Q := T_bipushV c8_10 (by decide)
theorem c8_12 : cod 8 12 = some (.istore 5, 2) := cod_of b8 dX1_bestHouse_12
theorem t8_12 {d : Nat} {h : Hp} {Q : Pst} {l0 l1 l2 l3 l4 l5 l6 l7 : Value} {x : Int32} {st : List Value} : T d 8 12 [l0, l1, l2, l3, l4, l5, l6, l7] (.int x :: st) h Q ↔ T d 8 14 [l0, l1, l2, l3, kil l4, .int x, l6, l7] st h Q := T_istore c8_12 (Nat.le_of_ble_eq_true rfl)
theorem c8_14 : cod 8 14 = some (.iconst 0, 1) := cod_of b8 dX1_bestHouse_14
theorem t8_14 {d : Nat} {h : Hp} {Q : Pst} {ls : List Value} {st : List Value} : T d 8 14 ls st h Q ↔ T d 8 15 ls (.int 0 :: st) h Q := T_iconstV c8_14 (by decide)
theorem c8_15 : cod 8 15 = some (.istore 6, 2) := cod_of b8 dX1_bestHouse_15
theorem t8_15 {d : Nat} {h : Hp} {Q : Pst} {l0 l1 l2 l3 l4 l5 l6 l7 : Value} {x : Int32} {st : List Value} : T d 8 15 [l0, l1, l2, l3, l4, l5, l6, l7] (.int x :: st) h Q ↔ T d 8 17 [l0, l1, l2, l3, l4, kil l5, .int x, l7] st h Q := T_istore c8_15 (Nat.le_of_ble_eq_true rfl)
theorem c8_17 : cod 8 17 = some (.iload_n 3, 1) := cod_of b8 dX1_bestHouse_17
theorem t8_17 {d : Nat} {h : Hp} {Q : Pst} {l0 l1 l2 l4 l5 l6 l7 : Value} {x : Int32} {st : List Value} : T d 8 17 [l0, l1, l2, .int x, l4, l5, l6, l7] st h Q ↔ T d 8 18 [l0, l1, l2, .int x, l4, l5, l6, l7] (.int x :: st) h Q := T_iload_n c8_17 rfl
theorem c8_18 : cod 8 18 = some (.ifCond .eq 44, 3) := cod_of b8 dX1_bestHouse_18
theorem t8_18 {d : Nat} {h : Hp} {Q : Pst} {x : Int32} {ls : List Value} {st : List Value} : T d 8 18 ls (.int x :: st) h Q ↔ (if x = 0 then T d 8 62 ls st h Q else T d 8 21 ls st h Q) := T_if_eq c8_18 (by decide)
theorem c8_21 : cod 8 21 = some (.iload 6, 2) := cod_of b8 dX1_bestHouse_21
theorem t8_21 {d : Nat} {h : Hp} {Q : Pst} {l0 l1 l2 l3 l4 l5 l7 : Value} {x : Int32} {st : List Value} : T d 8 21 [l0, l1, l2, l3, l4, l5, .int x, l7] st h Q ↔ T d 8 23 [l0, l1, l2, l3, l4, l5, .int x, l7] (.int x :: st) h Q := T_iload c8_21 rfl
theorem c8_23 : cod 8 23 = some (.aload_n 1, 1) := cod_of b8 dX1_bestHouse_23
theorem t8_23 {d : Nat} {h : Hp} {Q : Pst} {l0 l2 l3 l4 l5 l6 l7 : Value} {x : Nat} {st : List Value} : T d 8 23 [l0, .ref x, l2, l3, l4, l5, l6, l7] st h Q ↔ T d 8 24 [l0, .ref x, l2, l3, l4, l5, l6, l7] (.ref x :: st) h Q := T_aload_n c8_23 rfl
theorem c8_24 : cod 8 24 = some (.getfield 43, 3) := cod_of b8 dX1_bestHouse_24
theorem t8_24 {d : Nat} {h : Hp} {Q : Pst} {a : Nat} {ls : List Value} {st : List Value} : T d 8 24 ls (.ref a :: st) h Q ↔ gF (h.2.2 a) 5 11 (fun v => T d 8 27 ls (v :: st) h Q) := T_getfieldR m8 c8_24 f1_43
theorem c8_27 : cod 8 27 = some (.if_icmp .ge 35, 3) := cod_of b8 dX1_bestHouse_27
theorem t8_27 {d : Nat} {h : Hp} {Q : Pst} {x y : Int32} {ls : List Value} {st : List Value} : T d 8 27 ls (.int y :: .int x :: st) h Q ↔ (if y ≤ x then T d 8 62 ls st h Q else T d 8 30 ls st h Q) := T_icmp_ge c8_27 (by decide)
theorem c8_30 : cod 8 30 = some (.aload_n 0, 1) := cod_of b8 dX1_bestHouse_30
theorem t8_30 {d : Nat} {h : Hp} {Q : Pst} {l1 l2 l3 l4 l5 l6 l7 : Value} {x : Nat} {st : List Value} : T d 8 30 [.ref x, l1, l2, l3, l4, l5, l6, l7] st h Q ↔ T d 8 31 [.ref x, l1, l2, l3, l4, l5, l6, l7] (.ref x :: st) h Q := T_aload_n c8_30 rfl
theorem c8_31 : cod 8 31 = some (.aload_n 1, 1) := cod_of b8 dX1_bestHouse_31
theorem t8_31 {d : Nat} {h : Hp} {Q : Pst} {l0 l2 l3 l4 l5 l6 l7 : Value} {x : Nat} {st : List Value} : T d 8 31 [l0, .ref x, l2, l3, l4, l5, l6, l7] st h Q ↔ T d 8 32 [l0, .ref x, l2, l3, l4, l5, l6, l7] (.ref x :: st) h Q := T_aload_n c8_31 rfl
theorem c8_32 : cod 8 32 = some (.iload_n 2, 1) := cod_of b8 dX1_bestHouse_32
theorem t8_32 {d : Nat} {h : Hp} {Q : Pst} {l0 l1 l3 l4 l5 l6 l7 : Value} {x : Int32} {st : List Value} : T d 8 32 [l0, l1, .int x, l3, l4, l5, l6, l7] st h Q ↔ T d 8 33 [l0, l1, .int x, l3, l4, l5, l6, l7] (.int x :: st) h Q := T_iload_n c8_32 rfl
theorem c8_33 : cod 8 33 = some (.iload_n 3, 1) := cod_of b8 dX1_bestHouse_33
theorem t8_33 {d : Nat} {h : Hp} {Q : Pst} {l0 l1 l2 l4 l5 l6 l7 : Value} {x : Int32} {st : List Value} : T d 8 33 [l0, l1, l2, .int x, l4, l5, l6, l7] st h Q ↔ T d 8 34 [l0, l1, l2, .int x, l4, l5, l6, l7] (.int x :: st) h Q := T_iload_n c8_33 rfl
theorem c8_34 : cod 8 34 = some (.iload 6, 2) := cod_of b8 dX1_bestHouse_34
theorem t8_34 {d : Nat} {h : Hp} {Q : Pst} {l0 l1 l2 l3 l4 l5 l7 : Value} {x : Int32} {st : List Value} : T d 8 34 [l0, l1, l2, l3, l4, l5, .int x, l7] st h Q ↔ T d 8 36 [l0, l1, l2, l3, l4, l5, .int x, l7] (.int x :: st) h Q := T_iload c8_34 rfl
theorem c8_36 : cod 8 36 = some (.invokevirtual 46, 3) := cod_of b8 dX1_bestHouse_36
theorem t8_36 {d : Nat} {h : Hp} {Q : Pst} {a0 a : Nat} {a1 a2 a3 : Int32} {ls : List Value} (ho : isO (h.2.2 a) 1) : T (d + 1) 8 36 ls [.int a3, .int a2, .int a1, .ref a0, .ref a] h Q ↔ T d 9 0 [.ref a, .ref a0, .int a1, .int a2, .int a3, un, un, un] [] h (fun x h2 => T (d + 1) 8 39 ls (rl x []) h2 Q) := T_virtualR (as := [.ref a0, .int a1, .int a2, .int a3]) (r := []) m8 m9 c8_36 k1_46  rfl (by decide) rfl (by simp [wrd, Value.category]) (by simp [stk, Value.category]) rfl (by decide +kernel) ho
theorem c8_39 : cod 8 39 = some (.istore 7, 2) := cod_of b8 dX1_bestHouse_39
theorem t8_39 {d : Nat} {h : Hp} {Q : Pst} {l0 l1 l2 l3 l4 l5 l6 l7 : Value} {x : Int32} {st : List Value} : T d 8 39 [l0, l1, l2, l3, l4, l5, l6, l7] (.int x :: st) h Q ↔ T d 8 41 [l0, l1, l2, l3, l4, l5, kil l6, .int x] st h Q := T_istore c8_39 (Nat.le_of_ble_eq_true rfl)
theorem c8_41 : cod 8 41 = some (.iload 7, 2) := cod_of b8 dX1_bestHouse_41
theorem t8_41 {d : Nat} {h : Hp} {Q : Pst} {l0 l1 l2 l3 l4 l5 l6 : Value} {x : Int32} {st : List Value} : T d 8 41 [l0, l1, l2, l3, l4, l5, l6, .int x] st h Q ↔ T d 8 43 [l0, l1, l2, l3, l4, l5, l6, .int x] (.int x :: st) h Q := T_iload c8_41 rfl
theorem c8_43 : cod 8 43 = some (.iload 5, 2) := cod_of b8 dX1_bestHouse_43
theorem t8_43 {d : Nat} {h : Hp} {Q : Pst} {l0 l1 l2 l3 l4 l6 l7 : Value} {x : Int32} {st : List Value} : T d 8 43 [l0, l1, l2, l3, l4, .int x, l6, l7] st h Q ↔ T d 8 45 [l0, l1, l2, l3, l4, .int x, l6, l7] (.int x :: st) h Q := T_iload c8_43 rfl
theorem c8_45 : cod 8 45 = some (.if_icmp .ge 11, 3) := cod_of b8 dX1_bestHouse_45
theorem t8_45 {d : Nat} {h : Hp} {Q : Pst} {x y : Int32} {ls : List Value} {st : List Value} : T d 8 45 ls (.int y :: .int x :: st) h Q ↔ (if y ≤ x then T d 8 56 ls st h Q else T d 8 48 ls st h Q) := T_icmp_ge c8_45 (by decide)
theorem c8_48 : cod 8 48 = some (.iload 7, 2) := cod_of b8 dX1_bestHouse_48
theorem t8_48 {d : Nat} {h : Hp} {Q : Pst} {l0 l1 l2 l3 l4 l5 l6 : Value} {x : Int32} {st : List Value} : T d 8 48 [l0, l1, l2, l3, l4, l5, l6, .int x] st h Q ↔ T d 8 50 [l0, l1, l2, l3, l4, l5, l6, .int x] (.int x :: st) h Q := T_iload c8_48 rfl
theorem c8_50 : cod 8 50 = some (.istore 5, 2) := cod_of b8 dX1_bestHouse_50
theorem t8_50 {d : Nat} {h : Hp} {Q : Pst} {l0 l1 l2 l3 l4 l5 l6 l7 : Value} {x : Int32} {st : List Value} : T d 8 50 [l0, l1, l2, l3, l4, l5, l6, l7] (.int x :: st) h Q ↔ T d 8 52 [l0, l1, l2, l3, kil l4, .int x, l6, l7] st h Q := T_istore c8_50 (Nat.le_of_ble_eq_true rfl)
theorem c8_52 : cod 8 52 = some (.iload 6, 2) := cod_of b8 dX1_bestHouse_52
theorem t8_52 {d : Nat} {h : Hp} {Q : Pst} {l0 l1 l2 l3 l4 l5 l7 : Value} {x : Int32} {st : List Value} : T d 8 52 [l0, l1, l2, l3, l4, l5, .int x, l7] st h Q ↔ T d 8 54 [l0, l1, l2, l3, l4, l5, .int x, l7] (.int x :: st) h Q := T_iload c8_52 rfl
theorem c8_54 : cod 8 54 = some (.istore 4, 2) := cod_of b8 dX1_bestHouse_54
theorem t8_54 {d : Nat} {h : Hp} {Q : Pst} {l0 l1 l2 l3 l4 l5 l6 l7 : Value} {x : Int32} {st : List Value} : T d 8 54 [l0, l1, l2, l3, l4, l5, l6, l7] (.int x :: st) h Q ↔ T d 8 56 [l0, l1, l2, kil l3, .int x, l5, l6, l7] st h Q := T_istore c8_54 (Nat.le_of_ble_eq_true rfl)
theorem c8_56 : cod 8 56 = some (.iinc 6 1, 3) := cod_of b8 dX1_bestHouse_56
theorem t8_56 {d : Nat} {h : Hp} {Q : Pst} {l0 l1 l2 l3 l4 l5 l7 : Value} {x : Int32} {st : List Value} : T d 8 56 [l0, l1, l2, l3, l4, l5, .int x, l7] st h Q ↔ T d 8 59 [l0, l1, l2, l3, l4, kil l5, .int (x + 1), l7] st h Q := T_iincV c8_56 rfl (Nat.le_of_ble_eq_true rfl) (by decide) rfl
theorem c8_59 : cod 8 59 = some (.goto (-42), 3) := cod_of b8 dX1_bestHouse_59
theorem t8_59 {d : Nat} {h : Hp} {Q : Pst} {ls : List Value} {st : List Value} : T d 8 59 ls st h Q ↔ T d 8 17 ls st h Q := T_goto c8_59 (by decide)
theorem c8_62 : cod 8 62 = some (.iload 4, 2) := cod_of b8 dX1_bestHouse_62
theorem t8_62 {d : Nat} {h : Hp} {Q : Pst} {l0 l1 l2 l3 l5 l6 l7 : Value} {x : Int32} {st : List Value} : T d 8 62 [l0, l1, l2, l3, .int x, l5, l6, l7] st h Q ↔ T d 8 64 [l0, l1, l2, l3, .int x, l5, l6, l7] (.int x :: st) h Q := T_iload c8_62 rfl
theorem c8_64 : cod 8 64 = some (.ireturn, 1) := cod_of b8 dX1_bestHouse_64
theorem t8_64 {d : Nat} {h : Hp} {Q : Pst} {x : Int32} {ls : List Value} : T d 8 64 ls [.int x] h Q ↔ Q (some (.int x)) h := T_iretR m8 c8_64 rfl
theorem b9 : (mR 9).2.2.1 = cX1_largestGroup := by rw [m9]
theorem c9_0 : cod 9 0 = some (.iconst 0, 1) := cod_of b9 dX1_largestGroup_0
theorem t9_0 {d : Nat} {h : Hp} {Q : Pst} {ls : List Value} {st : List Value} : T d 9 0 ls st h Q ↔ T d 9 1 ls (.int 0 :: st) h Q := T_iconstV c9_0 (by decide)
theorem c9_1 : cod 9 1 = some (.istore 5, 2) := cod_of b9 dX1_largestGroup_1
theorem t9_1 {d : Nat} {h : Hp} {Q : Pst} {l0 l1 l2 l3 l4 l5 l6 l7 : Value} {x : Int32} {st : List Value} : T d 9 1 [l0, l1, l2, l3, l4, l5, l6, l7] (.int x :: st) h Q ↔ T d 9 3 [l0, l1, l2, l3, kil l4, .int x, l6, l7] st h Q := T_istore c9_1 (Nat.le_of_ble_eq_true rfl)
theorem c9_3 : cod 9 3 = some (.iload 5, 2) := cod_of b9 dX1_largestGroup_3
theorem t9_3 {d : Nat} {h : Hp} {Q : Pst} {l0 l1 l2 l3 l4 l6 l7 : Value} {x : Int32} {st : List Value} : T d 9 3 [l0, l1, l2, l3, l4, .int x, l6, l7] st h Q ↔ T d 9 5 [l0, l1, l2, l3, l4, .int x, l6, l7] (.int x :: st) h Q := T_iload c9_3 rfl
theorem c9_5 : cod 9 5 = some (.iconst 5, 1) := cod_of b9 dX1_largestGroup_5
theorem t9_5 {d : Nat} {h : Hp} {Q : Pst} {ls : List Value} {st : List Value} : T d 9 5 ls st h Q ↔ T d 9 6 ls (.int 5 :: st) h Q := T_iconstV c9_5 (by decide)
theorem c9_6 : cod 9 6 = some (.if_icmp .gt 19, 3) := cod_of b9 dX1_largestGroup_6
theorem t9_6 {d : Nat} {h : Hp} {Q : Pst} {x y : Int32} {ls : List Value} {st : List Value} : T d 9 6 ls (.int y :: .int x :: st) h Q ↔ (if y < x then T d 9 25 ls st h Q else T d 9 9 ls st h Q) := T_icmp_gt c9_6 (by decide)
theorem c9_9 : cod 9 9 = some (.aload_n 0, 1) := cod_of b9 dX1_largestGroup_9
theorem t9_9 {d : Nat} {h : Hp} {Q : Pst} {l1 l2 l3 l4 l5 l6 l7 : Value} {x : Nat} {st : List Value} : T d 9 9 [.ref x, l1, l2, l3, l4, l5, l6, l7] st h Q ↔ T d 9 10 [.ref x, l1, l2, l3, l4, l5, l6, l7] (.ref x :: st) h Q := T_aload_n c9_9 rfl
theorem c9_10 : cod 9 10 = some (.getfield 9, 3) := cod_of b9 dX1_largestGroup_10
theorem t9_10 {d : Nat} {h : Hp} {Q : Pst} {a : Nat} {ls : List Value} {st : List Value} : T d 9 10 ls (.ref a :: st) h Q ↔ gF (h.2.2 a) 1 0 (fun v => T d 9 13 ls (v :: st) h Q) := T_getfieldR m9 c9_10 f1_9
theorem c9_13 : cod 9 13 = some (.iload 5, 2) := cod_of b9 dX1_largestGroup_13
theorem t9_13 {d : Nat} {h : Hp} {Q : Pst} {l0 l1 l2 l3 l4 l6 l7 : Value} {x : Int32} {st : List Value} : T d 9 13 [l0, l1, l2, l3, l4, .int x, l6, l7] st h Q ↔ T d 9 15 [l0, l1, l2, l3, l4, .int x, l6, l7] (.int x :: st) h Q := T_iload c9_13 rfl
theorem c9_15 : cod 9 15 = some (.iconst 0, 1) := cod_of b9 dX1_largestGroup_15
theorem t9_15 {d : Nat} {h : Hp} {Q : Pst} {ls : List Value} {st : List Value} : T d 9 15 ls st h Q ↔ T d 9 16 ls (.int 0 :: st) h Q := T_iconstV c9_15 (by decide)
theorem c9_16 : cod 9 16 = some (.invokestatic 50, 3) := cod_of b9 dX1_largestGroup_16
theorem t9_16 {d : Nat} {h : Hp} {Q : Pst} {a0 : Nat} {a1 a2 : Int32} {ls : List Value} : T (d + 1) 9 16 ls [.int a2, .int a1, .ref a0] h Q ↔ T d 123 0 [.ref a0, .int a1, .int a2] [] h (fun x h2 => T (d + 1) 9 19 ls (rl x []) h2 Q) := T_staticR (as := [.ref a0, .int a1, .int a2]) (r := []) m9 m123 c9_16 k1_50 (Or.inr rfl) rfl (by decide) rfl (by simp [wrd, Value.category]) (by simp [stk, Value.category]) rfl
theorem c9_19 : cod 9 19 = some (.iinc 5 1, 3) := cod_of b9 dX1_largestGroup_19
theorem t9_19 {d : Nat} {h : Hp} {Q : Pst} {l0 l1 l2 l3 l4 l6 l7 : Value} {x : Int32} {st : List Value} : T d 9 19 [l0, l1, l2, l3, l4, .int x, l6, l7] st h Q ↔ T d 9 22 [l0, l1, l2, l3, kil l4, .int (x + 1), l6, l7] st h Q := T_iincV c9_19 rfl (Nat.le_of_ble_eq_true rfl) (by decide) rfl
theorem c9_22 : cod 9 22 = some (.goto (-19), 3) := cod_of b9 dX1_largestGroup_22
theorem t9_22 {d : Nat} {h : Hp} {Q : Pst} {ls : List Value} {st : List Value} : T d 9 22 ls st h Q ↔ T d 9 3 ls st h Q := T_goto c9_22 (by decide)
theorem c9_25 : cod 9 25 = some (.iconst 0, 1) := cod_of b9 dX1_largestGroup_25
theorem t9_25 {d : Nat} {h : Hp} {Q : Pst} {ls : List Value} {st : List Value} : T d 9 25 ls st h Q ↔ T d 9 26 ls (.int 0 :: st) h Q := T_iconstV c9_25 (by decide)
theorem c9_26 : cod 9 26 = some (.istore 5, 2) := cod_of b9 dX1_largestGroup_26
theorem t9_26 {d : Nat} {h : Hp} {Q : Pst} {l0 l1 l2 l3 l4 l5 l6 l7 : Value} {x : Int32} {st : List Value} : T d 9 26 [l0, l1, l2, l3, l4, l5, l6, l7] (.int x :: st) h Q ↔ T d 9 28 [l0, l1, l2, l3, kil l4, .int x, l6, l7] st h Q := T_istore c9_26 (Nat.le_of_ble_eq_true rfl)
theorem c9_28 : cod 9 28 = some (.iconst 1, 1) := cod_of b9 dX1_largestGroup_28
theorem t9_28 {d : Nat} {h : Hp} {Q : Pst} {ls : List Value} {st : List Value} : T d 9 28 ls st h Q ↔ T d 9 29 ls (.int 1 :: st) h Q := T_iconstV c9_28 (by decide)
theorem c9_29 : cod 9 29 = some (.istore 6, 2) := cod_of b9 dX1_largestGroup_29
theorem t9_29 {d : Nat} {h : Hp} {Q : Pst} {l0 l1 l2 l3 l4 l5 l6 l7 : Value} {x : Int32} {st : List Value} : T d 9 29 [l0, l1, l2, l3, l4, l5, l6, l7] (.int x :: st) h Q ↔ T d 9 31 [l0, l1, l2, l3, l4, kil l5, .int x, l7] st h Q := T_istore c9_29 (Nat.le_of_ble_eq_true rfl)
theorem c9_31 : cod 9 31 = some (.iload 6, 2) := cod_of b9 dX1_largestGroup_31
theorem t9_31 {d : Nat} {h : Hp} {Q : Pst} {l0 l1 l2 l3 l4 l5 l7 : Value} {x : Int32} {st : List Value} : T d 9 31 [l0, l1, l2, l3, l4, l5, .int x, l7] st h Q ↔ T d 9 33 [l0, l1, l2, l3, l4, l5, .int x, l7] (.int x :: st) h Q := T_iload c9_31 rfl
theorem c9_33 : cod 9 33 = some (.bipush 30, 2) := cod_of b9 dX1_largestGroup_33
theorem t9_33 {d : Nat} {h : Hp} {Q : Pst} {ls : List Value} {st : List Value} : T d 9 33 ls st h Q ↔ T d 9 35 ls (.int 30 :: st) h Q := T_bipushV c9_33 (by decide)
theorem c9_35 : cod 9 35 = some (.if_icmp .gt 69, 3) := cod_of b9 dX1_largestGroup_35
theorem t9_35 {d : Nat} {h : Hp} {Q : Pst} {x y : Int32} {ls : List Value} {st : List Value} : T d 9 35 ls (.int y :: .int x :: st) h Q ↔ (if y < x then T d 9 104 ls st h Q else T d 9 38 ls st h Q) := T_icmp_gt c9_35 (by decide)
theorem c9_38 : cod 9 38 = some (.iload_n 3, 1) := cod_of b9 dX1_largestGroup_38
theorem t9_38 {d : Nat} {h : Hp} {Q : Pst} {l0 l1 l2 l4 l5 l6 l7 : Value} {x : Int32} {st : List Value} : T d 9 38 [l0, l1, l2, .int x, l4, l5, l6, l7] st h Q ↔ T d 9 39 [l0, l1, l2, .int x, l4, l5, l6, l7] (.int x :: st) h Q := T_iload_n c9_38 rfl
theorem c9_39 : cod 9 39 = some (.iload 6, 2) := cod_of b9 dX1_largestGroup_39
theorem t9_39 {d : Nat} {h : Hp} {Q : Pst} {l0 l1 l2 l3 l4 l5 l7 : Value} {x : Int32} {st : List Value} : T d 9 39 [l0, l1, l2, l3, l4, l5, .int x, l7] st h Q ↔ T d 9 41 [l0, l1, l2, l3, l4, l5, .int x, l7] (.int x :: st) h Q := T_iload c9_39 rfl
theorem c9_41 : cod 9 41 = some (.invokestatic 54, 3) := cod_of b9 dX1_largestGroup_41
theorem t9_41 {d : Nat} {h : Hp} {Q : Pst} {a0 a1 : Int32} {ls : List Value} : T (d + 1) 9 41 ls [.int a1, .int a0] h Q ↔ T d 119 0 [.int a0, .int a1] [] h (fun x h2 => T (d + 1) 9 44 ls (rl x []) h2 Q) := T_staticR (as := [.int a0, .int a1]) (r := []) m9 m119 c9_41 k1_54 (Or.inr rfl) rfl (by decide) rfl (by simp [wrd, Value.category]) (by simp [stk, Value.category]) rfl
theorem c9_44 : cod 9 44 = some (.ifCond .eq 54, 3) := cod_of b9 dX1_largestGroup_44
theorem t9_44 {d : Nat} {h : Hp} {Q : Pst} {x : Int32} {ls : List Value} {st : List Value} : T d 9 44 ls (.int x :: st) h Q ↔ (if x = 0 then T d 9 98 ls st h Q else T d 9 47 ls st h Q) := T_if_eq c9_44 (by decide)
theorem c9_47 : cod 9 47 = some (.aload_n 1, 1) := cod_of b9 dX1_largestGroup_47
theorem t9_47 {d : Nat} {h : Hp} {Q : Pst} {l0 l2 l3 l4 l5 l6 l7 : Value} {x : Nat} {st : List Value} : T d 9 47 [l0, .ref x, l2, l3, l4, l5, l6, l7] st h Q ↔ T d 9 48 [l0, .ref x, l2, l3, l4, l5, l6, l7] (.ref x :: st) h Q := T_aload_n c9_47 rfl
theorem c9_48 : cod 9 48 = some (.iload_n 2, 1) := cod_of b9 dX1_largestGroup_48
theorem t9_48 {d : Nat} {h : Hp} {Q : Pst} {l0 l1 l3 l4 l5 l6 l7 : Value} {x : Int32} {st : List Value} : T d 9 48 [l0, l1, .int x, l3, l4, l5, l6, l7] st h Q ↔ T d 9 49 [l0, l1, .int x, l3, l4, l5, l6, l7] (.int x :: st) h Q := T_iload_n c9_48 rfl
theorem c9_49 : cod 9 49 = some (.iload 6, 2) := cod_of b9 dX1_largestGroup_49
theorem t9_49 {d : Nat} {h : Hp} {Q : Pst} {l0 l1 l2 l3 l4 l5 l7 : Value} {x : Int32} {st : List Value} : T d 9 49 [l0, l1, l2, l3, l4, l5, .int x, l7] st h Q ↔ T d 9 51 [l0, l1, l2, l3, l4, l5, .int x, l7] (.int x :: st) h Q := T_iload c9_49 rfl
theorem c9_51 : cod 9 51 = some (.iload 4, 2) := cod_of b9 dX1_largestGroup_51
theorem t9_51 {d : Nat} {h : Hp} {Q : Pst} {l0 l1 l2 l3 l5 l6 l7 : Value} {x : Int32} {st : List Value} : T d 9 51 [l0, l1, l2, l3, .int x, l5, l6, l7] st h Q ↔ T d 9 53 [l0, l1, l2, l3, .int x, l5, l6, l7] (.int x :: st) h Q := T_iload c9_51 rfl
theorem c9_53 : cod 9 53 = some (.aload_n 1, 1) := cod_of b9 dX1_largestGroup_53
theorem t9_53 {d : Nat} {h : Hp} {Q : Pst} {l0 l2 l3 l4 l5 l6 l7 : Value} {x : Nat} {st : List Value} : T d 9 53 [l0, .ref x, l2, l3, l4, l5, l6, l7] st h Q ↔ T d 9 54 [l0, .ref x, l2, l3, l4, l5, l6, l7] (.ref x :: st) h Q := T_aload_n c9_53 rfl
theorem c9_54 : cod 9 54 = some (.getfield 58, 3) := cod_of b9 dX1_largestGroup_54
theorem t9_54 {d : Nat} {h : Hp} {Q : Pst} {a : Nat} {ls : List Value} {st : List Value} : T d 9 54 ls (.ref a :: st) h Q ↔ gF (h.2.2 a) 5 12 (fun v => T d 9 57 ls (v :: st) h Q) := T_getfieldR m9 c9_54 f1_58
theorem c9_57 : cod 9 57 = some (.invokevirtual 35, 3) := cod_of b9 dX1_largestGroup_57
theorem t9_57 {d : Nat} {h : Hp} {Q : Pst} {a0 a1 a2 a3 : Int32} {a : Nat} {ls : List Value} (ho : isO (h.2.2 a) 5) : T (d + 1) 9 57 ls [.int a3, .int a2, .int a1, .int a0, .ref a] h Q ↔ T d 66 0 [.ref a, .int a0, .int a1, .int a2, .int a3, un] [] h (fun x h2 => T (d + 1) 9 60 ls (rl x []) h2 Q) := T_virtualR (as := [.int a0, .int a1, .int a2, .int a3]) (r := []) m9 m66 c9_57 k1_35  rfl (by decide) rfl (by simp [wrd, Value.category]) (by simp [stk, Value.category]) rfl (by decide +kernel) ho
theorem c9_60 : cod 9 60 = some (.istore 7, 2) := cod_of b9 dX1_largestGroup_60
theorem t9_60 {d : Nat} {h : Hp} {Q : Pst} {l0 l1 l2 l3 l4 l5 l6 l7 : Value} {x : Int32} {st : List Value} : T d 9 60 [l0, l1, l2, l3, l4, l5, l6, l7] (.int x :: st) h Q ↔ T d 9 62 [l0, l1, l2, l3, l4, l5, kil l6, .int x] st h Q := T_istore c9_60 (Nat.le_of_ble_eq_true rfl)
theorem c9_62 : cod 9 62 = some (.aload_n 0, 1) := cod_of b9 dX1_largestGroup_62
theorem t9_62 {d : Nat} {h : Hp} {Q : Pst} {l1 l2 l3 l4 l5 l6 l7 : Value} {x : Nat} {st : List Value} : T d 9 62 [.ref x, l1, l2, l3, l4, l5, l6, l7] st h Q ↔ T d 9 63 [.ref x, l1, l2, l3, l4, l5, l6, l7] (.ref x :: st) h Q := T_aload_n c9_62 rfl
theorem c9_63 : cod 9 63 = some (.getfield 9, 3) := cod_of b9 dX1_largestGroup_63
theorem t9_63 {d : Nat} {h : Hp} {Q : Pst} {a : Nat} {ls : List Value} {st : List Value} : T d 9 63 ls (.ref a :: st) h Q ↔ gF (h.2.2 a) 1 0 (fun v => T d 9 66 ls (v :: st) h Q) := T_getfieldR m9 c9_63 f1_9
theorem c9_66 : cod 9 66 = some (.iload 7, 2) := cod_of b9 dX1_largestGroup_66
theorem t9_66 {d : Nat} {h : Hp} {Q : Pst} {l0 l1 l2 l3 l4 l5 l6 : Value} {x : Int32} {st : List Value} : T d 9 66 [l0, l1, l2, l3, l4, l5, l6, .int x] st h Q ↔ T d 9 68 [l0, l1, l2, l3, l4, l5, l6, .int x] (.int x :: st) h Q := T_iload c9_66 rfl
theorem c9_68 : cod 9 68 = some (.aload_n 0, 1) := cod_of b9 dX1_largestGroup_68
theorem t9_68 {d : Nat} {h : Hp} {Q : Pst} {l1 l2 l3 l4 l5 l6 l7 : Value} {x : Nat} {st : List Value} : T d 9 68 [.ref x, l1, l2, l3, l4, l5, l6, l7] st h Q ↔ T d 9 69 [.ref x, l1, l2, l3, l4, l5, l6, l7] (.ref x :: st) h Q := T_aload_n c9_68 rfl
theorem c9_69 : cod 9 69 = some (.getfield 9, 3) := cod_of b9 dX1_largestGroup_69
theorem t9_69 {d : Nat} {h : Hp} {Q : Pst} {a : Nat} {ls : List Value} {st : List Value} : T d 9 69 ls (.ref a :: st) h Q ↔ gF (h.2.2 a) 1 0 (fun v => T d 9 72 ls (v :: st) h Q) := T_getfieldR m9 c9_69 f1_9
theorem c9_72 : cod 9 72 = some (.iload 7, 2) := cod_of b9 dX1_largestGroup_72
theorem t9_72 {d : Nat} {h : Hp} {Q : Pst} {l0 l1 l2 l3 l4 l5 l6 : Value} {x : Int32} {st : List Value} : T d 9 72 [l0, l1, l2, l3, l4, l5, l6, .int x] st h Q ↔ T d 9 74 [l0, l1, l2, l3, l4, l5, l6, .int x] (.int x :: st) h Q := T_iload c9_72 rfl
theorem c9_74 : cod 9 74 = some (.invokestatic 61, 3) := cod_of b9 dX1_largestGroup_74
theorem t9_74 {d : Nat} {h : Hp} {Q : Pst} {a0 s1 : Nat} {a1 s0 : Int32} {ls : List Value} : T (d + 1) 9 74 ls [.int a1, .ref a0, .int s0, .ref s1] h Q ↔ T d 122 0 [.ref a0, .int a1] [] h (fun x h2 => T (d + 1) 9 77 ls (rl x [.int s0, .ref s1]) h2 Q) := T_staticR (as := [.ref a0, .int a1]) (r := [.int s0, .ref s1]) m9 m122 c9_74 k1_61 (Or.inr rfl) rfl (by decide) rfl (by simp [wrd, Value.category]) (by simp [stk, Value.category]) rfl
theorem c9_77 : cod 9 77 = some (.iconst 1, 1) := cod_of b9 dX1_largestGroup_77
theorem t9_77 {d : Nat} {h : Hp} {Q : Pst} {ls : List Value} {st : List Value} : T d 9 77 ls st h Q ↔ T d 9 78 ls (.int 1 :: st) h Q := T_iconstV c9_77 (by decide)
theorem c9_78 : cod 9 78 = some (.iadd, 1) := cod_of b9 dX1_largestGroup_78
theorem t9_78 {d : Nat} {h : Hp} {Q : Pst} {x y : Int32} {ls : List Value} {st : List Value} : T d 9 78 ls (.int y :: .int x :: st) h Q ↔ T d 9 79 ls (.int (x + y) :: st) h Q := T_iadd c9_78
theorem c9_79 : cod 9 79 = some (.invokestatic 50, 3) := cod_of b9 dX1_largestGroup_79
theorem t9_79 {d : Nat} {h : Hp} {Q : Pst} {a0 : Nat} {a1 a2 : Int32} {ls : List Value} : T (d + 1) 9 79 ls [.int a2, .int a1, .ref a0] h Q ↔ T d 123 0 [.ref a0, .int a1, .int a2] [] h (fun x h2 => T (d + 1) 9 82 ls (rl x []) h2 Q) := T_staticR (as := [.ref a0, .int a1, .int a2]) (r := []) m9 m123 c9_79 k1_50 (Or.inr rfl) rfl (by decide) rfl (by simp [wrd, Value.category]) (by simp [stk, Value.category]) rfl
theorem c9_82 : cod 9 82 = some (.iload 5, 2) := cod_of b9 dX1_largestGroup_82
theorem t9_82 {d : Nat} {h : Hp} {Q : Pst} {l0 l1 l2 l3 l4 l6 l7 : Value} {x : Int32} {st : List Value} : T d 9 82 [l0, l1, l2, l3, l4, .int x, l6, l7] st h Q ↔ T d 9 84 [l0, l1, l2, l3, l4, .int x, l6, l7] (.int x :: st) h Q := T_iload c9_82 rfl
theorem c9_84 : cod 9 84 = some (.aload_n 0, 1) := cod_of b9 dX1_largestGroup_84
theorem t9_84 {d : Nat} {h : Hp} {Q : Pst} {l1 l2 l3 l4 l5 l6 l7 : Value} {x : Nat} {st : List Value} : T d 9 84 [.ref x, l1, l2, l3, l4, l5, l6, l7] st h Q ↔ T d 9 85 [.ref x, l1, l2, l3, l4, l5, l6, l7] (.ref x :: st) h Q := T_aload_n c9_84 rfl
theorem c9_85 : cod 9 85 = some (.getfield 9, 3) := cod_of b9 dX1_largestGroup_85
theorem t9_85 {d : Nat} {h : Hp} {Q : Pst} {a : Nat} {ls : List Value} {st : List Value} : T d 9 85 ls (.ref a :: st) h Q ↔ gF (h.2.2 a) 1 0 (fun v => T d 9 88 ls (v :: st) h Q) := T_getfieldR m9 c9_85 f1_9
theorem c9_88 : cod 9 88 = some (.iload 7, 2) := cod_of b9 dX1_largestGroup_88
theorem t9_88 {d : Nat} {h : Hp} {Q : Pst} {l0 l1 l2 l3 l4 l5 l6 : Value} {x : Int32} {st : List Value} : T d 9 88 [l0, l1, l2, l3, l4, l5, l6, .int x] st h Q ↔ T d 9 90 [l0, l1, l2, l3, l4, l5, l6, .int x] (.int x :: st) h Q := T_iload c9_88 rfl
theorem c9_90 : cod 9 90 = some (.invokestatic 61, 3) := cod_of b9 dX1_largestGroup_90
theorem t9_90 {d : Nat} {h : Hp} {Q : Pst} {a0 : Nat} {a1 s0 : Int32} {ls : List Value} : T (d + 1) 9 90 ls [.int a1, .ref a0, .int s0] h Q ↔ T d 122 0 [.ref a0, .int a1] [] h (fun x h2 => T (d + 1) 9 93 ls (rl x [.int s0]) h2 Q) := T_staticR (as := [.ref a0, .int a1]) (r := [.int s0]) m9 m122 c9_90 k1_61 (Or.inr rfl) rfl (by decide) rfl (by simp [wrd, Value.category]) (by simp [stk, Value.category]) rfl
theorem c9_93 : cod 9 93 = some (.invokestatic 65, 3) := cod_of b9 dX1_largestGroup_93
theorem t9_93 {d : Nat} {h : Hp} {Q : Pst} {x y : Int32} {ls : List Value} : T (d + 1) 9 93 ls [.int y, .int x] h Q ↔ T (d + 1) 9 96 ls [.int (if x < y then y else x)] h Q := T_maxR m9 c9_93 k1_65 (by simp [stk, Value.category])
theorem c9_96 : cod 9 96 = some (.istore 5, 2) := cod_of b9 dX1_largestGroup_96
theorem t9_96 {d : Nat} {h : Hp} {Q : Pst} {l0 l1 l2 l3 l4 l5 l6 l7 : Value} {x : Int32} {st : List Value} : T d 9 96 [l0, l1, l2, l3, l4, l5, l6, l7] (.int x :: st) h Q ↔ T d 9 98 [l0, l1, l2, l3, kil l4, .int x, l6, l7] st h Q := T_istore c9_96 (Nat.le_of_ble_eq_true rfl)
theorem c9_98 : cod 9 98 = some (.iinc 6 1, 3) := cod_of b9 dX1_largestGroup_98
theorem t9_98 {d : Nat} {h : Hp} {Q : Pst} {l0 l1 l2 l3 l4 l5 l7 : Value} {x : Int32} {st : List Value} : T d 9 98 [l0, l1, l2, l3, l4, l5, .int x, l7] st h Q ↔ T d 9 101 [l0, l1, l2, l3, l4, kil l5, .int (x + 1), l7] st h Q := T_iincV c9_98 rfl (Nat.le_of_ble_eq_true rfl) (by decide) rfl
theorem c9_101 : cod 9 101 = some (.goto (-70), 3) := cod_of b9 dX1_largestGroup_101
theorem t9_101 {d : Nat} {h : Hp} {Q : Pst} {ls : List Value} {st : List Value} : T d 9 101 ls st h Q ↔ T d 9 31 ls st h Q := T_goto c9_101 (by decide)
theorem c9_104 : cod 9 104 = some (.iload 5, 2) := cod_of b9 dX1_largestGroup_104
theorem t9_104 {d : Nat} {h : Hp} {Q : Pst} {l0 l1 l2 l3 l4 l6 l7 : Value} {x : Int32} {st : List Value} : T d 9 104 [l0, l1, l2, l3, l4, .int x, l6, l7] st h Q ↔ T d 9 106 [l0, l1, l2, l3, l4, .int x, l6, l7] (.int x :: st) h Q := T_iload c9_104 rfl
theorem c9_106 : cod 9 106 = some (.ireturn, 1) := cod_of b9 dX1_largestGroup_106
theorem t9_106 {d : Nat} {h : Hp} {Q : Pst} {x : Int32} {ls : List Value} : T d 9 106 ls [.int x] h Q ↔ Q (some (.int x)) h := T_iretR m9 c9_106 rfl
theorem b10 : (mR 10).2.2.1 = cX1_guestKindBits := by rw [m10]
theorem c10_0 : cod 10 0 = some (.iconst 0, 1) := cod_of b10 dX1_guestKindBits_0
theorem t10_0 {d : Nat} {h : Hp} {Q : Pst} {ls : List Value} {st : List Value} : T d 10 0 ls st h Q ↔ T d 10 1 ls (.int 0 :: st) h Q := T_iconstV c10_0 (by decide)
theorem c10_1 : cod 10 1 = some (.istore_n 3, 1) := cod_of b10 dX1_guestKindBits_1
theorem t10_1 {d : Nat} {h : Hp} {Q : Pst} {l0 l1 l2 l3 l4 : Value} {x : Int32} {st : List Value} : T d 10 1 [l0, l1, l2, l3, l4] (.int x :: st) h Q ↔ T d 10 2 [l0, l1, kil l2, .int x, l4] st h Q := T_istore_n c10_1 (Nat.le_of_ble_eq_true rfl)
theorem c10_2 : cod 10 2 = some (.iconst 0, 1) := cod_of b10 dX1_guestKindBits_2
theorem t10_2 {d : Nat} {h : Hp} {Q : Pst} {ls : List Value} {st : List Value} : T d 10 2 ls st h Q ↔ T d 10 3 ls (.int 0 :: st) h Q := T_iconstV c10_2 (by decide)
theorem c10_3 : cod 10 3 = some (.istore 4, 2) := cod_of b10 dX1_guestKindBits_3
theorem t10_3 {d : Nat} {h : Hp} {Q : Pst} {l0 l1 l2 l3 l4 : Value} {x : Int32} {st : List Value} : T d 10 3 [l0, l1, l2, l3, l4] (.int x :: st) h Q ↔ T d 10 5 [l0, l1, l2, kil l3, .int x] st h Q := T_istore c10_3 (Nat.le_of_ble_eq_true rfl)
theorem c10_5 : cod 10 5 = some (.iload 4, 2) := cod_of b10 dX1_guestKindBits_5
theorem t10_5 {d : Nat} {h : Hp} {Q : Pst} {l0 l1 l2 l3 : Value} {x : Int32} {st : List Value} : T d 10 5 [l0, l1, l2, l3, .int x] st h Q ↔ T d 10 7 [l0, l1, l2, l3, .int x] (.int x :: st) h Q := T_iload c10_5 rfl
theorem c10_7 : cod 10 7 = some (.bipush 6, 2) := cod_of b10 dX1_guestKindBits_7
theorem t10_7 {d : Nat} {h : Hp} {Q : Pst} {ls : List Value} {st : List Value} : T d 10 7 ls st h Q ↔ T d 10 9 ls (.int 6 :: st) h Q := T_bipushV c10_7 (by decide)
theorem c10_9 : cod 10 9 = some (.if_icmp .ge 27, 3) := cod_of b10 dX1_guestKindBits_9
theorem t10_9 {d : Nat} {h : Hp} {Q : Pst} {x y : Int32} {ls : List Value} {st : List Value} : T d 10 9 ls (.int y :: .int x :: st) h Q ↔ (if y ≤ x then T d 10 36 ls st h Q else T d 10 12 ls st h Q) := T_icmp_ge c10_9 (by decide)
theorem c10_12 : cod 10 12 = some (.aload_n 0, 1) := cod_of b10 dX1_guestKindBits_12
theorem t10_12 {d : Nat} {h : Hp} {Q : Pst} {l1 l2 l3 l4 : Value} {x : Nat} {st : List Value} : T d 10 12 [.ref x, l1, l2, l3, l4] st h Q ↔ T d 10 13 [.ref x, l1, l2, l3, l4] (.ref x :: st) h Q := T_aload_n c10_12 rfl
theorem c10_13 : cod 10 13 = some (.aload_n 1, 1) := cod_of b10 dX1_guestKindBits_13
theorem t10_13 {d : Nat} {h : Hp} {Q : Pst} {l0 l2 l3 l4 : Value} {x : Nat} {st : List Value} : T d 10 13 [l0, .ref x, l2, l3, l4] st h Q ↔ T d 10 14 [l0, .ref x, l2, l3, l4] (.ref x :: st) h Q := T_aload_n c10_13 rfl
theorem c10_14 : cod 10 14 = some (.iload_n 2, 1) := cod_of b10 dX1_guestKindBits_14
theorem t10_14 {d : Nat} {h : Hp} {Q : Pst} {l0 l1 l3 l4 : Value} {x : Int32} {st : List Value} : T d 10 14 [l0, l1, .int x, l3, l4] st h Q ↔ T d 10 15 [l0, l1, .int x, l3, l4] (.int x :: st) h Q := T_iload_n c10_14 rfl
theorem c10_15 : cod 10 15 = some (.iload 4, 2) := cod_of b10 dX1_guestKindBits_15
theorem t10_15 {d : Nat} {h : Hp} {Q : Pst} {l0 l1 l2 l3 : Value} {x : Int32} {st : List Value} : T d 10 15 [l0, l1, l2, l3, .int x] st h Q ↔ T d 10 17 [l0, l1, l2, l3, .int x] (.int x :: st) h Q := T_iload c10_15 rfl
theorem c10_17 : cod 10 17 = some (.invokevirtual 70, 3) := cod_of b10 dX1_guestKindBits_17
theorem t10_17 {d : Nat} {h : Hp} {Q : Pst} {a0 a : Nat} {a1 a2 : Int32} {ls : List Value} (ho : isO (h.2.2 a) 1) : T (d + 1) 10 17 ls [.int a2, .int a1, .ref a0, .ref a] h Q ↔ T d 11 0 [.ref a, .ref a0, .int a1, .int a2, un, un, un] [] h (fun x h2 => T (d + 1) 10 20 ls (rl x []) h2 Q) := T_virtualR (as := [.ref a0, .int a1, .int a2]) (r := []) m10 m11 c10_17 k1_70  rfl (by decide) rfl (by simp [wrd, Value.category]) (by simp [stk, Value.category]) rfl (by decide +kernel) ho
theorem c10_20 : cod 10 20 = some (.ifCond .eq 10, 3) := cod_of b10 dX1_guestKindBits_20
theorem t10_20 {d : Nat} {h : Hp} {Q : Pst} {x : Int32} {ls : List Value} {st : List Value} : T d 10 20 ls (.int x :: st) h Q ↔ (if x = 0 then T d 10 30 ls st h Q else T d 10 23 ls st h Q) := T_if_eq c10_20 (by decide)
theorem c10_23 : cod 10 23 = some (.iload_n 3, 1) := cod_of b10 dX1_guestKindBits_23
theorem t10_23 {d : Nat} {h : Hp} {Q : Pst} {l0 l1 l2 l4 : Value} {x : Int32} {st : List Value} : T d 10 23 [l0, l1, l2, .int x, l4] st h Q ↔ T d 10 24 [l0, l1, l2, .int x, l4] (.int x :: st) h Q := T_iload_n c10_23 rfl
theorem c10_24 : cod 10 24 = some (.iconst 1, 1) := cod_of b10 dX1_guestKindBits_24
theorem t10_24 {d : Nat} {h : Hp} {Q : Pst} {ls : List Value} {st : List Value} : T d 10 24 ls st h Q ↔ T d 10 25 ls (.int 1 :: st) h Q := T_iconstV c10_24 (by decide)
theorem c10_25 : cod 10 25 = some (.iload 4, 2) := cod_of b10 dX1_guestKindBits_25
theorem t10_25 {d : Nat} {h : Hp} {Q : Pst} {l0 l1 l2 l3 : Value} {x : Int32} {st : List Value} : T d 10 25 [l0, l1, l2, l3, .int x] st h Q ↔ T d 10 27 [l0, l1, l2, l3, .int x] (.int x :: st) h Q := T_iload c10_25 rfl
theorem c10_27 : cod 10 27 = some (.ishl, 1) := cod_of b10 dX1_guestKindBits_27
theorem t10_27 {d : Nat} {h : Hp} {Q : Pst} {x y : Int32} {ls : List Value} {st : List Value} : T d 10 27 ls (.int y :: .int x :: st) h Q ↔ T d 10 28 ls (.int (x <<< (y &&& 31)) :: st) h Q := T_ishl c10_27
theorem c10_28 : cod 10 28 = some (.ior, 1) := cod_of b10 dX1_guestKindBits_28
theorem t10_28 {d : Nat} {h : Hp} {Q : Pst} {x y : Int32} {ls : List Value} {st : List Value} : T d 10 28 ls (.int y :: .int x :: st) h Q ↔ T d 10 29 ls (.int (x ||| y) :: st) h Q := T_ior c10_28
theorem c10_29 : cod 10 29 = some (.istore_n 3, 1) := cod_of b10 dX1_guestKindBits_29
theorem t10_29 {d : Nat} {h : Hp} {Q : Pst} {l0 l1 l2 l3 l4 : Value} {x : Int32} {st : List Value} : T d 10 29 [l0, l1, l2, l3, l4] (.int x :: st) h Q ↔ T d 10 30 [l0, l1, kil l2, .int x, l4] st h Q := T_istore_n c10_29 (Nat.le_of_ble_eq_true rfl)
theorem c10_30 : cod 10 30 = some (.iinc 4 1, 3) := cod_of b10 dX1_guestKindBits_30
theorem t10_30 {d : Nat} {h : Hp} {Q : Pst} {l0 l1 l2 l3 : Value} {x : Int32} {st : List Value} : T d 10 30 [l0, l1, l2, l3, .int x] st h Q ↔ T d 10 33 [l0, l1, l2, kil l3, .int (x + 1)] st h Q := T_iincV c10_30 rfl (Nat.le_of_ble_eq_true rfl) (by decide) rfl
theorem c10_33 : cod 10 33 = some (.goto (-28), 3) := cod_of b10 dX1_guestKindBits_33
theorem t10_33 {d : Nat} {h : Hp} {Q : Pst} {ls : List Value} {st : List Value} : T d 10 33 ls st h Q ↔ T d 10 5 ls st h Q := T_goto c10_33 (by decide)
theorem c10_36 : cod 10 36 = some (.iload_n 3, 1) := cod_of b10 dX1_guestKindBits_36
theorem t10_36 {d : Nat} {h : Hp} {Q : Pst} {l0 l1 l2 l4 : Value} {x : Int32} {st : List Value} : T d 10 36 [l0, l1, l2, .int x, l4] st h Q ↔ T d 10 37 [l0, l1, l2, .int x, l4] (.int x :: st) h Q := T_iload_n c10_36 rfl
theorem c10_37 : cod 10 37 = some (.ireturn, 1) := cod_of b10 dX1_guestKindBits_37
theorem t10_37 {d : Nat} {h : Hp} {Q : Pst} {x : Int32} {ls : List Value} : T d 10 37 ls [.int x] h Q ↔ Q (some (.int x)) h := T_iretR m10 c10_37 rfl
theorem b11 : (mR 11).2.2.1 = cX1_guestKindFits := by rw [m11]
theorem c11_0 : cod 11 0 = some (.aload_n 1, 1) := cod_of b11 dX1_guestKindFits_0
theorem t11_0 {d : Nat} {h : Hp} {Q : Pst} {l0 l2 l3 l4 l5 l6 : Value} {x : Nat} {st : List Value} : T d 11 0 [l0, .ref x, l2, l3, l4, l5, l6] st h Q ↔ T d 11 1 [l0, .ref x, l2, l3, l4, l5, l6] (.ref x :: st) h Q := T_aload_n c11_0 rfl
theorem c11_1 : cod 11 1 = some (.getfield 73, 3) := cod_of b11 dX1_guestKindFits_1
theorem t11_1 {d : Nat} {h : Hp} {Q : Pst} {a : Nat} {ls : List Value} {st : List Value} : T d 11 1 ls (.ref a :: st) h Q ↔ gF (h.2.2 a) 5 7 (fun v => T d 11 4 ls (v :: st) h Q) := T_getfieldR m11 c11_1 f1_73
theorem c11_4 : cod 11 4 = some (.astore 4, 2) := cod_of b11 dX1_guestKindFits_4
theorem t11_4 {d : Nat} {h : Hp} {Q : Pst} {l0 l1 l2 l3 l4 l5 l6 : Value} {x : Nat} {st : List Value} : T d 11 4 [l0, l1, l2, l3, l4, l5, l6] (.ref x :: st) h Q ↔ T d 11 6 [l0, l1, l2, kil l3, .ref x, l5, l6] st h Q := T_astore c11_4 (Nat.le_of_ble_eq_true rfl)
theorem c11_6 : cod 11 6 = some (.iconst 0, 1) := cod_of b11 dX1_guestKindFits_6
theorem t11_6 {d : Nat} {h : Hp} {Q : Pst} {ls : List Value} {st : List Value} : T d 11 6 ls st h Q ↔ T d 11 7 ls (.int 0 :: st) h Q := T_iconstV c11_6 (by decide)
theorem c11_7 : cod 11 7 = some (.istore 5, 2) := cod_of b11 dX1_guestKindFits_7
theorem t11_7 {d : Nat} {h : Hp} {Q : Pst} {l0 l1 l2 l3 l4 l5 l6 : Value} {x : Int32} {st : List Value} : T d 11 7 [l0, l1, l2, l3, l4, l5, l6] (.int x :: st) h Q ↔ T d 11 9 [l0, l1, l2, l3, kil l4, .int x, l6] st h Q := T_istore c11_7 (Nat.le_of_ble_eq_true rfl)
theorem c11_9 : cod 11 9 = some (.iload 5, 2) := cod_of b11 dX1_guestKindFits_9
theorem t11_9 {d : Nat} {h : Hp} {Q : Pst} {l0 l1 l2 l3 l4 l6 : Value} {x : Int32} {st : List Value} : T d 11 9 [l0, l1, l2, l3, l4, .int x, l6] st h Q ↔ T d 11 11 [l0, l1, l2, l3, l4, .int x, l6] (.int x :: st) h Q := T_iload c11_9 rfl
theorem c11_11 : cod 11 11 = some (.aload 4, 2) := cod_of b11 dX1_guestKindFits_11
theorem t11_11 {d : Nat} {h : Hp} {Q : Pst} {l0 l1 l2 l3 l5 l6 : Value} {x : Nat} {st : List Value} : T d 11 11 [l0, l1, l2, l3, .ref x, l5, l6] st h Q ↔ T d 11 13 [l0, l1, l2, l3, .ref x, l5, l6] (.ref x :: st) h Q := T_aload c11_11 rfl
theorem c11_13 : cod 11 13 = some (.getfield 25, 3) := cod_of b11 dX1_guestKindFits_13
theorem t11_13 {d : Nat} {h : Hp} {Q : Pst} {a : Nat} {ls : List Value} {st : List Value} : T d 11 13 ls (.ref a :: st) h Q ↔ gF (h.2.2 a) 3 3 (fun v => T d 11 16 ls (v :: st) h Q) := T_getfieldR m11 c11_13 f1_25
theorem c11_16 : cod 11 16 = some (.if_icmp .ge 66, 3) := cod_of b11 dX1_guestKindFits_16
theorem t11_16 {d : Nat} {h : Hp} {Q : Pst} {x y : Int32} {ls : List Value} {st : List Value} : T d 11 16 ls (.int y :: .int x :: st) h Q ↔ (if y ≤ x then T d 11 82 ls st h Q else T d 11 19 ls st h Q) := T_icmp_ge c11_16 (by decide)
theorem c11_19 : cod 11 19 = some (.aload 4, 2) := cod_of b11 dX1_guestKindFits_19
theorem t11_19 {d : Nat} {h : Hp} {Q : Pst} {l0 l1 l2 l3 l5 l6 : Value} {x : Nat} {st : List Value} : T d 11 19 [l0, l1, l2, l3, .ref x, l5, l6] st h Q ↔ T d 11 21 [l0, l1, l2, l3, .ref x, l5, l6] (.ref x :: st) h Q := T_aload c11_19 rfl
theorem c11_21 : cod 11 21 = some (.iload 5, 2) := cod_of b11 dX1_guestKindFits_21
theorem t11_21 {d : Nat} {h : Hp} {Q : Pst} {l0 l1 l2 l3 l4 l6 : Value} {x : Int32} {st : List Value} : T d 11 21 [l0, l1, l2, l3, l4, .int x, l6] st h Q ↔ T d 11 23 [l0, l1, l2, l3, l4, .int x, l6] (.int x :: st) h Q := T_iload c11_21 rfl
theorem c11_23 : cod 11 23 = some (.iconst 0, 1) := cod_of b11 dX1_guestKindFits_23
theorem t11_23 {d : Nat} {h : Hp} {Q : Pst} {ls : List Value} {st : List Value} : T d 11 23 ls st h Q ↔ T d 11 24 ls (.int 0 :: st) h Q := T_iconstV c11_23 (by decide)
theorem c11_24 : cod 11 24 = some (.invokevirtual 31, 3) := cod_of b11 dX1_guestKindFits_24
theorem t11_24 {d : Nat} {h : Hp} {Q : Pst} {a0 a1 : Int32} {a : Nat} {ls : List Value} (ho : isO (h.2.2 a) 3) : T (d + 1) 11 24 ls [.int a1, .int a0, .ref a] h Q ↔ T d 39 0 [.ref a, .int a0, .int a1] [] h (fun x h2 => T (d + 1) 11 27 ls (rl x []) h2 Q) := T_virtualR (as := [.int a0, .int a1]) (r := []) m11 m39 c11_24 k1_31  rfl (by decide) rfl (by simp [wrd, Value.category]) (by simp [stk, Value.category]) rfl (by decide +kernel) ho
theorem c11_27 : cod 11 27 = some (.iload_n 2, 1) := cod_of b11 dX1_guestKindFits_27
theorem t11_27 {d : Nat} {h : Hp} {Q : Pst} {l0 l1 l3 l4 l5 l6 : Value} {x : Int32} {st : List Value} : T d 11 27 [l0, l1, .int x, l3, l4, l5, l6] st h Q ↔ T d 11 28 [l0, l1, .int x, l3, l4, l5, l6] (.int x :: st) h Q := T_iload_n c11_27 rfl
theorem c11_28 : cod 11 28 = some (.if_icmp .ne 7, 3) := cod_of b11 dX1_guestKindFits_28
theorem t11_28 {d : Nat} {h : Hp} {Q : Pst} {x y : Int32} {ls : List Value} {st : List Value} : T d 11 28 ls (.int y :: .int x :: st) h Q ↔ (if ¬ x = y then T d 11 35 ls st h Q else T d 11 31 ls st h Q) := T_icmp_ne c11_28 (by decide)
theorem c11_31 : cod 11 31 = some (.iconst 1, 1) := cod_of b11 dX1_guestKindFits_31
theorem t11_31 {d : Nat} {h : Hp} {Q : Pst} {ls : List Value} {st : List Value} : T d 11 31 ls st h Q ↔ T d 11 32 ls (.int 1 :: st) h Q := T_iconstV c11_31 (by decide)
theorem c11_32 : cod 11 32 = some (.goto 4, 3) := cod_of b11 dX1_guestKindFits_32
theorem t11_32 {d : Nat} {h : Hp} {Q : Pst} {ls : List Value} {st : List Value} : T d 11 32 ls st h Q ↔ T d 11 36 ls st h Q := T_goto c11_32 (by decide)
theorem c11_36 : cod 11 36 = some (.istore 6, 2) := cod_of b11 dX1_guestKindFits_36
theorem t11_36 {d : Nat} {h : Hp} {Q : Pst} {l0 l1 l2 l3 l4 l5 l6 : Value} {x : Int32} {st : List Value} : T d 11 36 [l0, l1, l2, l3, l4, l5, l6] (.int x :: st) h Q ↔ T d 11 38 [l0, l1, l2, l3, l4, kil l5, .int x] st h Q := T_istore c11_36 (Nat.le_of_ble_eq_true rfl)
theorem c11_38 : cod 11 38 = some (.iload 6, 2) := cod_of b11 dX1_guestKindFits_38
theorem t11_38 {d : Nat} {h : Hp} {Q : Pst} {l0 l1 l2 l3 l4 l5 : Value} {x : Int32} {st : List Value} : T d 11 38 [l0, l1, l2, l3, l4, l5, .int x] st h Q ↔ T d 11 40 [l0, l1, l2, l3, l4, l5, .int x] (.int x :: st) h Q := T_iload c11_38 rfl
theorem c11_40 : cod 11 40 = some (.ifCond .eq 36, 3) := cod_of b11 dX1_guestKindFits_40
theorem t11_40 {d : Nat} {h : Hp} {Q : Pst} {x : Int32} {ls : List Value} {st : List Value} : T d 11 40 ls (.int x :: st) h Q ↔ (if x = 0 then T d 11 76 ls st h Q else T d 11 43 ls st h Q) := T_if_eq c11_40 (by decide)
theorem c11_43 : cod 11 43 = some (.iload_n 3, 1) := cod_of b11 dX1_guestKindFits_43
theorem t11_43 {d : Nat} {h : Hp} {Q : Pst} {l0 l1 l2 l4 l5 l6 : Value} {x : Int32} {st : List Value} : T d 11 43 [l0, l1, l2, .int x, l4, l5, l6] st h Q ↔ T d 11 44 [l0, l1, l2, .int x, l4, l5, l6] (.int x :: st) h Q := T_iload_n c11_43 rfl
theorem c11_44 : cod 11 44 = some (.aload 4, 2) := cod_of b11 dX1_guestKindFits_44
theorem t11_44 {d : Nat} {h : Hp} {Q : Pst} {l0 l1 l2 l3 l5 l6 : Value} {x : Nat} {st : List Value} : T d 11 44 [l0, l1, l2, l3, .ref x, l5, l6] st h Q ↔ T d 11 46 [l0, l1, l2, l3, .ref x, l5, l6] (.ref x :: st) h Q := T_aload c11_44 rfl
theorem c11_46 : cod 11 46 = some (.iload 5, 2) := cod_of b11 dX1_guestKindFits_46
theorem t11_46 {d : Nat} {h : Hp} {Q : Pst} {l0 l1 l2 l3 l4 l6 : Value} {x : Int32} {st : List Value} : T d 11 46 [l0, l1, l2, l3, l4, .int x, l6] st h Q ↔ T d 11 48 [l0, l1, l2, l3, l4, .int x, l6] (.int x :: st) h Q := T_iload c11_46 rfl
theorem c11_48 : cod 11 48 = some (.iconst 1, 1) := cod_of b11 dX1_guestKindFits_48
theorem t11_48 {d : Nat} {h : Hp} {Q : Pst} {ls : List Value} {st : List Value} : T d 11 48 ls st h Q ↔ T d 11 49 ls (.int 1 :: st) h Q := T_iconstV c11_48 (by decide)
theorem c11_49 : cod 11 49 = some (.invokevirtual 31, 3) := cod_of b11 dX1_guestKindFits_49
theorem t11_49 {d : Nat} {h : Hp} {Q : Pst} {a0 a1 s0 : Int32} {a : Nat} {ls : List Value} (ho : isO (h.2.2 a) 3) : T (d + 1) 11 49 ls [.int a1, .int a0, .ref a, .int s0] h Q ↔ T d 39 0 [.ref a, .int a0, .int a1] [] h (fun x h2 => T (d + 1) 11 52 ls (rl x [.int s0]) h2 Q) := T_virtualR (as := [.int a0, .int a1]) (r := [.int s0]) m11 m39 c11_49 k1_31  rfl (by decide) rfl (by simp [wrd, Value.category]) (by simp [stk, Value.category]) rfl (by decide +kernel) ho
theorem c11_52 : cod 11 52 = some (.aload 4, 2) := cod_of b11 dX1_guestKindFits_52
theorem t11_52 {d : Nat} {h : Hp} {Q : Pst} {l0 l1 l2 l3 l5 l6 : Value} {x : Nat} {st : List Value} : T d 11 52 [l0, l1, l2, l3, .ref x, l5, l6] st h Q ↔ T d 11 54 [l0, l1, l2, l3, .ref x, l5, l6] (.ref x :: st) h Q := T_aload c11_52 rfl
theorem c11_54 : cod 11 54 = some (.iload 5, 2) := cod_of b11 dX1_guestKindFits_54
theorem t11_54 {d : Nat} {h : Hp} {Q : Pst} {l0 l1 l2 l3 l4 l6 : Value} {x : Int32} {st : List Value} : T d 11 54 [l0, l1, l2, l3, l4, .int x, l6] st h Q ↔ T d 11 56 [l0, l1, l2, l3, l4, .int x, l6] (.int x :: st) h Q := T_iload c11_54 rfl
theorem c11_56 : cod 11 56 = some (.iconst 2, 1) := cod_of b11 dX1_guestKindFits_56
theorem t11_56 {d : Nat} {h : Hp} {Q : Pst} {ls : List Value} {st : List Value} : T d 11 56 ls st h Q ↔ T d 11 57 ls (.int 2 :: st) h Q := T_iconstV c11_56 (by decide)
theorem c11_57 : cod 11 57 = some (.invokevirtual 31, 3) := cod_of b11 dX1_guestKindFits_57
theorem t11_57 {d : Nat} {h : Hp} {Q : Pst} {a0 a1 s0 s1 : Int32} {a : Nat} {ls : List Value} (ho : isO (h.2.2 a) 3) : T (d + 1) 11 57 ls [.int a1, .int a0, .ref a, .int s0, .int s1] h Q ↔ T d 39 0 [.ref a, .int a0, .int a1] [] h (fun x h2 => T (d + 1) 11 60 ls (rl x [.int s0, .int s1]) h2 Q) := T_virtualR (as := [.int a0, .int a1]) (r := [.int s0, .int s1]) m11 m39 c11_57 k1_31  rfl (by decide) rfl (by simp [wrd, Value.category]) (by simp [stk, Value.category]) rfl (by decide +kernel) ho
theorem c11_60 : cod 11 60 = some (.invokestatic 76, 3) := cod_of b11 dX1_guestKindFits_60
theorem t11_60 {d : Nat} {h : Hp} {Q : Pst} {a0 a1 a2 : Int32} {ls : List Value} : T (d + 1) 11 60 ls [.int a2, .int a1, .int a0] h Q ↔ T d 49 0 [.int a0, .int a1, .int a2, un, un, un] [] h (fun x h2 => T (d + 1) 11 63 ls (rl x []) h2 Q) := T_staticR (as := [.int a0, .int a1, .int a2]) (r := []) m11 m49 c11_60 k1_76 (Or.inl rfl) rfl (by decide) rfl (by simp [wrd, Value.category]) (by simp [stk, Value.category]) rfl
theorem c11_63 : cod 11 63 = some (.aload 4, 2) := cod_of b11 dX1_guestKindFits_63
theorem t11_63 {d : Nat} {h : Hp} {Q : Pst} {l0 l1 l2 l3 l5 l6 : Value} {x : Nat} {st : List Value} : T d 11 63 [l0, l1, l2, l3, .ref x, l5, l6] st h Q ↔ T d 11 65 [l0, l1, l2, l3, .ref x, l5, l6] (.ref x :: st) h Q := T_aload c11_63 rfl
theorem c11_65 : cod 11 65 = some (.iload 5, 2) := cod_of b11 dX1_guestKindFits_65
theorem t11_65 {d : Nat} {h : Hp} {Q : Pst} {l0 l1 l2 l3 l4 l6 : Value} {x : Int32} {st : List Value} : T d 11 65 [l0, l1, l2, l3, l4, .int x, l6] st h Q ↔ T d 11 67 [l0, l1, l2, l3, l4, .int x, l6] (.int x :: st) h Q := T_iload c11_65 rfl
theorem c11_67 : cod 11 67 = some (.iconst 3, 1) := cod_of b11 dX1_guestKindFits_67
theorem t11_67 {d : Nat} {h : Hp} {Q : Pst} {ls : List Value} {st : List Value} : T d 11 67 ls st h Q ↔ T d 11 68 ls (.int 3 :: st) h Q := T_iconstV c11_67 (by decide)
theorem c11_68 : cod 11 68 = some (.invokevirtual 31, 3) := cod_of b11 dX1_guestKindFits_68
theorem t11_68 {d : Nat} {h : Hp} {Q : Pst} {a0 a1 s0 : Int32} {a : Nat} {ls : List Value} (ho : isO (h.2.2 a) 3) : T (d + 1) 11 68 ls [.int a1, .int a0, .ref a, .int s0] h Q ↔ T d 39 0 [.ref a, .int a0, .int a1] [] h (fun x h2 => T (d + 1) 11 71 ls (rl x [.int s0]) h2 Q) := T_virtualR (as := [.int a0, .int a1]) (r := [.int s0]) m11 m39 c11_68 k1_31  rfl (by decide) rfl (by simp [wrd, Value.category]) (by simp [stk, Value.category]) rfl (by decide +kernel) ho
theorem c11_71 : cod 11 71 = some (.if_icmp .eq 5, 3) := cod_of b11 dX1_guestKindFits_71
theorem t11_71 {d : Nat} {h : Hp} {Q : Pst} {x y : Int32} {ls : List Value} {st : List Value} : T d 11 71 ls (.int y :: .int x :: st) h Q ↔ (if x = y then T d 11 76 ls st h Q else T d 11 74 ls st h Q) := T_icmp_eq c11_71 (by decide)
theorem c11_74 : cod 11 74 = some (.iconst 0, 1) := cod_of b11 dX1_guestKindFits_74
theorem t11_74 {d : Nat} {h : Hp} {Q : Pst} {ls : List Value} {st : List Value} : T d 11 74 ls st h Q ↔ T d 11 75 ls (.int 0 :: st) h Q := T_iconstV c11_74 (by decide)
theorem c11_75 : cod 11 75 = some (.ireturn, 1) := cod_of b11 dX1_guestKindFits_75
theorem t11_75 {d : Nat} {h : Hp} {Q : Pst} {x : Int32} {ls : List Value} : T d 11 75 ls [.int x] h Q ↔ (narrow .boolean (.int x) = .int x ∧ Q (some (.int x)) h) := T_zretR m11 c11_75 rfl
theorem c11_76 : cod 11 76 = some (.iinc 5 1, 3) := cod_of b11 dX1_guestKindFits_76
theorem t11_76 {d : Nat} {h : Hp} {Q : Pst} {l0 l1 l2 l3 l4 l6 : Value} {x : Int32} {st : List Value} : T d 11 76 [l0, l1, l2, l3, l4, .int x, l6] st h Q ↔ T d 11 79 [l0, l1, l2, l3, kil l4, .int (x + 1), l6] st h Q := T_iincV c11_76 rfl (Nat.le_of_ble_eq_true rfl) (by decide) rfl
theorem c11_79 : cod 11 79 = some (.goto (-70), 3) := cod_of b11 dX1_guestKindFits_79
theorem t11_79 {d : Nat} {h : Hp} {Q : Pst} {ls : List Value} {st : List Value} : T d 11 79 ls st h Q ↔ T d 11 9 ls st h Q := T_goto c11_79 (by decide)
theorem c11_35 : cod 11 35 = some (.iconst 0, 1) := cod_of b11 dX1_guestKindFits_35
theorem t11_35 {d : Nat} {h : Hp} {Q : Pst} {ls : List Value} {st : List Value} : T d 11 35 ls st h Q ↔ T d 11 36 ls (.int 0 :: st) h Q := T_iconstV c11_35 (by decide)
theorem c11_82 : cod 11 82 = some (.iconst 1, 1) := cod_of b11 dX1_guestKindFits_82
theorem t11_82 {d : Nat} {h : Hp} {Q : Pst} {ls : List Value} {st : List Value} : T d 11 82 ls st h Q ↔ T d 11 83 ls (.int 1 :: st) h Q := T_iconstV c11_82 (by decide)
theorem c11_83 : cod 11 83 = some (.ireturn, 1) := cod_of b11 dX1_guestKindFits_83
theorem t11_83 {d : Nat} {h : Hp} {Q : Pst} {x : Int32} {ls : List Value} : T d 11 83 ls [.int x] h Q ↔ (narrow .boolean (.int x) = .int x ∧ Q (some (.int x)) h) := T_zretR m11 c11_83 rfl
theorem b12 : (mR 12).2.2.1 = cX1_bestPart := by rw [m12]
theorem c12_0 : cod 12 0 = some (.aload_n 0, 1) := cod_of b12 dX1_bestPart_0
theorem t12_0 {d : Nat} {h : Hp} {Q : Pst} {l1 l2 l3 l4 l5 l6 l7 : Value} {x : Nat} {st : List Value} : T d 12 0 [.ref x, l1, l2, l3, l4, l5, l6, l7] st h Q ↔ T d 12 1 [.ref x, l1, l2, l3, l4, l5, l6, l7] (.ref x :: st) h Q := T_aload_n c12_0 rfl
theorem c12_1 : cod 12 1 = some (.aload_n 1, 1) := cod_of b12 dX1_bestPart_1
theorem t12_1 {d : Nat} {h : Hp} {Q : Pst} {l0 l2 l3 l4 l5 l6 l7 : Value} {x : Nat} {st : List Value} : T d 12 1 [l0, .ref x, l2, l3, l4, l5, l6, l7] st h Q ↔ T d 12 2 [l0, .ref x, l2, l3, l4, l5, l6, l7] (.ref x :: st) h Q := T_aload_n c12_1 rfl
theorem c12_2 : cod 12 2 = some (.iload_n 2, 1) := cod_of b12 dX1_bestPart_2
theorem t12_2 {d : Nat} {h : Hp} {Q : Pst} {l0 l1 l3 l4 l5 l6 l7 : Value} {x : Int32} {st : List Value} : T d 12 2 [l0, l1, .int x, l3, l4, l5, l6, l7] st h Q ↔ T d 12 3 [l0, l1, .int x, l3, l4, l5, l6, l7] (.int x :: st) h Q := T_iload_n c12_2 rfl
theorem c12_3 : cod 12 3 = some (.invokevirtual 82, 3) := cod_of b12 dX1_bestPart_3
theorem t12_3 {d : Nat} {h : Hp} {Q : Pst} {a0 a : Nat} {a1 : Int32} {ls : List Value} (ho : isO (h.2.2 a) 1) : T (d + 1) 12 3 ls [.int a1, .ref a0, .ref a] h Q ↔ T d 10 0 [.ref a, .ref a0, .int a1, un, un] [] h (fun x h2 => T (d + 1) 12 6 ls (rl x []) h2 Q) := T_virtualR (as := [.ref a0, .int a1]) (r := []) m12 m10 c12_3 k1_82  rfl (by decide) rfl (by simp [wrd, Value.category]) (by simp [stk, Value.category]) rfl (by decide +kernel) ho
theorem c12_6 : cod 12 6 = some (.istore_n 3, 1) := cod_of b12 dX1_bestPart_6
theorem t12_6 {d : Nat} {h : Hp} {Q : Pst} {l0 l1 l2 l3 l4 l5 l6 l7 : Value} {x : Int32} {st : List Value} : T d 12 6 [l0, l1, l2, l3, l4, l5, l6, l7] (.int x :: st) h Q ↔ T d 12 7 [l0, l1, kil l2, .int x, l4, l5, l6, l7] st h Q := T_istore_n c12_6 (Nat.le_of_ble_eq_true rfl)
theorem c12_7 : cod 12 7 = some (.iconst (-1), 1) := cod_of b12 dX1_bestPart_7
theorem t12_7 {d : Nat} {h : Hp} {Q : Pst} {ls : List Value} {st : List Value} : T d 12 7 ls st h Q ↔ T d 12 8 ls (.int (-1) :: st) h Q := T_iconstV c12_7 (by decide)
theorem c12_8 : cod 12 8 = some (.istore 4, 2) := cod_of b12 dX1_bestPart_8
theorem t12_8 {d : Nat} {h : Hp} {Q : Pst} {l0 l1 l2 l3 l4 l5 l6 l7 : Value} {x : Int32} {st : List Value} : T d 12 8 [l0, l1, l2, l3, l4, l5, l6, l7] (.int x :: st) h Q ↔ T d 12 10 [l0, l1, l2, kil l3, .int x, l5, l6, l7] st h Q := T_istore c12_8 (Nat.le_of_ble_eq_true rfl)
theorem c12_10 : cod 12 10 = some (.bipush 7, 2) := cod_of b12 dX1_bestPart_10
theorem t12_10 {d : Nat} {h : Hp} {Q : Pst} {ls : List Value} {st : List Value} : T d 12 10 ls st h Q ↔ T d 12 12 ls (.int 7 :: st) h Q := T_bipushV c12_10 (by decide)
theorem c12_12 : cod 12 12 = some (.istore 5, 2) := cod_of b12 dX1_bestPart_12
theorem t12_12 {d : Nat} {h : Hp} {Q : Pst} {l0 l1 l2 l3 l4 l5 l6 l7 : Value} {x : Int32} {st : List Value} : T d 12 12 [l0, l1, l2, l3, l4, l5, l6, l7] (.int x :: st) h Q ↔ T d 12 14 [l0, l1, l2, l3, kil l4, .int x, l6, l7] st h Q := T_istore c12_12 (Nat.le_of_ble_eq_true rfl)
theorem c12_14 : cod 12 14 = some (.iconst 0, 1) := cod_of b12 dX1_bestPart_14
theorem t12_14 {d : Nat} {h : Hp} {Q : Pst} {ls : List Value} {st : List Value} : T d 12 14 ls st h Q ↔ T d 12 15 ls (.int 0 :: st) h Q := T_iconstV c12_14 (by decide)
theorem c12_15 : cod 12 15 = some (.istore 6, 2) := cod_of b12 dX1_bestPart_15
theorem t12_15 {d : Nat} {h : Hp} {Q : Pst} {l0 l1 l2 l3 l4 l5 l6 l7 : Value} {x : Int32} {st : List Value} : T d 12 15 [l0, l1, l2, l3, l4, l5, l6, l7] (.int x :: st) h Q ↔ T d 12 17 [l0, l1, l2, l3, l4, kil l5, .int x, l7] st h Q := T_istore c12_15 (Nat.le_of_ble_eq_true rfl)
theorem c12_17 : cod 12 17 = some (.iload_n 3, 1) := cod_of b12 dX1_bestPart_17
theorem t12_17 {d : Nat} {h : Hp} {Q : Pst} {l0 l1 l2 l4 l5 l6 l7 : Value} {x : Int32} {st : List Value} : T d 12 17 [l0, l1, l2, .int x, l4, l5, l6, l7] st h Q ↔ T d 12 18 [l0, l1, l2, .int x, l4, l5, l6, l7] (.int x :: st) h Q := T_iload_n c12_17 rfl
theorem c12_18 : cod 12 18 = some (.ifCond .eq 47, 3) := cod_of b12 dX1_bestPart_18
theorem t12_18 {d : Nat} {h : Hp} {Q : Pst} {x : Int32} {ls : List Value} {st : List Value} : T d 12 18 ls (.int x :: st) h Q ↔ (if x = 0 then T d 12 65 ls st h Q else T d 12 21 ls st h Q) := T_if_eq c12_18 (by decide)
theorem c12_21 : cod 12 21 = some (.iload 6, 2) := cod_of b12 dX1_bestPart_21
theorem t12_21 {d : Nat} {h : Hp} {Q : Pst} {l0 l1 l2 l3 l4 l5 l7 : Value} {x : Int32} {st : List Value} : T d 12 21 [l0, l1, l2, l3, l4, l5, .int x, l7] st h Q ↔ T d 12 23 [l0, l1, l2, l3, l4, l5, .int x, l7] (.int x :: st) h Q := T_iload c12_21 rfl
theorem c12_23 : cod 12 23 = some (.iconst 5, 1) := cod_of b12 dX1_bestPart_23
theorem t12_23 {d : Nat} {h : Hp} {Q : Pst} {ls : List Value} {st : List Value} : T d 12 23 ls st h Q ↔ T d 12 24 ls (.int 5 :: st) h Q := T_iconstV c12_23 (by decide)
theorem c12_24 : cod 12 24 = some (.if_icmp .ge 41, 3) := cod_of b12 dX1_bestPart_24
theorem t12_24 {d : Nat} {h : Hp} {Q : Pst} {x y : Int32} {ls : List Value} {st : List Value} : T d 12 24 ls (.int y :: .int x :: st) h Q ↔ (if y ≤ x then T d 12 65 ls st h Q else T d 12 27 ls st h Q) := T_icmp_ge c12_24 (by decide)
theorem c12_27 : cod 12 27 = some (.aload_n 0, 1) := cod_of b12 dX1_bestPart_27
theorem t12_27 {d : Nat} {h : Hp} {Q : Pst} {l1 l2 l3 l4 l5 l6 l7 : Value} {x : Nat} {st : List Value} : T d 12 27 [.ref x, l1, l2, l3, l4, l5, l6, l7] st h Q ↔ T d 12 28 [.ref x, l1, l2, l3, l4, l5, l6, l7] (.ref x :: st) h Q := T_aload_n c12_27 rfl
theorem c12_28 : cod 12 28 = some (.iload_n 3, 1) := cod_of b12 dX1_bestPart_28
theorem t12_28 {d : Nat} {h : Hp} {Q : Pst} {l0 l1 l2 l4 l5 l6 l7 : Value} {x : Int32} {st : List Value} : T d 12 28 [l0, l1, l2, .int x, l4, l5, l6, l7] st h Q ↔ T d 12 29 [l0, l1, l2, .int x, l4, l5, l6, l7] (.int x :: st) h Q := T_iload_n c12_28 rfl
theorem c12_29 : cod 12 29 = some (.aload_n 1, 1) := cod_of b12 dX1_bestPart_29
theorem t12_29 {d : Nat} {h : Hp} {Q : Pst} {l0 l2 l3 l4 l5 l6 l7 : Value} {x : Nat} {st : List Value} : T d 12 29 [l0, .ref x, l2, l3, l4, l5, l6, l7] st h Q ↔ T d 12 30 [l0, .ref x, l2, l3, l4, l5, l6, l7] (.ref x :: st) h Q := T_aload_n c12_29 rfl
theorem c12_30 : cod 12 30 = some (.getfield 85, 3) := cod_of b12 dX1_bestPart_30
theorem t12_30 {d : Nat} {h : Hp} {Q : Pst} {a : Nat} {ls : List Value} {st : List Value} : T d 12 30 ls (.ref a :: st) h Q ↔ gF (h.2.2 a) 5 1 (fun v => T d 12 33 ls (v :: st) h Q) := T_getfieldR m12 c12_30 f1_85
theorem c12_33 : cod 12 33 = some (.iload_n 2, 1) := cod_of b12 dX1_bestPart_33
theorem t12_33 {d : Nat} {h : Hp} {Q : Pst} {l0 l1 l3 l4 l5 l6 l7 : Value} {x : Int32} {st : List Value} : T d 12 33 [l0, l1, .int x, l3, l4, l5, l6, l7] st h Q ↔ T d 12 34 [l0, l1, .int x, l3, l4, l5, l6, l7] (.int x :: st) h Q := T_iload_n c12_33 rfl
theorem c12_34 : cod 12 34 = some (.invokestatic 61, 3) := cod_of b12 dX1_bestPart_34
theorem t12_34 {d : Nat} {h : Hp} {Q : Pst} {a0 s1 : Nat} {a1 s0 : Int32} {ls : List Value} : T (d + 1) 12 34 ls [.int a1, .ref a0, .int s0, .ref s1] h Q ↔ T d 122 0 [.ref a0, .int a1] [] h (fun x h2 => T (d + 1) 12 37 ls (rl x [.int s0, .ref s1]) h2 Q) := T_staticR (as := [.ref a0, .int a1]) (r := [.int s0, .ref s1]) m12 m122 c12_34 k1_61 (Or.inr rfl) rfl (by decide) rfl (by simp [wrd, Value.category]) (by simp [stk, Value.category]) rfl
theorem c12_37 : cod 12 37 = some (.iload 6, 2) := cod_of b12 dX1_bestPart_37
theorem t12_37 {d : Nat} {h : Hp} {Q : Pst} {l0 l1 l2 l3 l4 l5 l7 : Value} {x : Int32} {st : List Value} : T d 12 37 [l0, l1, l2, l3, l4, l5, .int x, l7] st h Q ↔ T d 12 39 [l0, l1, l2, l3, l4, l5, .int x, l7] (.int x :: st) h Q := T_iload c12_37 rfl
theorem c12_39 : cod 12 39 = some (.invokevirtual 88, 3) := cod_of b12 dX1_bestPart_39
theorem t12_39 {d : Nat} {h : Hp} {Q : Pst} {a0 a1 a2 : Int32} {a : Nat} {ls : List Value} (ho : isO (h.2.2 a) 1) : T (d + 1) 12 39 ls [.int a2, .int a1, .int a0, .ref a] h Q ↔ T d 13 0 [.ref a, .int a0, .int a1, .int a2, un, un, un, un, un] [] h (fun x h2 => T (d + 1) 12 42 ls (rl x []) h2 Q) := T_virtualR (as := [.int a0, .int a1, .int a2]) (r := []) m12 m13 c12_39 k1_88  rfl (by decide) rfl (by simp [wrd, Value.category]) (by simp [stk, Value.category]) rfl (by decide +kernel) ho
theorem c12_42 : cod 12 42 = some (.istore 7, 2) := cod_of b12 dX1_bestPart_42
theorem t12_42 {d : Nat} {h : Hp} {Q : Pst} {l0 l1 l2 l3 l4 l5 l6 l7 : Value} {x : Int32} {st : List Value} : T d 12 42 [l0, l1, l2, l3, l4, l5, l6, l7] (.int x :: st) h Q ↔ T d 12 44 [l0, l1, l2, l3, l4, l5, kil l6, .int x] st h Q := T_istore c12_42 (Nat.le_of_ble_eq_true rfl)
theorem c12_44 : cod 12 44 = some (.iload 7, 2) := cod_of b12 dX1_bestPart_44
theorem t12_44 {d : Nat} {h : Hp} {Q : Pst} {l0 l1 l2 l3 l4 l5 l6 : Value} {x : Int32} {st : List Value} : T d 12 44 [l0, l1, l2, l3, l4, l5, l6, .int x] st h Q ↔ T d 12 46 [l0, l1, l2, l3, l4, l5, l6, .int x] (.int x :: st) h Q := T_iload c12_44 rfl
theorem c12_46 : cod 12 46 = some (.iload 5, 2) := cod_of b12 dX1_bestPart_46
theorem t12_46 {d : Nat} {h : Hp} {Q : Pst} {l0 l1 l2 l3 l4 l6 l7 : Value} {x : Int32} {st : List Value} : T d 12 46 [l0, l1, l2, l3, l4, .int x, l6, l7] st h Q ↔ T d 12 48 [l0, l1, l2, l3, l4, .int x, l6, l7] (.int x :: st) h Q := T_iload c12_46 rfl
theorem c12_48 : cod 12 48 = some (.if_icmp .ge 11, 3) := cod_of b12 dX1_bestPart_48
theorem t12_48 {d : Nat} {h : Hp} {Q : Pst} {x y : Int32} {ls : List Value} {st : List Value} : T d 12 48 ls (.int y :: .int x :: st) h Q ↔ (if y ≤ x then T d 12 59 ls st h Q else T d 12 51 ls st h Q) := T_icmp_ge c12_48 (by decide)
theorem c12_51 : cod 12 51 = some (.iload 7, 2) := cod_of b12 dX1_bestPart_51
theorem t12_51 {d : Nat} {h : Hp} {Q : Pst} {l0 l1 l2 l3 l4 l5 l6 : Value} {x : Int32} {st : List Value} : T d 12 51 [l0, l1, l2, l3, l4, l5, l6, .int x] st h Q ↔ T d 12 53 [l0, l1, l2, l3, l4, l5, l6, .int x] (.int x :: st) h Q := T_iload c12_51 rfl
theorem c12_53 : cod 12 53 = some (.istore 5, 2) := cod_of b12 dX1_bestPart_53
theorem t12_53 {d : Nat} {h : Hp} {Q : Pst} {l0 l1 l2 l3 l4 l5 l6 l7 : Value} {x : Int32} {st : List Value} : T d 12 53 [l0, l1, l2, l3, l4, l5, l6, l7] (.int x :: st) h Q ↔ T d 12 55 [l0, l1, l2, l3, kil l4, .int x, l6, l7] st h Q := T_istore c12_53 (Nat.le_of_ble_eq_true rfl)
theorem c12_55 : cod 12 55 = some (.iload 6, 2) := cod_of b12 dX1_bestPart_55
theorem t12_55 {d : Nat} {h : Hp} {Q : Pst} {l0 l1 l2 l3 l4 l5 l7 : Value} {x : Int32} {st : List Value} : T d 12 55 [l0, l1, l2, l3, l4, l5, .int x, l7] st h Q ↔ T d 12 57 [l0, l1, l2, l3, l4, l5, .int x, l7] (.int x :: st) h Q := T_iload c12_55 rfl
theorem c12_57 : cod 12 57 = some (.istore 4, 2) := cod_of b12 dX1_bestPart_57
theorem t12_57 {d : Nat} {h : Hp} {Q : Pst} {l0 l1 l2 l3 l4 l5 l6 l7 : Value} {x : Int32} {st : List Value} : T d 12 57 [l0, l1, l2, l3, l4, l5, l6, l7] (.int x :: st) h Q ↔ T d 12 59 [l0, l1, l2, kil l3, .int x, l5, l6, l7] st h Q := T_istore c12_57 (Nat.le_of_ble_eq_true rfl)
theorem c12_59 : cod 12 59 = some (.iinc 6 1, 3) := cod_of b12 dX1_bestPart_59
theorem t12_59 {d : Nat} {h : Hp} {Q : Pst} {l0 l1 l2 l3 l4 l5 l7 : Value} {x : Int32} {st : List Value} : T d 12 59 [l0, l1, l2, l3, l4, l5, .int x, l7] st h Q ↔ T d 12 62 [l0, l1, l2, l3, l4, kil l5, .int (x + 1), l7] st h Q := T_iincV c12_59 rfl (Nat.le_of_ble_eq_true rfl) (by decide) rfl
theorem c12_62 : cod 12 62 = some (.goto (-45), 3) := cod_of b12 dX1_bestPart_62
theorem t12_62 {d : Nat} {h : Hp} {Q : Pst} {ls : List Value} {st : List Value} : T d 12 62 ls st h Q ↔ T d 12 17 ls st h Q := T_goto c12_62 (by decide)
theorem c12_65 : cod 12 65 = some (.iload 4, 2) := cod_of b12 dX1_bestPart_65
theorem t12_65 {d : Nat} {h : Hp} {Q : Pst} {l0 l1 l2 l3 l5 l6 l7 : Value} {x : Int32} {st : List Value} : T d 12 65 [l0, l1, l2, l3, .int x, l5, l6, l7] st h Q ↔ T d 12 67 [l0, l1, l2, l3, .int x, l5, l6, l7] (.int x :: st) h Q := T_iload c12_65 rfl
theorem c12_67 : cod 12 67 = some (.ireturn, 1) := cod_of b12 dX1_bestPart_67
theorem t12_67 {d : Nat} {h : Hp} {Q : Pst} {x : Int32} {ls : List Value} : T d 12 67 ls [.int x] h Q ↔ Q (some (.int x)) h := T_iretR m12 c12_67 rfl
theorem b13 : (mR 13).2.2.1 = cX1_mostAlike := by rw [m13]
theorem c13_0 : cod 13 0 = some (.iconst 0, 1) := cod_of b13 dX1_mostAlike_0
theorem t13_0 {d : Nat} {h : Hp} {Q : Pst} {ls : List Value} {st : List Value} : T d 13 0 ls st h Q ↔ T d 13 1 ls (.int 0 :: st) h Q := T_iconstV c13_0 (by decide)
theorem c13_1 : cod 13 1 = some (.istore 4, 2) := cod_of b13 dX1_mostAlike_1
theorem t13_1 {d : Nat} {h : Hp} {Q : Pst} {l0 l1 l2 l3 l4 l5 l6 l7 l8 : Value} {x : Int32} {st : List Value} : T d 13 1 [l0, l1, l2, l3, l4, l5, l6, l7, l8] (.int x :: st) h Q ↔ T d 13 3 [l0, l1, l2, kil l3, .int x, l5, l6, l7, l8] st h Q := T_istore c13_1 (Nat.le_of_ble_eq_true rfl)
theorem c13_3 : cod 13 3 = some (.iconst 0, 1) := cod_of b13 dX1_mostAlike_3
theorem t13_3 {d : Nat} {h : Hp} {Q : Pst} {ls : List Value} {st : List Value} : T d 13 3 ls st h Q ↔ T d 13 4 ls (.int 0 :: st) h Q := T_iconstV c13_3 (by decide)
theorem c13_4 : cod 13 4 = some (.istore 5, 2) := cod_of b13 dX1_mostAlike_4
theorem t13_4 {d : Nat} {h : Hp} {Q : Pst} {l0 l1 l2 l3 l4 l5 l6 l7 l8 : Value} {x : Int32} {st : List Value} : T d 13 4 [l0, l1, l2, l3, l4, l5, l6, l7, l8] (.int x :: st) h Q ↔ T d 13 6 [l0, l1, l2, l3, kil l4, .int x, l6, l7, l8] st h Q := T_istore c13_4 (Nat.le_of_ble_eq_true rfl)
theorem c13_6 : cod 13 6 = some (.iload 5, 2) := cod_of b13 dX1_mostAlike_6
theorem t13_6 {d : Nat} {h : Hp} {Q : Pst} {l0 l1 l2 l3 l4 l6 l7 l8 : Value} {x : Int32} {st : List Value} : T d 13 6 [l0, l1, l2, l3, l4, .int x, l6, l7, l8] st h Q ↔ T d 13 8 [l0, l1, l2, l3, l4, .int x, l6, l7, l8] (.int x :: st) h Q := T_iload c13_6 rfl
theorem c13_8 : cod 13 8 = some (.bipush 6, 2) := cod_of b13 dX1_mostAlike_8
theorem t13_8 {d : Nat} {h : Hp} {Q : Pst} {ls : List Value} {st : List Value} : T d 13 8 ls st h Q ↔ T d 13 10 ls (.int 6 :: st) h Q := T_bipushV c13_8 (by decide)
theorem c13_10 : cod 13 10 = some (.if_icmp .ge 87, 3) := cod_of b13 dX1_mostAlike_10
theorem t13_10 {d : Nat} {h : Hp} {Q : Pst} {x y : Int32} {ls : List Value} {st : List Value} : T d 13 10 ls (.int y :: .int x :: st) h Q ↔ (if y ≤ x then T d 13 97 ls st h Q else T d 13 13 ls st h Q) := T_icmp_ge c13_10 (by decide)
theorem c13_13 : cod 13 13 = some (.iconst 0, 1) := cod_of b13 dX1_mostAlike_13
theorem t13_13 {d : Nat} {h : Hp} {Q : Pst} {ls : List Value} {st : List Value} : T d 13 13 ls st h Q ↔ T d 13 14 ls (.int 0 :: st) h Q := T_iconstV c13_13 (by decide)
theorem c13_14 : cod 13 14 = some (.istore 6, 2) := cod_of b13 dX1_mostAlike_14
theorem t13_14 {d : Nat} {h : Hp} {Q : Pst} {l0 l1 l2 l3 l4 l5 l6 l7 l8 : Value} {x : Int32} {st : List Value} : T d 13 14 [l0, l1, l2, l3, l4, l5, l6, l7, l8] (.int x :: st) h Q ↔ T d 13 16 [l0, l1, l2, l3, l4, kil l5, .int x, l7, l8] st h Q := T_istore c13_14 (Nat.le_of_ble_eq_true rfl)
theorem c13_16 : cod 13 16 = some (.iconst 0, 1) := cod_of b13 dX1_mostAlike_16
theorem t13_16 {d : Nat} {h : Hp} {Q : Pst} {ls : List Value} {st : List Value} : T d 13 16 ls st h Q ↔ T d 13 17 ls (.int 0 :: st) h Q := T_iconstV c13_16 (by decide)
theorem c13_17 : cod 13 17 = some (.istore 7, 2) := cod_of b13 dX1_mostAlike_17
theorem t13_17 {d : Nat} {h : Hp} {Q : Pst} {l0 l1 l2 l3 l4 l5 l6 l7 l8 : Value} {x : Int32} {st : List Value} : T d 13 17 [l0, l1, l2, l3, l4, l5, l6, l7, l8] (.int x :: st) h Q ↔ T d 13 19 [l0, l1, l2, l3, l4, l5, kil l6, .int x, l8] st h Q := T_istore c13_17 (Nat.le_of_ble_eq_true rfl)
theorem c13_19 : cod 13 19 = some (.iload_n 1, 1) := cod_of b13 dX1_mostAlike_19
theorem t13_19 {d : Nat} {h : Hp} {Q : Pst} {l0 l2 l3 l4 l5 l6 l7 l8 : Value} {x : Int32} {st : List Value} : T d 13 19 [l0, .int x, l2, l3, l4, l5, l6, l7, l8] st h Q ↔ T d 13 20 [l0, .int x, l2, l3, l4, l5, l6, l7, l8] (.int x :: st) h Q := T_iload_n c13_19 rfl
theorem c13_20 : cod 13 20 = some (.iload 5, 2) := cod_of b13 dX1_mostAlike_20
theorem t13_20 {d : Nat} {h : Hp} {Q : Pst} {l0 l1 l2 l3 l4 l6 l7 l8 : Value} {x : Int32} {st : List Value} : T d 13 20 [l0, l1, l2, l3, l4, .int x, l6, l7, l8] st h Q ↔ T d 13 22 [l0, l1, l2, l3, l4, .int x, l6, l7, l8] (.int x :: st) h Q := T_iload c13_20 rfl
theorem c13_22 : cod 13 22 = some (.invokestatic 54, 3) := cod_of b13 dX1_mostAlike_22
theorem t13_22 {d : Nat} {h : Hp} {Q : Pst} {a0 a1 : Int32} {ls : List Value} : T (d + 1) 13 22 ls [.int a1, .int a0] h Q ↔ T d 119 0 [.int a0, .int a1] [] h (fun x h2 => T (d + 1) 13 25 ls (rl x []) h2 Q) := T_staticR (as := [.int a0, .int a1]) (r := []) m13 m119 c13_22 k1_54 (Or.inr rfl) rfl (by decide) rfl (by simp [wrd, Value.category]) (by simp [stk, Value.category]) rfl
theorem c13_25 : cod 13 25 = some (.ifCond .eq 57, 3) := cod_of b13 dX1_mostAlike_25
theorem t13_25 {d : Nat} {h : Hp} {Q : Pst} {x : Int32} {ls : List Value} {st : List Value} : T d 13 25 ls (.int x :: st) h Q ↔ (if x = 0 then T d 13 82 ls st h Q else T d 13 28 ls st h Q) := T_if_eq c13_25 (by decide)
theorem c13_28 : cod 13 28 = some (.iload 7, 2) := cod_of b13 dX1_mostAlike_28
theorem t13_28 {d : Nat} {h : Hp} {Q : Pst} {l0 l1 l2 l3 l4 l5 l6 l8 : Value} {x : Int32} {st : List Value} : T d 13 28 [l0, l1, l2, l3, l4, l5, l6, .int x, l8] st h Q ↔ T d 13 30 [l0, l1, l2, l3, l4, l5, l6, .int x, l8] (.int x :: st) h Q := T_iload c13_28 rfl
theorem c13_30 : cod 13 30 = some (.bipush 6, 2) := cod_of b13 dX1_mostAlike_30
theorem t13_30 {d : Nat} {h : Hp} {Q : Pst} {ls : List Value} {st : List Value} : T d 13 30 ls st h Q ↔ T d 13 32 ls (.int 6 :: st) h Q := T_bipushV c13_30 (by decide)
theorem c13_32 : cod 13 32 = some (.if_icmp .ge 50, 3) := cod_of b13 dX1_mostAlike_32
theorem t13_32 {d : Nat} {h : Hp} {Q : Pst} {x y : Int32} {ls : List Value} {st : List Value} : T d 13 32 ls (.int y :: .int x :: st) h Q ↔ (if y ≤ x then T d 13 82 ls st h Q else T d 13 35 ls st h Q) := T_icmp_ge c13_32 (by decide)
theorem c13_35 : cod 13 35 = some (.iload 5, 2) := cod_of b13 dX1_mostAlike_35
theorem t13_35 {d : Nat} {h : Hp} {Q : Pst} {l0 l1 l2 l3 l4 l6 l7 l8 : Value} {x : Int32} {st : List Value} : T d 13 35 [l0, l1, l2, l3, l4, .int x, l6, l7, l8] st h Q ↔ T d 13 37 [l0, l1, l2, l3, l4, .int x, l6, l7, l8] (.int x :: st) h Q := T_iload c13_35 rfl
theorem c13_37 : cod 13 37 = some (.iload_n 2, 1) := cod_of b13 dX1_mostAlike_37
theorem t13_37 {d : Nat} {h : Hp} {Q : Pst} {l0 l1 l3 l4 l5 l6 l7 l8 : Value} {x : Int32} {st : List Value} : T d 13 37 [l0, l1, .int x, l3, l4, l5, l6, l7, l8] st h Q ↔ T d 13 38 [l0, l1, .int x, l3, l4, l5, l6, l7, l8] (.int x :: st) h Q := T_iload_n c13_37 rfl
theorem c13_38 : cod 13 38 = some (.iload_n 3, 1) := cod_of b13 dX1_mostAlike_38
theorem t13_38 {d : Nat} {h : Hp} {Q : Pst} {l0 l1 l2 l4 l5 l6 l7 l8 : Value} {x : Int32} {st : List Value} : T d 13 38 [l0, l1, l2, .int x, l4, l5, l6, l7, l8] st h Q ↔ T d 13 39 [l0, l1, l2, .int x, l4, l5, l6, l7, l8] (.int x :: st) h Q := T_iload_n c13_38 rfl
theorem c13_39 : cod 13 39 = some (.invokestatic 76, 3) := cod_of b13 dX1_mostAlike_39
theorem t13_39 {d : Nat} {h : Hp} {Q : Pst} {a0 a1 a2 : Int32} {ls : List Value} : T (d + 1) 13 39 ls [.int a2, .int a1, .int a0] h Q ↔ T d 49 0 [.int a0, .int a1, .int a2, un, un, un] [] h (fun x h2 => T (d + 1) 13 42 ls (rl x []) h2 Q) := T_staticR (as := [.int a0, .int a1, .int a2]) (r := []) m13 m49 c13_39 k1_76 (Or.inl rfl) rfl (by decide) rfl (by simp [wrd, Value.category]) (by simp [stk, Value.category]) rfl
theorem c13_42 : cod 13 42 = some (.iload 7, 2) := cod_of b13 dX1_mostAlike_42
theorem t13_42 {d : Nat} {h : Hp} {Q : Pst} {l0 l1 l2 l3 l4 l5 l6 l8 : Value} {x : Int32} {st : List Value} : T d 13 42 [l0, l1, l2, l3, l4, l5, l6, .int x, l8] st h Q ↔ T d 13 44 [l0, l1, l2, l3, l4, l5, l6, .int x, l8] (.int x :: st) h Q := T_iload c13_42 rfl
theorem c13_44 : cod 13 44 = some (.iload_n 2, 1) := cod_of b13 dX1_mostAlike_44
theorem t13_44 {d : Nat} {h : Hp} {Q : Pst} {l0 l1 l3 l4 l5 l6 l7 l8 : Value} {x : Int32} {st : List Value} : T d 13 44 [l0, l1, .int x, l3, l4, l5, l6, l7, l8] st h Q ↔ T d 13 45 [l0, l1, .int x, l3, l4, l5, l6, l7, l8] (.int x :: st) h Q := T_iload_n c13_44 rfl
theorem c13_45 : cod 13 45 = some (.iload_n 3, 1) := cod_of b13 dX1_mostAlike_45
theorem t13_45 {d : Nat} {h : Hp} {Q : Pst} {l0 l1 l2 l4 l5 l6 l7 l8 : Value} {x : Int32} {st : List Value} : T d 13 45 [l0, l1, l2, .int x, l4, l5, l6, l7, l8] st h Q ↔ T d 13 46 [l0, l1, l2, .int x, l4, l5, l6, l7, l8] (.int x :: st) h Q := T_iload_n c13_45 rfl
theorem c13_46 : cod 13 46 = some (.invokestatic 76, 3) := cod_of b13 dX1_mostAlike_46
theorem t13_46 {d : Nat} {h : Hp} {Q : Pst} {a0 a1 a2 s0 : Int32} {ls : List Value} : T (d + 1) 13 46 ls [.int a2, .int a1, .int a0, .int s0] h Q ↔ T d 49 0 [.int a0, .int a1, .int a2, un, un, un] [] h (fun x h2 => T (d + 1) 13 49 ls (rl x [.int s0]) h2 Q) := T_staticR (as := [.int a0, .int a1, .int a2]) (r := [.int s0]) m13 m49 c13_46 k1_76 (Or.inl rfl) rfl (by decide) rfl (by simp [wrd, Value.category]) (by simp [stk, Value.category]) rfl
theorem c13_49 : cod 13 49 = some (.if_icmp .ne 7, 3) := cod_of b13 dX1_mostAlike_49
theorem t13_49 {d : Nat} {h : Hp} {Q : Pst} {x y : Int32} {ls : List Value} {st : List Value} : T d 13 49 ls (.int y :: .int x :: st) h Q ↔ (if ¬ x = y then T d 13 56 ls st h Q else T d 13 52 ls st h Q) := T_icmp_ne c13_49 (by decide)
theorem c13_52 : cod 13 52 = some (.iconst 1, 1) := cod_of b13 dX1_mostAlike_52
theorem t13_52 {d : Nat} {h : Hp} {Q : Pst} {ls : List Value} {st : List Value} : T d 13 52 ls st h Q ↔ T d 13 53 ls (.int 1 :: st) h Q := T_iconstV c13_52 (by decide)
theorem c13_53 : cod 13 53 = some (.goto 4, 3) := cod_of b13 dX1_mostAlike_53
theorem t13_53 {d : Nat} {h : Hp} {Q : Pst} {ls : List Value} {st : List Value} : T d 13 53 ls st h Q ↔ T d 13 57 ls st h Q := T_goto c13_53 (by decide)
theorem c13_57 : cod 13 57 = some (.istore 8, 2) := cod_of b13 dX1_mostAlike_57
theorem t13_57 {d : Nat} {h : Hp} {Q : Pst} {l0 l1 l2 l3 l4 l5 l6 l7 l8 : Value} {x : Int32} {st : List Value} : T d 13 57 [l0, l1, l2, l3, l4, l5, l6, l7, l8] (.int x :: st) h Q ↔ T d 13 59 [l0, l1, l2, l3, l4, l5, l6, kil l7, .int x] st h Q := T_istore c13_57 (Nat.le_of_ble_eq_true rfl)
theorem c13_59 : cod 13 59 = some (.iload_n 1, 1) := cod_of b13 dX1_mostAlike_59
theorem t13_59 {d : Nat} {h : Hp} {Q : Pst} {l0 l2 l3 l4 l5 l6 l7 l8 : Value} {x : Int32} {st : List Value} : T d 13 59 [l0, .int x, l2, l3, l4, l5, l6, l7, l8] st h Q ↔ T d 13 60 [l0, .int x, l2, l3, l4, l5, l6, l7, l8] (.int x :: st) h Q := T_iload_n c13_59 rfl
theorem c13_60 : cod 13 60 = some (.iload 7, 2) := cod_of b13 dX1_mostAlike_60
theorem t13_60 {d : Nat} {h : Hp} {Q : Pst} {l0 l1 l2 l3 l4 l5 l6 l8 : Value} {x : Int32} {st : List Value} : T d 13 60 [l0, l1, l2, l3, l4, l5, l6, .int x, l8] st h Q ↔ T d 13 62 [l0, l1, l2, l3, l4, l5, l6, .int x, l8] (.int x :: st) h Q := T_iload c13_60 rfl
theorem c13_62 : cod 13 62 = some (.invokestatic 54, 3) := cod_of b13 dX1_mostAlike_62
theorem t13_62 {d : Nat} {h : Hp} {Q : Pst} {a0 a1 : Int32} {ls : List Value} : T (d + 1) 13 62 ls [.int a1, .int a0] h Q ↔ T d 119 0 [.int a0, .int a1] [] h (fun x h2 => T (d + 1) 13 65 ls (rl x []) h2 Q) := T_staticR (as := [.int a0, .int a1]) (r := []) m13 m119 c13_62 k1_54 (Or.inr rfl) rfl (by decide) rfl (by simp [wrd, Value.category]) (by simp [stk, Value.category]) rfl
theorem c13_65 : cod 13 65 = some (.ifCond .eq 11, 3) := cod_of b13 dX1_mostAlike_65
theorem t13_65 {d : Nat} {h : Hp} {Q : Pst} {x : Int32} {ls : List Value} {st : List Value} : T d 13 65 ls (.int x :: st) h Q ↔ (if x = 0 then T d 13 76 ls st h Q else T d 13 68 ls st h Q) := T_if_eq c13_65 (by decide)
theorem c13_68 : cod 13 68 = some (.iload 8, 2) := cod_of b13 dX1_mostAlike_68
theorem t13_68 {d : Nat} {h : Hp} {Q : Pst} {l0 l1 l2 l3 l4 l5 l6 l7 : Value} {x : Int32} {st : List Value} : T d 13 68 [l0, l1, l2, l3, l4, l5, l6, l7, .int x] st h Q ↔ T d 13 70 [l0, l1, l2, l3, l4, l5, l6, l7, .int x] (.int x :: st) h Q := T_iload c13_68 rfl
theorem c13_70 : cod 13 70 = some (.ifCond .eq 6, 3) := cod_of b13 dX1_mostAlike_70
theorem t13_70 {d : Nat} {h : Hp} {Q : Pst} {x : Int32} {ls : List Value} {st : List Value} : T d 13 70 ls (.int x :: st) h Q ↔ (if x = 0 then T d 13 76 ls st h Q else T d 13 73 ls st h Q) := T_if_eq c13_70 (by decide)
theorem c13_73 : cod 13 73 = some (.iinc 6 1, 3) := cod_of b13 dX1_mostAlike_73
theorem t13_73 {d : Nat} {h : Hp} {Q : Pst} {l0 l1 l2 l3 l4 l5 l7 l8 : Value} {x : Int32} {st : List Value} : T d 13 73 [l0, l1, l2, l3, l4, l5, .int x, l7, l8] st h Q ↔ T d 13 76 [l0, l1, l2, l3, l4, kil l5, .int (x + 1), l7, l8] st h Q := T_iincV c13_73 rfl (Nat.le_of_ble_eq_true rfl) (by decide) rfl
theorem c13_76 : cod 13 76 = some (.iinc 7 1, 3) := cod_of b13 dX1_mostAlike_76
theorem t13_76 {d : Nat} {h : Hp} {Q : Pst} {l0 l1 l2 l3 l4 l5 l6 l8 : Value} {x : Int32} {st : List Value} : T d 13 76 [l0, l1, l2, l3, l4, l5, l6, .int x, l8] st h Q ↔ T d 13 79 [l0, l1, l2, l3, l4, l5, kil l6, .int (x + 1), l8] st h Q := T_iincV c13_76 rfl (Nat.le_of_ble_eq_true rfl) (by decide) rfl
theorem c13_79 : cod 13 79 = some (.goto (-60), 3) := cod_of b13 dX1_mostAlike_79
theorem t13_79 {d : Nat} {h : Hp} {Q : Pst} {ls : List Value} {st : List Value} : T d 13 79 ls st h Q ↔ T d 13 19 ls st h Q := T_goto c13_79 (by decide)
theorem c13_56 : cod 13 56 = some (.iconst 0, 1) := cod_of b13 dX1_mostAlike_56
theorem t13_56 {d : Nat} {h : Hp} {Q : Pst} {ls : List Value} {st : List Value} : T d 13 56 ls st h Q ↔ T d 13 57 ls (.int 0 :: st) h Q := T_iconstV c13_56 (by decide)
theorem c13_82 : cod 13 82 = some (.iload 4, 2) := cod_of b13 dX1_mostAlike_82
theorem t13_82 {d : Nat} {h : Hp} {Q : Pst} {l0 l1 l2 l3 l5 l6 l7 l8 : Value} {x : Int32} {st : List Value} : T d 13 82 [l0, l1, l2, l3, .int x, l5, l6, l7, l8] st h Q ↔ T d 13 84 [l0, l1, l2, l3, .int x, l5, l6, l7, l8] (.int x :: st) h Q := T_iload c13_82 rfl
theorem c13_84 : cod 13 84 = some (.iload 6, 2) := cod_of b13 dX1_mostAlike_84
theorem t13_84 {d : Nat} {h : Hp} {Q : Pst} {l0 l1 l2 l3 l4 l5 l7 l8 : Value} {x : Int32} {st : List Value} : T d 13 84 [l0, l1, l2, l3, l4, l5, .int x, l7, l8] st h Q ↔ T d 13 86 [l0, l1, l2, l3, l4, l5, .int x, l7, l8] (.int x :: st) h Q := T_iload c13_84 rfl
theorem c13_86 : cod 13 86 = some (.invokestatic 65, 3) := cod_of b13 dX1_mostAlike_86
theorem t13_86 {d : Nat} {h : Hp} {Q : Pst} {x y : Int32} {ls : List Value} : T (d + 1) 13 86 ls [.int y, .int x] h Q ↔ T (d + 1) 13 89 ls [.int (if x < y then y else x)] h Q := T_maxR m13 c13_86 k1_65 (by simp [stk, Value.category])
theorem c13_89 : cod 13 89 = some (.istore 4, 2) := cod_of b13 dX1_mostAlike_89
theorem t13_89 {d : Nat} {h : Hp} {Q : Pst} {l0 l1 l2 l3 l4 l5 l6 l7 l8 : Value} {x : Int32} {st : List Value} : T d 13 89 [l0, l1, l2, l3, l4, l5, l6, l7, l8] (.int x :: st) h Q ↔ T d 13 91 [l0, l1, l2, kil l3, .int x, l5, l6, l7, l8] st h Q := T_istore c13_89 (Nat.le_of_ble_eq_true rfl)
theorem c13_91 : cod 13 91 = some (.iinc 5 1, 3) := cod_of b13 dX1_mostAlike_91
theorem t13_91 {d : Nat} {h : Hp} {Q : Pst} {l0 l1 l2 l3 l4 l6 l7 l8 : Value} {x : Int32} {st : List Value} : T d 13 91 [l0, l1, l2, l3, l4, .int x, l6, l7, l8] st h Q ↔ T d 13 94 [l0, l1, l2, l3, kil l4, .int (x + 1), l6, l7, l8] st h Q := T_iincV c13_91 rfl (Nat.le_of_ble_eq_true rfl) (by decide) rfl
theorem c13_94 : cod 13 94 = some (.goto (-88), 3) := cod_of b13 dX1_mostAlike_94
theorem t13_94 {d : Nat} {h : Hp} {Q : Pst} {ls : List Value} {st : List Value} : T d 13 94 ls st h Q ↔ T d 13 6 ls st h Q := T_goto c13_94 (by decide)
theorem c13_97 : cod 13 97 = some (.iload 4, 2) := cod_of b13 dX1_mostAlike_97
theorem t13_97 {d : Nat} {h : Hp} {Q : Pst} {l0 l1 l2 l3 l5 l6 l7 l8 : Value} {x : Int32} {st : List Value} : T d 13 97 [l0, l1, l2, l3, .int x, l5, l6, l7, l8] st h Q ↔ T d 13 99 [l0, l1, l2, l3, .int x, l5, l6, l7, l8] (.int x :: st) h Q := T_iload c13_97 rfl
theorem c13_99 : cod 13 99 = some (.ireturn, 1) := cod_of b13 dX1_mostAlike_99
theorem t13_99 {d : Nat} {h : Hp} {Q : Pst} {x : Int32} {ls : List Value} : T d 13 99 ls [.int x] h Q ↔ Q (some (.int x)) h := T_iretR m13 c13_99 rfl
theorem b14 : (mR 14).2.2.1 = cX1_sieveKindBits := by rw [m14]
theorem c14_0 : cod 14 0 = some (.iconst 0, 1) := cod_of b14 dX1_sieveKindBits_0
theorem t14_0 {d : Nat} {h : Hp} {Q : Pst} {ls : List Value} {st : List Value} : T d 14 0 ls st h Q ↔ T d 14 1 ls (.int 0 :: st) h Q := T_iconstV c14_0 (by decide)
theorem c14_1 : cod 14 1 = some (.istore_n 3, 1) := cod_of b14 dX1_sieveKindBits_1
theorem t14_1 {d : Nat} {h : Hp} {Q : Pst} {l0 l1 l2 l3 l4 : Value} {x : Int32} {st : List Value} : T d 14 1 [l0, l1, l2, l3, l4] (.int x :: st) h Q ↔ T d 14 2 [l0, l1, kil l2, .int x, l4] st h Q := T_istore_n c14_1 (Nat.le_of_ble_eq_true rfl)
theorem c14_2 : cod 14 2 = some (.iconst 0, 1) := cod_of b14 dX1_sieveKindBits_2
theorem t14_2 {d : Nat} {h : Hp} {Q : Pst} {ls : List Value} {st : List Value} : T d 14 2 ls st h Q ↔ T d 14 3 ls (.int 0 :: st) h Q := T_iconstV c14_2 (by decide)
theorem c14_3 : cod 14 3 = some (.istore 4, 2) := cod_of b14 dX1_sieveKindBits_3
theorem t14_3 {d : Nat} {h : Hp} {Q : Pst} {l0 l1 l2 l3 l4 : Value} {x : Int32} {st : List Value} : T d 14 3 [l0, l1, l2, l3, l4] (.int x :: st) h Q ↔ T d 14 5 [l0, l1, l2, kil l3, .int x] st h Q := T_istore c14_3 (Nat.le_of_ble_eq_true rfl)
theorem c14_5 : cod 14 5 = some (.iload 4, 2) := cod_of b14 dX1_sieveKindBits_5
theorem t14_5 {d : Nat} {h : Hp} {Q : Pst} {l0 l1 l2 l3 : Value} {x : Int32} {st : List Value} : T d 14 5 [l0, l1, l2, l3, .int x] st h Q ↔ T d 14 7 [l0, l1, l2, l3, .int x] (.int x :: st) h Q := T_iload c14_5 rfl
theorem c14_7 : cod 14 7 = some (.bipush 6, 2) := cod_of b14 dX1_sieveKindBits_7
theorem t14_7 {d : Nat} {h : Hp} {Q : Pst} {ls : List Value} {st : List Value} : T d 14 7 ls st h Q ↔ T d 14 9 ls (.int 6 :: st) h Q := T_bipushV c14_7 (by decide)
theorem c14_9 : cod 14 9 = some (.if_icmp .ge 27, 3) := cod_of b14 dX1_sieveKindBits_9
theorem t14_9 {d : Nat} {h : Hp} {Q : Pst} {x y : Int32} {ls : List Value} {st : List Value} : T d 14 9 ls (.int y :: .int x :: st) h Q ↔ (if y ≤ x then T d 14 36 ls st h Q else T d 14 12 ls st h Q) := T_icmp_ge c14_9 (by decide)
theorem c14_12 : cod 14 12 = some (.aload_n 0, 1) := cod_of b14 dX1_sieveKindBits_12
theorem t14_12 {d : Nat} {h : Hp} {Q : Pst} {l1 l2 l3 l4 : Value} {x : Nat} {st : List Value} : T d 14 12 [.ref x, l1, l2, l3, l4] st h Q ↔ T d 14 13 [.ref x, l1, l2, l3, l4] (.ref x :: st) h Q := T_aload_n c14_12 rfl
theorem c14_13 : cod 14 13 = some (.aload_n 1, 1) := cod_of b14 dX1_sieveKindBits_13
theorem t14_13 {d : Nat} {h : Hp} {Q : Pst} {l0 l2 l3 l4 : Value} {x : Nat} {st : List Value} : T d 14 13 [l0, .ref x, l2, l3, l4] st h Q ↔ T d 14 14 [l0, .ref x, l2, l3, l4] (.ref x :: st) h Q := T_aload_n c14_13 rfl
theorem c14_14 : cod 14 14 = some (.iload_n 2, 1) := cod_of b14 dX1_sieveKindBits_14
theorem t14_14 {d : Nat} {h : Hp} {Q : Pst} {l0 l1 l3 l4 : Value} {x : Int32} {st : List Value} : T d 14 14 [l0, l1, .int x, l3, l4] st h Q ↔ T d 14 15 [l0, l1, .int x, l3, l4] (.int x :: st) h Q := T_iload_n c14_14 rfl
theorem c14_15 : cod 14 15 = some (.iload 4, 2) := cod_of b14 dX1_sieveKindBits_15
theorem t14_15 {d : Nat} {h : Hp} {Q : Pst} {l0 l1 l2 l3 : Value} {x : Int32} {st : List Value} : T d 14 15 [l0, l1, l2, l3, .int x] st h Q ↔ T d 14 17 [l0, l1, l2, l3, .int x] (.int x :: st) h Q := T_iload c14_15 rfl
theorem c14_17 : cod 14 17 = some (.invokevirtual 91, 3) := cod_of b14 dX1_sieveKindBits_17
theorem t14_17 {d : Nat} {h : Hp} {Q : Pst} {a0 a : Nat} {a1 a2 : Int32} {ls : List Value} (ho : isO (h.2.2 a) 1) : T (d + 1) 14 17 ls [.int a2, .int a1, .ref a0, .ref a] h Q ↔ T d 15 0 [.ref a, .ref a0, .int a1, .int a2, un, un, un, un] [] h (fun x h2 => T (d + 1) 14 20 ls (rl x []) h2 Q) := T_virtualR (as := [.ref a0, .int a1, .int a2]) (r := []) m14 m15 c14_17 k1_91  rfl (by decide) rfl (by simp [wrd, Value.category]) (by simp [stk, Value.category]) rfl (by decide +kernel) ho
theorem c14_20 : cod 14 20 = some (.ifCond .eq 10, 3) := cod_of b14 dX1_sieveKindBits_20
theorem t14_20 {d : Nat} {h : Hp} {Q : Pst} {x : Int32} {ls : List Value} {st : List Value} : T d 14 20 ls (.int x :: st) h Q ↔ (if x = 0 then T d 14 30 ls st h Q else T d 14 23 ls st h Q) := T_if_eq c14_20 (by decide)
theorem c14_23 : cod 14 23 = some (.iload_n 3, 1) := cod_of b14 dX1_sieveKindBits_23
theorem t14_23 {d : Nat} {h : Hp} {Q : Pst} {l0 l1 l2 l4 : Value} {x : Int32} {st : List Value} : T d 14 23 [l0, l1, l2, .int x, l4] st h Q ↔ T d 14 24 [l0, l1, l2, .int x, l4] (.int x :: st) h Q := T_iload_n c14_23 rfl
theorem c14_24 : cod 14 24 = some (.iconst 1, 1) := cod_of b14 dX1_sieveKindBits_24
theorem t14_24 {d : Nat} {h : Hp} {Q : Pst} {ls : List Value} {st : List Value} : T d 14 24 ls st h Q ↔ T d 14 25 ls (.int 1 :: st) h Q := T_iconstV c14_24 (by decide)
theorem c14_25 : cod 14 25 = some (.iload 4, 2) := cod_of b14 dX1_sieveKindBits_25
theorem t14_25 {d : Nat} {h : Hp} {Q : Pst} {l0 l1 l2 l3 : Value} {x : Int32} {st : List Value} : T d 14 25 [l0, l1, l2, l3, .int x] st h Q ↔ T d 14 27 [l0, l1, l2, l3, .int x] (.int x :: st) h Q := T_iload c14_25 rfl
theorem c14_27 : cod 14 27 = some (.ishl, 1) := cod_of b14 dX1_sieveKindBits_27
theorem t14_27 {d : Nat} {h : Hp} {Q : Pst} {x y : Int32} {ls : List Value} {st : List Value} : T d 14 27 ls (.int y :: .int x :: st) h Q ↔ T d 14 28 ls (.int (x <<< (y &&& 31)) :: st) h Q := T_ishl c14_27
theorem c14_28 : cod 14 28 = some (.ior, 1) := cod_of b14 dX1_sieveKindBits_28
theorem t14_28 {d : Nat} {h : Hp} {Q : Pst} {x y : Int32} {ls : List Value} {st : List Value} : T d 14 28 ls (.int y :: .int x :: st) h Q ↔ T d 14 29 ls (.int (x ||| y) :: st) h Q := T_ior c14_28
theorem c14_29 : cod 14 29 = some (.istore_n 3, 1) := cod_of b14 dX1_sieveKindBits_29
theorem t14_29 {d : Nat} {h : Hp} {Q : Pst} {l0 l1 l2 l3 l4 : Value} {x : Int32} {st : List Value} : T d 14 29 [l0, l1, l2, l3, l4] (.int x :: st) h Q ↔ T d 14 30 [l0, l1, kil l2, .int x, l4] st h Q := T_istore_n c14_29 (Nat.le_of_ble_eq_true rfl)
theorem c14_30 : cod 14 30 = some (.iinc 4 1, 3) := cod_of b14 dX1_sieveKindBits_30
theorem t14_30 {d : Nat} {h : Hp} {Q : Pst} {l0 l1 l2 l3 : Value} {x : Int32} {st : List Value} : T d 14 30 [l0, l1, l2, l3, .int x] st h Q ↔ T d 14 33 [l0, l1, l2, kil l3, .int (x + 1)] st h Q := T_iincV c14_30 rfl (Nat.le_of_ble_eq_true rfl) (by decide) rfl
theorem c14_33 : cod 14 33 = some (.goto (-28), 3) := cod_of b14 dX1_sieveKindBits_33
theorem t14_33 {d : Nat} {h : Hp} {Q : Pst} {ls : List Value} {st : List Value} : T d 14 33 ls st h Q ↔ T d 14 5 ls st h Q := T_goto c14_33 (by decide)
theorem c14_36 : cod 14 36 = some (.iload_n 3, 1) := cod_of b14 dX1_sieveKindBits_36
theorem t14_36 {d : Nat} {h : Hp} {Q : Pst} {l0 l1 l2 l4 : Value} {x : Int32} {st : List Value} : T d 14 36 [l0, l1, l2, .int x, l4] st h Q ↔ T d 14 37 [l0, l1, l2, .int x, l4] (.int x :: st) h Q := T_iload_n c14_36 rfl
theorem c14_37 : cod 14 37 = some (.ireturn, 1) := cod_of b14 dX1_sieveKindBits_37
theorem t14_37 {d : Nat} {h : Hp} {Q : Pst} {x : Int32} {ls : List Value} : T d 14 37 ls [.int x] h Q ↔ Q (some (.int x)) h := T_iretR m14 c14_37 rfl
theorem b15 : (mR 15).2.2.1 = cX1_sieveKindFits := by rw [m15]
theorem c15_0 : cod 15 0 = some (.aload_n 1, 1) := cod_of b15 dX1_sieveKindFits_0
theorem t15_0 {d : Nat} {h : Hp} {Q : Pst} {l0 l2 l3 l4 l5 l6 l7 : Value} {x : Nat} {st : List Value} : T d 15 0 [l0, .ref x, l2, l3, l4, l5, l6, l7] st h Q ↔ T d 15 1 [l0, .ref x, l2, l3, l4, l5, l6, l7] (.ref x :: st) h Q := T_aload_n c15_0 rfl
theorem c15_1 : cod 15 1 = some (.getfield 94, 3) := cod_of b15 dX1_sieveKindFits_1
theorem t15_1 {d : Nat} {h : Hp} {Q : Pst} {a : Nat} {ls : List Value} {st : List Value} : T d 15 1 ls (.ref a :: st) h Q ↔ gF (h.2.2 a) 5 8 (fun v => T d 15 4 ls (v :: st) h Q) := T_getfieldR m15 c15_1 f1_94
theorem c15_4 : cod 15 4 = some (.astore 4, 2) := cod_of b15 dX1_sieveKindFits_4
theorem t15_4 {d : Nat} {h : Hp} {Q : Pst} {l0 l1 l2 l3 l4 l5 l6 l7 : Value} {x : Nat} {st : List Value} : T d 15 4 [l0, l1, l2, l3, l4, l5, l6, l7] (.ref x :: st) h Q ↔ T d 15 6 [l0, l1, l2, kil l3, .ref x, l5, l6, l7] st h Q := T_astore c15_4 (Nat.le_of_ble_eq_true rfl)
theorem c15_6 : cod 15 6 = some (.iconst 0, 1) := cod_of b15 dX1_sieveKindFits_6
theorem t15_6 {d : Nat} {h : Hp} {Q : Pst} {ls : List Value} {st : List Value} : T d 15 6 ls st h Q ↔ T d 15 7 ls (.int 0 :: st) h Q := T_iconstV c15_6 (by decide)
theorem c15_7 : cod 15 7 = some (.istore 5, 2) := cod_of b15 dX1_sieveKindFits_7
theorem t15_7 {d : Nat} {h : Hp} {Q : Pst} {l0 l1 l2 l3 l4 l5 l6 l7 : Value} {x : Int32} {st : List Value} : T d 15 7 [l0, l1, l2, l3, l4, l5, l6, l7] (.int x :: st) h Q ↔ T d 15 9 [l0, l1, l2, l3, kil l4, .int x, l6, l7] st h Q := T_istore c15_7 (Nat.le_of_ble_eq_true rfl)
theorem c15_9 : cod 15 9 = some (.iload 5, 2) := cod_of b15 dX1_sieveKindFits_9
theorem t15_9 {d : Nat} {h : Hp} {Q : Pst} {l0 l1 l2 l3 l4 l6 l7 : Value} {x : Int32} {st : List Value} : T d 15 9 [l0, l1, l2, l3, l4, .int x, l6, l7] st h Q ↔ T d 15 11 [l0, l1, l2, l3, l4, .int x, l6, l7] (.int x :: st) h Q := T_iload c15_9 rfl
theorem c15_11 : cod 15 11 = some (.aload 4, 2) := cod_of b15 dX1_sieveKindFits_11
theorem t15_11 {d : Nat} {h : Hp} {Q : Pst} {l0 l1 l2 l3 l5 l6 l7 : Value} {x : Nat} {st : List Value} : T d 15 11 [l0, l1, l2, l3, .ref x, l5, l6, l7] st h Q ↔ T d 15 13 [l0, l1, l2, l3, .ref x, l5, l6, l7] (.ref x :: st) h Q := T_aload c15_11 rfl
theorem c15_13 : cod 15 13 = some (.getfield 25, 3) := cod_of b15 dX1_sieveKindFits_13
theorem t15_13 {d : Nat} {h : Hp} {Q : Pst} {a : Nat} {ls : List Value} {st : List Value} : T d 15 13 ls (.ref a :: st) h Q ↔ gF (h.2.2 a) 3 3 (fun v => T d 15 16 ls (v :: st) h Q) := T_getfieldR m15 c15_13 f1_25
theorem c15_16 : cod 15 16 = some (.if_icmp .ge 78, 3) := cod_of b15 dX1_sieveKindFits_16
theorem t15_16 {d : Nat} {h : Hp} {Q : Pst} {x y : Int32} {ls : List Value} {st : List Value} : T d 15 16 ls (.int y :: .int x :: st) h Q ↔ (if y ≤ x then T d 15 94 ls st h Q else T d 15 19 ls st h Q) := T_icmp_ge c15_16 (by decide)
theorem c15_19 : cod 15 19 = some (.iload_n 3, 1) := cod_of b15 dX1_sieveKindFits_19
theorem t15_19 {d : Nat} {h : Hp} {Q : Pst} {l0 l1 l2 l4 l5 l6 l7 : Value} {x : Int32} {st : List Value} : T d 15 19 [l0, l1, l2, .int x, l4, l5, l6, l7] st h Q ↔ T d 15 20 [l0, l1, l2, .int x, l4, l5, l6, l7] (.int x :: st) h Q := T_iload_n c15_19 rfl
theorem c15_20 : cod 15 20 = some (.aload 4, 2) := cod_of b15 dX1_sieveKindFits_20
theorem t15_20 {d : Nat} {h : Hp} {Q : Pst} {l0 l1 l2 l3 l5 l6 l7 : Value} {x : Nat} {st : List Value} : T d 15 20 [l0, l1, l2, l3, .ref x, l5, l6, l7] st h Q ↔ T d 15 22 [l0, l1, l2, l3, .ref x, l5, l6, l7] (.ref x :: st) h Q := T_aload c15_20 rfl
theorem c15_22 : cod 15 22 = some (.iload 5, 2) := cod_of b15 dX1_sieveKindFits_22
theorem t15_22 {d : Nat} {h : Hp} {Q : Pst} {l0 l1 l2 l3 l4 l6 l7 : Value} {x : Int32} {st : List Value} : T d 15 22 [l0, l1, l2, l3, l4, .int x, l6, l7] st h Q ↔ T d 15 24 [l0, l1, l2, l3, l4, .int x, l6, l7] (.int x :: st) h Q := T_iload c15_22 rfl
theorem c15_24 : cod 15 24 = some (.iconst 1, 1) := cod_of b15 dX1_sieveKindFits_24
theorem t15_24 {d : Nat} {h : Hp} {Q : Pst} {ls : List Value} {st : List Value} : T d 15 24 ls st h Q ↔ T d 15 25 ls (.int 1 :: st) h Q := T_iconstV c15_24 (by decide)
theorem c15_25 : cod 15 25 = some (.invokevirtual 31, 3) := cod_of b15 dX1_sieveKindFits_25
theorem t15_25 {d : Nat} {h : Hp} {Q : Pst} {a0 a1 s0 : Int32} {a : Nat} {ls : List Value} (ho : isO (h.2.2 a) 3) : T (d + 1) 15 25 ls [.int a1, .int a0, .ref a, .int s0] h Q ↔ T d 39 0 [.ref a, .int a0, .int a1] [] h (fun x h2 => T (d + 1) 15 28 ls (rl x [.int s0]) h2 Q) := T_virtualR (as := [.int a0, .int a1]) (r := [.int s0]) m15 m39 c15_25 k1_31  rfl (by decide) rfl (by simp [wrd, Value.category]) (by simp [stk, Value.category]) rfl (by decide +kernel) ho
theorem c15_28 : cod 15 28 = some (.aload 4, 2) := cod_of b15 dX1_sieveKindFits_28
theorem t15_28 {d : Nat} {h : Hp} {Q : Pst} {l0 l1 l2 l3 l5 l6 l7 : Value} {x : Nat} {st : List Value} : T d 15 28 [l0, l1, l2, l3, .ref x, l5, l6, l7] st h Q ↔ T d 15 30 [l0, l1, l2, l3, .ref x, l5, l6, l7] (.ref x :: st) h Q := T_aload c15_28 rfl
theorem c15_30 : cod 15 30 = some (.iload 5, 2) := cod_of b15 dX1_sieveKindFits_30
theorem t15_30 {d : Nat} {h : Hp} {Q : Pst} {l0 l1 l2 l3 l4 l6 l7 : Value} {x : Int32} {st : List Value} : T d 15 30 [l0, l1, l2, l3, l4, .int x, l6, l7] st h Q ↔ T d 15 32 [l0, l1, l2, l3, l4, .int x, l6, l7] (.int x :: st) h Q := T_iload c15_30 rfl
theorem c15_32 : cod 15 32 = some (.iconst 2, 1) := cod_of b15 dX1_sieveKindFits_32
theorem t15_32 {d : Nat} {h : Hp} {Q : Pst} {ls : List Value} {st : List Value} : T d 15 32 ls st h Q ↔ T d 15 33 ls (.int 2 :: st) h Q := T_iconstV c15_32 (by decide)
theorem c15_33 : cod 15 33 = some (.invokevirtual 31, 3) := cod_of b15 dX1_sieveKindFits_33
theorem t15_33 {d : Nat} {h : Hp} {Q : Pst} {a0 a1 s0 s1 : Int32} {a : Nat} {ls : List Value} (ho : isO (h.2.2 a) 3) : T (d + 1) 15 33 ls [.int a1, .int a0, .ref a, .int s0, .int s1] h Q ↔ T d 39 0 [.ref a, .int a0, .int a1] [] h (fun x h2 => T (d + 1) 15 36 ls (rl x [.int s0, .int s1]) h2 Q) := T_virtualR (as := [.int a0, .int a1]) (r := [.int s0, .int s1]) m15 m39 c15_33 k1_31  rfl (by decide) rfl (by simp [wrd, Value.category]) (by simp [stk, Value.category]) rfl (by decide +kernel) ho
theorem c15_36 : cod 15 36 = some (.invokestatic 97, 3) := cod_of b15 dX1_sieveKindFits_36
theorem t15_36 {d : Nat} {h : Hp} {Q : Pst} {a0 a1 a2 : Int32} {ls : List Value} : T (d + 1) 15 36 ls [.int a2, .int a1, .int a0] h Q ↔ T d 50 0 [.int a0, .int a1, .int a2, un, un, un, un] [] h (fun x h2 => T (d + 1) 15 39 ls (rl x []) h2 Q) := T_staticR (as := [.int a0, .int a1, .int a2]) (r := []) m15 m50 c15_36 k1_97 (Or.inl rfl) rfl (by decide) rfl (by simp [wrd, Value.category]) (by simp [stk, Value.category]) rfl
theorem c15_39 : cod 15 39 = some (.istore 6, 2) := cod_of b15 dX1_sieveKindFits_39
theorem t15_39 {d : Nat} {h : Hp} {Q : Pst} {l0 l1 l2 l3 l4 l5 l6 l7 : Value} {x : Int32} {st : List Value} : T d 15 39 [l0, l1, l2, l3, l4, l5, l6, l7] (.int x :: st) h Q ↔ T d 15 41 [l0, l1, l2, l3, l4, kil l5, .int x, l7] st h Q := T_istore c15_39 (Nat.le_of_ble_eq_true rfl)
theorem c15_41 : cod 15 41 = some (.aload 4, 2) := cod_of b15 dX1_sieveKindFits_41
theorem t15_41 {d : Nat} {h : Hp} {Q : Pst} {l0 l1 l2 l3 l5 l6 l7 : Value} {x : Nat} {st : List Value} : T d 15 41 [l0, l1, l2, l3, .ref x, l5, l6, l7] st h Q ↔ T d 15 43 [l0, l1, l2, l3, .ref x, l5, l6, l7] (.ref x :: st) h Q := T_aload c15_41 rfl
theorem c15_43 : cod 15 43 = some (.iload 5, 2) := cod_of b15 dX1_sieveKindFits_43
theorem t15_43 {d : Nat} {h : Hp} {Q : Pst} {l0 l1 l2 l3 l4 l6 l7 : Value} {x : Int32} {st : List Value} : T d 15 43 [l0, l1, l2, l3, l4, .int x, l6, l7] st h Q ↔ T d 15 45 [l0, l1, l2, l3, l4, .int x, l6, l7] (.int x :: st) h Q := T_iload c15_43 rfl
theorem c15_45 : cod 15 45 = some (.iconst 3, 1) := cod_of b15 dX1_sieveKindFits_45
theorem t15_45 {d : Nat} {h : Hp} {Q : Pst} {ls : List Value} {st : List Value} : T d 15 45 ls st h Q ↔ T d 15 46 ls (.int 3 :: st) h Q := T_iconstV c15_45 (by decide)
theorem c15_46 : cod 15 46 = some (.invokevirtual 31, 3) := cod_of b15 dX1_sieveKindFits_46
theorem t15_46 {d : Nat} {h : Hp} {Q : Pst} {a0 a1 : Int32} {a : Nat} {ls : List Value} (ho : isO (h.2.2 a) 3) : T (d + 1) 15 46 ls [.int a1, .int a0, .ref a] h Q ↔ T d 39 0 [.ref a, .int a0, .int a1] [] h (fun x h2 => T (d + 1) 15 49 ls (rl x []) h2 Q) := T_virtualR (as := [.int a0, .int a1]) (r := []) m15 m39 c15_46 k1_31  rfl (by decide) rfl (by simp [wrd, Value.category]) (by simp [stk, Value.category]) rfl (by decide +kernel) ho
theorem c15_49 : cod 15 49 = some (.iload 6, 2) := cod_of b15 dX1_sieveKindFits_49
theorem t15_49 {d : Nat} {h : Hp} {Q : Pst} {l0 l1 l2 l3 l4 l5 l7 : Value} {x : Int32} {st : List Value} : T d 15 49 [l0, l1, l2, l3, l4, l5, .int x, l7] st h Q ↔ T d 15 51 [l0, l1, l2, l3, l4, l5, .int x, l7] (.int x :: st) h Q := T_iload c15_49 rfl
theorem c15_51 : cod 15 51 = some (.if_icmp .lt 7, 3) := cod_of b15 dX1_sieveKindFits_51
theorem t15_51 {d : Nat} {h : Hp} {Q : Pst} {x y : Int32} {ls : List Value} {st : List Value} : T d 15 51 ls (.int y :: .int x :: st) h Q ↔ (if x < y then T d 15 58 ls st h Q else T d 15 54 ls st h Q) := T_icmp_lt c15_51 (by decide)
theorem c15_54 : cod 15 54 = some (.iconst 1, 1) := cod_of b15 dX1_sieveKindFits_54
theorem t15_54 {d : Nat} {h : Hp} {Q : Pst} {ls : List Value} {st : List Value} : T d 15 54 ls st h Q ↔ T d 15 55 ls (.int 1 :: st) h Q := T_iconstV c15_54 (by decide)
theorem c15_55 : cod 15 55 = some (.goto 4, 3) := cod_of b15 dX1_sieveKindFits_55
theorem t15_55 {d : Nat} {h : Hp} {Q : Pst} {ls : List Value} {st : List Value} : T d 15 55 ls st h Q ↔ T d 15 59 ls st h Q := T_goto c15_55 (by decide)
theorem c15_59 : cod 15 59 = some (.istore 7, 2) := cod_of b15 dX1_sieveKindFits_59
theorem t15_59 {d : Nat} {h : Hp} {Q : Pst} {l0 l1 l2 l3 l4 l5 l6 l7 : Value} {x : Int32} {st : List Value} : T d 15 59 [l0, l1, l2, l3, l4, l5, l6, l7] (.int x :: st) h Q ↔ T d 15 61 [l0, l1, l2, l3, l4, l5, kil l6, .int x] st h Q := T_istore c15_59 (Nat.le_of_ble_eq_true rfl)
theorem c15_61 : cod 15 61 = some (.aload 4, 2) := cod_of b15 dX1_sieveKindFits_61
theorem t15_61 {d : Nat} {h : Hp} {Q : Pst} {l0 l1 l2 l3 l5 l6 l7 : Value} {x : Nat} {st : List Value} : T d 15 61 [l0, l1, l2, l3, .ref x, l5, l6, l7] st h Q ↔ T d 15 63 [l0, l1, l2, l3, .ref x, l5, l6, l7] (.ref x :: st) h Q := T_aload c15_61 rfl
theorem c15_63 : cod 15 63 = some (.iload 5, 2) := cod_of b15 dX1_sieveKindFits_63
theorem t15_63 {d : Nat} {h : Hp} {Q : Pst} {l0 l1 l2 l3 l4 l6 l7 : Value} {x : Int32} {st : List Value} : T d 15 63 [l0, l1, l2, l3, l4, .int x, l6, l7] st h Q ↔ T d 15 65 [l0, l1, l2, l3, l4, .int x, l6, l7] (.int x :: st) h Q := T_iload c15_63 rfl
theorem c15_65 : cod 15 65 = some (.iconst 0, 1) := cod_of b15 dX1_sieveKindFits_65
theorem t15_65 {d : Nat} {h : Hp} {Q : Pst} {ls : List Value} {st : List Value} : T d 15 65 ls st h Q ↔ T d 15 66 ls (.int 0 :: st) h Q := T_iconstV c15_65 (by decide)
theorem c15_66 : cod 15 66 = some (.invokevirtual 31, 3) := cod_of b15 dX1_sieveKindFits_66
theorem t15_66 {d : Nat} {h : Hp} {Q : Pst} {a0 a1 : Int32} {a : Nat} {ls : List Value} (ho : isO (h.2.2 a) 3) : T (d + 1) 15 66 ls [.int a1, .int a0, .ref a] h Q ↔ T d 39 0 [.ref a, .int a0, .int a1] [] h (fun x h2 => T (d + 1) 15 69 ls (rl x []) h2 Q) := T_virtualR (as := [.int a0, .int a1]) (r := []) m15 m39 c15_66 k1_31  rfl (by decide) rfl (by simp [wrd, Value.category]) (by simp [stk, Value.category]) rfl (by decide +kernel) ho
theorem c15_69 : cod 15 69 = some (.iload_n 2, 1) := cod_of b15 dX1_sieveKindFits_69
theorem t15_69 {d : Nat} {h : Hp} {Q : Pst} {l0 l1 l3 l4 l5 l6 l7 : Value} {x : Int32} {st : List Value} : T d 15 69 [l0, l1, .int x, l3, l4, l5, l6, l7] st h Q ↔ T d 15 70 [l0, l1, .int x, l3, l4, l5, l6, l7] (.int x :: st) h Q := T_iload_n c15_69 rfl
theorem c15_70 : cod 15 70 = some (.if_icmp .ne 18, 3) := cod_of b15 dX1_sieveKindFits_70
theorem t15_70 {d : Nat} {h : Hp} {Q : Pst} {x y : Int32} {ls : List Value} {st : List Value} : T d 15 70 ls (.int y :: .int x :: st) h Q ↔ (if ¬ x = y then T d 15 88 ls st h Q else T d 15 73 ls st h Q) := T_icmp_ne c15_70 (by decide)
theorem c15_73 : cod 15 73 = some (.iload 7, 2) := cod_of b15 dX1_sieveKindFits_73
theorem t15_73 {d : Nat} {h : Hp} {Q : Pst} {l0 l1 l2 l3 l4 l5 l6 : Value} {x : Int32} {st : List Value} : T d 15 73 [l0, l1, l2, l3, l4, l5, l6, .int x] st h Q ↔ T d 15 75 [l0, l1, l2, l3, l4, l5, l6, .int x] (.int x :: st) h Q := T_iload c15_73 rfl
theorem c15_75 : cod 15 75 = some (.aload 4, 2) := cod_of b15 dX1_sieveKindFits_75
theorem t15_75 {d : Nat} {h : Hp} {Q : Pst} {l0 l1 l2 l3 l5 l6 l7 : Value} {x : Nat} {st : List Value} : T d 15 75 [l0, l1, l2, l3, .ref x, l5, l6, l7] st h Q ↔ T d 15 77 [l0, l1, l2, l3, .ref x, l5, l6, l7] (.ref x :: st) h Q := T_aload c15_75 rfl
theorem c15_77 : cod 15 77 = some (.iload 5, 2) := cod_of b15 dX1_sieveKindFits_77
theorem t15_77 {d : Nat} {h : Hp} {Q : Pst} {l0 l1 l2 l3 l4 l6 l7 : Value} {x : Int32} {st : List Value} : T d 15 77 [l0, l1, l2, l3, l4, .int x, l6, l7] st h Q ↔ T d 15 79 [l0, l1, l2, l3, l4, .int x, l6, l7] (.int x :: st) h Q := T_iload c15_77 rfl
theorem c15_79 : cod 15 79 = some (.iconst 4, 1) := cod_of b15 dX1_sieveKindFits_79
theorem t15_79 {d : Nat} {h : Hp} {Q : Pst} {ls : List Value} {st : List Value} : T d 15 79 ls st h Q ↔ T d 15 80 ls (.int 4 :: st) h Q := T_iconstV c15_79 (by decide)
theorem c15_80 : cod 15 80 = some (.invokevirtual 31, 3) := cod_of b15 dX1_sieveKindFits_80
theorem t15_80 {d : Nat} {h : Hp} {Q : Pst} {a0 a1 s0 : Int32} {a : Nat} {ls : List Value} (ho : isO (h.2.2 a) 3) : T (d + 1) 15 80 ls [.int a1, .int a0, .ref a, .int s0] h Q ↔ T d 39 0 [.ref a, .int a0, .int a1] [] h (fun x h2 => T (d + 1) 15 83 ls (rl x [.int s0]) h2 Q) := T_virtualR (as := [.int a0, .int a1]) (r := [.int s0]) m15 m39 c15_80 k1_31  rfl (by decide) rfl (by simp [wrd, Value.category]) (by simp [stk, Value.category]) rfl (by decide +kernel) ho
theorem c15_83 : cod 15 83 = some (.if_icmp .eq 5, 3) := cod_of b15 dX1_sieveKindFits_83
theorem t15_83 {d : Nat} {h : Hp} {Q : Pst} {x y : Int32} {ls : List Value} {st : List Value} : T d 15 83 ls (.int y :: .int x :: st) h Q ↔ (if x = y then T d 15 88 ls st h Q else T d 15 86 ls st h Q) := T_icmp_eq c15_83 (by decide)
theorem c15_86 : cod 15 86 = some (.iconst 0, 1) := cod_of b15 dX1_sieveKindFits_86
theorem t15_86 {d : Nat} {h : Hp} {Q : Pst} {ls : List Value} {st : List Value} : T d 15 86 ls st h Q ↔ T d 15 87 ls (.int 0 :: st) h Q := T_iconstV c15_86 (by decide)
theorem c15_87 : cod 15 87 = some (.ireturn, 1) := cod_of b15 dX1_sieveKindFits_87
theorem t15_87 {d : Nat} {h : Hp} {Q : Pst} {x : Int32} {ls : List Value} : T d 15 87 ls [.int x] h Q ↔ (narrow .boolean (.int x) = .int x ∧ Q (some (.int x)) h) := T_zretR m15 c15_87 rfl
theorem c15_88 : cod 15 88 = some (.iinc 5 1, 3) := cod_of b15 dX1_sieveKindFits_88
theorem t15_88 {d : Nat} {h : Hp} {Q : Pst} {l0 l1 l2 l3 l4 l6 l7 : Value} {x : Int32} {st : List Value} : T d 15 88 [l0, l1, l2, l3, l4, .int x, l6, l7] st h Q ↔ T d 15 91 [l0, l1, l2, l3, kil l4, .int (x + 1), l6, l7] st h Q := T_iincV c15_88 rfl (Nat.le_of_ble_eq_true rfl) (by decide) rfl
theorem c15_91 : cod 15 91 = some (.goto (-82), 3) := cod_of b15 dX1_sieveKindFits_91
theorem t15_91 {d : Nat} {h : Hp} {Q : Pst} {ls : List Value} {st : List Value} : T d 15 91 ls st h Q ↔ T d 15 9 ls st h Q := T_goto c15_91 (by decide)
theorem c15_58 : cod 15 58 = some (.iconst 0, 1) := cod_of b15 dX1_sieveKindFits_58
theorem t15_58 {d : Nat} {h : Hp} {Q : Pst} {ls : List Value} {st : List Value} : T d 15 58 ls st h Q ↔ T d 15 59 ls (.int 0 :: st) h Q := T_iconstV c15_58 (by decide)
theorem c15_94 : cod 15 94 = some (.iconst 1, 1) := cod_of b15 dX1_sieveKindFits_94
theorem t15_94 {d : Nat} {h : Hp} {Q : Pst} {ls : List Value} {st : List Value} : T d 15 94 ls st h Q ↔ T d 15 95 ls (.int 1 :: st) h Q := T_iconstV c15_94 (by decide)
theorem c15_95 : cod 15 95 = some (.ireturn, 1) := cod_of b15 dX1_sieveKindFits_95
theorem t15_95 {d : Nat} {h : Hp} {Q : Pst} {x : Int32} {ls : List Value} : T d 15 95 ls [.int x] h Q ↔ (narrow .boolean (.int x) = .int x ∧ Q (some (.int x)) h) := T_zretR m15 c15_95 rfl
theorem b16 : (mR 16).2.2.1 = cX1_bestQuestion := by rw [m16]
theorem c16_0 : cod 16 0 = some (.aload_n 0, 1) := cod_of b16 dX1_bestQuestion_0
theorem t16_0 {d : Nat} {h : Hp} {Q : Pst} {l1 l2 l3 l4 l5 l6 l7 l8 : Value} {x : Nat} {st : List Value} : T d 16 0 [.ref x, l1, l2, l3, l4, l5, l6, l7, l8] st h Q ↔ T d 16 1 [.ref x, l1, l2, l3, l4, l5, l6, l7, l8] (.ref x :: st) h Q := T_aload_n c16_0 rfl
theorem c16_1 : cod 16 1 = some (.aload_n 1, 1) := cod_of b16 dX1_bestQuestion_1
theorem t16_1 {d : Nat} {h : Hp} {Q : Pst} {l0 l2 l3 l4 l5 l6 l7 l8 : Value} {x : Nat} {st : List Value} : T d 16 1 [l0, .ref x, l2, l3, l4, l5, l6, l7, l8] st h Q ↔ T d 16 2 [l0, .ref x, l2, l3, l4, l5, l6, l7, l8] (.ref x :: st) h Q := T_aload_n c16_1 rfl
theorem c16_2 : cod 16 2 = some (.iload_n 2, 1) := cod_of b16 dX1_bestQuestion_2
theorem t16_2 {d : Nat} {h : Hp} {Q : Pst} {l0 l1 l3 l4 l5 l6 l7 l8 : Value} {x : Int32} {st : List Value} : T d 16 2 [l0, l1, .int x, l3, l4, l5, l6, l7, l8] st h Q ↔ T d 16 3 [l0, l1, .int x, l3, l4, l5, l6, l7, l8] (.int x :: st) h Q := T_iload_n c16_2 rfl
theorem c16_3 : cod 16 3 = some (.invokevirtual 100, 3) := cod_of b16 dX1_bestQuestion_3
theorem t16_3 {d : Nat} {h : Hp} {Q : Pst} {a0 a : Nat} {a1 : Int32} {ls : List Value} (ho : isO (h.2.2 a) 1) : T (d + 1) 16 3 ls [.int a1, .ref a0, .ref a] h Q ↔ T d 14 0 [.ref a, .ref a0, .int a1, un, un] [] h (fun x h2 => T (d + 1) 16 6 ls (rl x []) h2 Q) := T_virtualR (as := [.ref a0, .int a1]) (r := []) m16 m14 c16_3 k1_100  rfl (by decide) rfl (by simp [wrd, Value.category]) (by simp [stk, Value.category]) rfl (by decide +kernel) ho
theorem c16_6 : cod 16 6 = some (.istore_n 3, 1) := cod_of b16 dX1_bestQuestion_6
theorem t16_6 {d : Nat} {h : Hp} {Q : Pst} {l0 l1 l2 l3 l4 l5 l6 l7 l8 : Value} {x : Int32} {st : List Value} : T d 16 6 [l0, l1, l2, l3, l4, l5, l6, l7, l8] (.int x :: st) h Q ↔ T d 16 7 [l0, l1, kil l2, .int x, l4, l5, l6, l7, l8] st h Q := T_istore_n c16_6 (Nat.le_of_ble_eq_true rfl)
theorem c16_7 : cod 16 7 = some (.iconst (-1), 1) := cod_of b16 dX1_bestQuestion_7
theorem t16_7 {d : Nat} {h : Hp} {Q : Pst} {ls : List Value} {st : List Value} : T d 16 7 ls st h Q ↔ T d 16 8 ls (.int (-1) :: st) h Q := T_iconstV c16_7 (by decide)
theorem c16_8 : cod 16 8 = some (.istore 4, 2) := cod_of b16 dX1_bestQuestion_8
theorem t16_8 {d : Nat} {h : Hp} {Q : Pst} {l0 l1 l2 l3 l4 l5 l6 l7 l8 : Value} {x : Int32} {st : List Value} : T d 16 8 [l0, l1, l2, l3, l4, l5, l6, l7, l8] (.int x :: st) h Q ↔ T d 16 10 [l0, l1, l2, kil l3, .int x, l5, l6, l7, l8] st h Q := T_istore c16_8 (Nat.le_of_ble_eq_true rfl)
theorem c16_10 : cod 16 10 = some (.bipush 7, 2) := cod_of b16 dX1_bestQuestion_10
theorem t16_10 {d : Nat} {h : Hp} {Q : Pst} {ls : List Value} {st : List Value} : T d 16 10 ls st h Q ↔ T d 16 12 ls (.int 7 :: st) h Q := T_bipushV c16_10 (by decide)
theorem c16_12 : cod 16 12 = some (.istore 5, 2) := cod_of b16 dX1_bestQuestion_12
theorem t16_12 {d : Nat} {h : Hp} {Q : Pst} {l0 l1 l2 l3 l4 l5 l6 l7 l8 : Value} {x : Int32} {st : List Value} : T d 16 12 [l0, l1, l2, l3, l4, l5, l6, l7, l8] (.int x :: st) h Q ↔ T d 16 14 [l0, l1, l2, l3, kil l4, .int x, l6, l7, l8] st h Q := T_istore c16_12 (Nat.le_of_ble_eq_true rfl)
theorem c16_14 : cod 16 14 = some (.iconst 0, 1) := cod_of b16 dX1_bestQuestion_14
theorem t16_14 {d : Nat} {h : Hp} {Q : Pst} {ls : List Value} {st : List Value} : T d 16 14 ls st h Q ↔ T d 16 15 ls (.int 0 :: st) h Q := T_iconstV c16_14 (by decide)
theorem c16_15 : cod 16 15 = some (.istore 6, 2) := cod_of b16 dX1_bestQuestion_15
theorem t16_15 {d : Nat} {h : Hp} {Q : Pst} {l0 l1 l2 l3 l4 l5 l6 l7 l8 : Value} {x : Int32} {st : List Value} : T d 16 15 [l0, l1, l2, l3, l4, l5, l6, l7, l8] (.int x :: st) h Q ↔ T d 16 17 [l0, l1, l2, l3, l4, kil l5, .int x, l7, l8] st h Q := T_istore c16_15 (Nat.le_of_ble_eq_true rfl)
theorem c16_17 : cod 16 17 = some (.iload_n 3, 1) := cod_of b16 dX1_bestQuestion_17
theorem t16_17 {d : Nat} {h : Hp} {Q : Pst} {l0 l1 l2 l4 l5 l6 l7 l8 : Value} {x : Int32} {st : List Value} : T d 16 17 [l0, l1, l2, .int x, l4, l5, l6, l7, l8] st h Q ↔ T d 16 18 [l0, l1, l2, .int x, l4, l5, l6, l7, l8] (.int x :: st) h Q := T_iload_n c16_17 rfl
theorem c16_18 : cod 16 18 = some (.ifCond .eq 71, 3) := cod_of b16 dX1_bestQuestion_18
theorem t16_18 {d : Nat} {h : Hp} {Q : Pst} {x : Int32} {ls : List Value} {st : List Value} : T d 16 18 ls (.int x :: st) h Q ↔ (if x = 0 then T d 16 89 ls st h Q else T d 16 21 ls st h Q) := T_if_eq c16_18 (by decide)
theorem c16_21 : cod 16 21 = some (.iload 6, 2) := cod_of b16 dX1_bestQuestion_21
theorem t16_21 {d : Nat} {h : Hp} {Q : Pst} {l0 l1 l2 l3 l4 l5 l7 l8 : Value} {x : Int32} {st : List Value} : T d 16 21 [l0, l1, l2, l3, l4, l5, .int x, l7, l8] st h Q ↔ T d 16 23 [l0, l1, l2, l3, l4, l5, .int x, l7, l8] (.int x :: st) h Q := T_iload c16_21 rfl
theorem c16_23 : cod 16 23 = some (.iconst 4, 1) := cod_of b16 dX1_bestQuestion_23
theorem t16_23 {d : Nat} {h : Hp} {Q : Pst} {ls : List Value} {st : List Value} : T d 16 23 ls st h Q ↔ T d 16 24 ls (.int 4 :: st) h Q := T_iconstV c16_23 (by decide)
theorem c16_24 : cod 16 24 = some (.if_icmp .gt 65, 3) := cod_of b16 dX1_bestQuestion_24
theorem t16_24 {d : Nat} {h : Hp} {Q : Pst} {x y : Int32} {ls : List Value} {st : List Value} : T d 16 24 ls (.int y :: .int x :: st) h Q ↔ (if y < x then T d 16 89 ls st h Q else T d 16 27 ls st h Q) := T_icmp_gt c16_24 (by decide)
theorem c16_27 : cod 16 27 = some (.iconst 0, 1) := cod_of b16 dX1_bestQuestion_27
theorem t16_27 {d : Nat} {h : Hp} {Q : Pst} {ls : List Value} {st : List Value} : T d 16 27 ls st h Q ↔ T d 16 28 ls (.int 0 :: st) h Q := T_iconstV c16_27 (by decide)
theorem c16_28 : cod 16 28 = some (.istore 7, 2) := cod_of b16 dX1_bestQuestion_28
theorem t16_28 {d : Nat} {h : Hp} {Q : Pst} {l0 l1 l2 l3 l4 l5 l6 l7 l8 : Value} {x : Int32} {st : List Value} : T d 16 28 [l0, l1, l2, l3, l4, l5, l6, l7, l8] (.int x :: st) h Q ↔ T d 16 30 [l0, l1, l2, l3, l4, l5, kil l6, .int x, l8] st h Q := T_istore c16_28 (Nat.le_of_ble_eq_true rfl)
theorem c16_30 : cod 16 30 = some (.iload 7, 2) := cod_of b16 dX1_bestQuestion_30
theorem t16_30 {d : Nat} {h : Hp} {Q : Pst} {l0 l1 l2 l3 l4 l5 l6 l8 : Value} {x : Int32} {st : List Value} : T d 16 30 [l0, l1, l2, l3, l4, l5, l6, .int x, l8] st h Q ↔ T d 16 32 [l0, l1, l2, l3, l4, l5, l6, .int x, l8] (.int x :: st) h Q := T_iload c16_30 rfl
theorem c16_32 : cod 16 32 = some (.bipush 60, 2) := cod_of b16 dX1_bestQuestion_32
theorem t16_32 {d : Nat} {h : Hp} {Q : Pst} {ls : List Value} {st : List Value} : T d 16 32 ls st h Q ↔ T d 16 34 ls (.int 60 :: st) h Q := T_bipushV c16_32 (by decide)
theorem c16_34 : cod 16 34 = some (.if_icmp .gt 49, 3) := cod_of b16 dX1_bestQuestion_34
theorem t16_34 {d : Nat} {h : Hp} {Q : Pst} {x y : Int32} {ls : List Value} {st : List Value} : T d 16 34 ls (.int y :: .int x :: st) h Q ↔ (if y < x then T d 16 83 ls st h Q else T d 16 37 ls st h Q) := T_icmp_gt c16_34 (by decide)
theorem c16_37 : cod 16 37 = some (.aload_n 0, 1) := cod_of b16 dX1_bestQuestion_37
theorem t16_37 {d : Nat} {h : Hp} {Q : Pst} {l1 l2 l3 l4 l5 l6 l7 l8 : Value} {x : Nat} {st : List Value} : T d 16 37 [.ref x, l1, l2, l3, l4, l5, l6, l7, l8] st h Q ↔ T d 16 38 [.ref x, l1, l2, l3, l4, l5, l6, l7, l8] (.ref x :: st) h Q := T_aload_n c16_37 rfl
theorem c16_38 : cod 16 38 = some (.iload_n 3, 1) := cod_of b16 dX1_bestQuestion_38
theorem t16_38 {d : Nat} {h : Hp} {Q : Pst} {l0 l1 l2 l4 l5 l6 l7 l8 : Value} {x : Int32} {st : List Value} : T d 16 38 [l0, l1, l2, .int x, l4, l5, l6, l7, l8] st h Q ↔ T d 16 39 [l0, l1, l2, .int x, l4, l5, l6, l7, l8] (.int x :: st) h Q := T_iload_n c16_38 rfl
theorem c16_39 : cod 16 39 = some (.aload_n 1, 1) := cod_of b16 dX1_bestQuestion_39
theorem t16_39 {d : Nat} {h : Hp} {Q : Pst} {l0 l2 l3 l4 l5 l6 l7 l8 : Value} {x : Nat} {st : List Value} : T d 16 39 [l0, .ref x, l2, l3, l4, l5, l6, l7, l8] st h Q ↔ T d 16 40 [l0, .ref x, l2, l3, l4, l5, l6, l7, l8] (.ref x :: st) h Q := T_aload_n c16_39 rfl
theorem c16_40 : cod 16 40 = some (.getfield 103, 3) := cod_of b16 dX1_bestQuestion_40
theorem t16_40 {d : Nat} {h : Hp} {Q : Pst} {a : Nat} {ls : List Value} {st : List Value} : T d 16 40 ls (.ref a :: st) h Q ↔ gF (h.2.2 a) 5 4 (fun v => T d 16 43 ls (v :: st) h Q) := T_getfieldR m16 c16_40 f1_103
theorem c16_43 : cod 16 43 = some (.iload_n 2, 1) := cod_of b16 dX1_bestQuestion_43
theorem t16_43 {d : Nat} {h : Hp} {Q : Pst} {l0 l1 l3 l4 l5 l6 l7 l8 : Value} {x : Int32} {st : List Value} : T d 16 43 [l0, l1, .int x, l3, l4, l5, l6, l7, l8] st h Q ↔ T d 16 44 [l0, l1, .int x, l3, l4, l5, l6, l7, l8] (.int x :: st) h Q := T_iload_n c16_43 rfl
theorem c16_44 : cod 16 44 = some (.invokestatic 61, 3) := cod_of b16 dX1_bestQuestion_44
theorem t16_44 {d : Nat} {h : Hp} {Q : Pst} {a0 s1 : Nat} {a1 s0 : Int32} {ls : List Value} : T (d + 1) 16 44 ls [.int a1, .ref a0, .int s0, .ref s1] h Q ↔ T d 122 0 [.ref a0, .int a1] [] h (fun x h2 => T (d + 1) 16 47 ls (rl x [.int s0, .ref s1]) h2 Q) := T_staticR (as := [.ref a0, .int a1]) (r := [.int s0, .ref s1]) m16 m122 c16_44 k1_61 (Or.inr rfl) rfl (by decide) rfl (by simp [wrd, Value.category]) (by simp [stk, Value.category]) rfl
theorem c16_47 : cod 16 47 = some (.iload 6, 2) := cod_of b16 dX1_bestQuestion_47
theorem t16_47 {d : Nat} {h : Hp} {Q : Pst} {l0 l1 l2 l3 l4 l5 l7 l8 : Value} {x : Int32} {st : List Value} : T d 16 47 [l0, l1, l2, l3, l4, l5, .int x, l7, l8] st h Q ↔ T d 16 49 [l0, l1, l2, l3, l4, l5, .int x, l7, l8] (.int x :: st) h Q := T_iload c16_47 rfl
theorem c16_49 : cod 16 49 = some (.iload 7, 2) := cod_of b16 dX1_bestQuestion_49
theorem t16_49 {d : Nat} {h : Hp} {Q : Pst} {l0 l1 l2 l3 l4 l5 l6 l8 : Value} {x : Int32} {st : List Value} : T d 16 49 [l0, l1, l2, l3, l4, l5, l6, .int x, l8] st h Q ↔ T d 16 51 [l0, l1, l2, l3, l4, l5, l6, .int x, l8] (.int x :: st) h Q := T_iload c16_49 rfl
theorem c16_51 : cod 16 51 = some (.invokevirtual 106, 3) := cod_of b16 dX1_bestQuestion_51
theorem t16_51 {d : Nat} {h : Hp} {Q : Pst} {a0 a1 a2 a3 : Int32} {a : Nat} {ls : List Value} (ho : isO (h.2.2 a) 1) : T (d + 1) 16 51 ls [.int a3, .int a2, .int a1, .int a0, .ref a] h Q ↔ T d 17 0 [.ref a, .int a0, .int a1, .int a2, .int a3, un, un] [] h (fun x h2 => T (d + 1) 16 54 ls (rl x []) h2 Q) := T_virtualR (as := [.int a0, .int a1, .int a2, .int a3]) (r := []) m16 m17 c16_51 k1_106  rfl (by decide) rfl (by simp [wrd, Value.category]) (by simp [stk, Value.category]) rfl (by decide +kernel) ho
theorem c16_54 : cod 16 54 = some (.istore 8, 2) := cod_of b16 dX1_bestQuestion_54
theorem t16_54 {d : Nat} {h : Hp} {Q : Pst} {l0 l1 l2 l3 l4 l5 l6 l7 l8 : Value} {x : Int32} {st : List Value} : T d 16 54 [l0, l1, l2, l3, l4, l5, l6, l7, l8] (.int x :: st) h Q ↔ T d 16 56 [l0, l1, l2, l3, l4, l5, l6, kil l7, .int x] st h Q := T_istore c16_54 (Nat.le_of_ble_eq_true rfl)
theorem c16_56 : cod 16 56 = some (.iload 8, 2) := cod_of b16 dX1_bestQuestion_56
theorem t16_56 {d : Nat} {h : Hp} {Q : Pst} {l0 l1 l2 l3 l4 l5 l6 l7 : Value} {x : Int32} {st : List Value} : T d 16 56 [l0, l1, l2, l3, l4, l5, l6, l7, .int x] st h Q ↔ T d 16 58 [l0, l1, l2, l3, l4, l5, l6, l7, .int x] (.int x :: st) h Q := T_iload c16_56 rfl
theorem c16_58 : cod 16 58 = some (.iload 5, 2) := cod_of b16 dX1_bestQuestion_58
theorem t16_58 {d : Nat} {h : Hp} {Q : Pst} {l0 l1 l2 l3 l4 l6 l7 l8 : Value} {x : Int32} {st : List Value} : T d 16 58 [l0, l1, l2, l3, l4, .int x, l6, l7, l8] st h Q ↔ T d 16 60 [l0, l1, l2, l3, l4, .int x, l6, l7, l8] (.int x :: st) h Q := T_iload c16_58 rfl
theorem c16_60 : cod 16 60 = some (.if_icmp .ge 17, 3) := cod_of b16 dX1_bestQuestion_60
theorem t16_60 {d : Nat} {h : Hp} {Q : Pst} {x y : Int32} {ls : List Value} {st : List Value} : T d 16 60 ls (.int y :: .int x :: st) h Q ↔ (if y ≤ x then T d 16 77 ls st h Q else T d 16 63 ls st h Q) := T_icmp_ge c16_60 (by decide)
theorem c16_63 : cod 16 63 = some (.iload 8, 2) := cod_of b16 dX1_bestQuestion_63
theorem t16_63 {d : Nat} {h : Hp} {Q : Pst} {l0 l1 l2 l3 l4 l5 l6 l7 : Value} {x : Int32} {st : List Value} : T d 16 63 [l0, l1, l2, l3, l4, l5, l6, l7, .int x] st h Q ↔ T d 16 65 [l0, l1, l2, l3, l4, l5, l6, l7, .int x] (.int x :: st) h Q := T_iload c16_63 rfl
theorem c16_65 : cod 16 65 = some (.istore 5, 2) := cod_of b16 dX1_bestQuestion_65
theorem t16_65 {d : Nat} {h : Hp} {Q : Pst} {l0 l1 l2 l3 l4 l5 l6 l7 l8 : Value} {x : Int32} {st : List Value} : T d 16 65 [l0, l1, l2, l3, l4, l5, l6, l7, l8] (.int x :: st) h Q ↔ T d 16 67 [l0, l1, l2, l3, kil l4, .int x, l6, l7, l8] st h Q := T_istore c16_65 (Nat.le_of_ble_eq_true rfl)
theorem c16_67 : cod 16 67 = some (.bipush 100, 2) := cod_of b16 dX1_bestQuestion_67
theorem t16_67 {d : Nat} {h : Hp} {Q : Pst} {ls : List Value} {st : List Value} : T d 16 67 ls st h Q ↔ T d 16 69 ls (.int 100 :: st) h Q := T_bipushV c16_67 (by decide)
theorem c16_69 : cod 16 69 = some (.iload 6, 2) := cod_of b16 dX1_bestQuestion_69
theorem t16_69 {d : Nat} {h : Hp} {Q : Pst} {l0 l1 l2 l3 l4 l5 l7 l8 : Value} {x : Int32} {st : List Value} : T d 16 69 [l0, l1, l2, l3, l4, l5, .int x, l7, l8] st h Q ↔ T d 16 71 [l0, l1, l2, l3, l4, l5, .int x, l7, l8] (.int x :: st) h Q := T_iload c16_69 rfl
theorem c16_71 : cod 16 71 = some (.imul, 1) := cod_of b16 dX1_bestQuestion_71
theorem t16_71 {d : Nat} {h : Hp} {Q : Pst} {x y : Int32} {ls : List Value} {st : List Value} : T d 16 71 ls (.int y :: .int x :: st) h Q ↔ T d 16 72 ls (.int (x * y) :: st) h Q := T_imul c16_71
theorem c16_72 : cod 16 72 = some (.iload 7, 2) := cod_of b16 dX1_bestQuestion_72
theorem t16_72 {d : Nat} {h : Hp} {Q : Pst} {l0 l1 l2 l3 l4 l5 l6 l8 : Value} {x : Int32} {st : List Value} : T d 16 72 [l0, l1, l2, l3, l4, l5, l6, .int x, l8] st h Q ↔ T d 16 74 [l0, l1, l2, l3, l4, l5, l6, .int x, l8] (.int x :: st) h Q := T_iload c16_72 rfl
theorem c16_74 : cod 16 74 = some (.iadd, 1) := cod_of b16 dX1_bestQuestion_74
theorem t16_74 {d : Nat} {h : Hp} {Q : Pst} {x y : Int32} {ls : List Value} {st : List Value} : T d 16 74 ls (.int y :: .int x :: st) h Q ↔ T d 16 75 ls (.int (x + y) :: st) h Q := T_iadd c16_74
theorem c16_75 : cod 16 75 = some (.istore 4, 2) := cod_of b16 dX1_bestQuestion_75
theorem t16_75 {d : Nat} {h : Hp} {Q : Pst} {l0 l1 l2 l3 l4 l5 l6 l7 l8 : Value} {x : Int32} {st : List Value} : T d 16 75 [l0, l1, l2, l3, l4, l5, l6, l7, l8] (.int x :: st) h Q ↔ T d 16 77 [l0, l1, l2, kil l3, .int x, l5, l6, l7, l8] st h Q := T_istore c16_75 (Nat.le_of_ble_eq_true rfl)
theorem c16_77 : cod 16 77 = some (.iinc 7 1, 3) := cod_of b16 dX1_bestQuestion_77
theorem t16_77 {d : Nat} {h : Hp} {Q : Pst} {l0 l1 l2 l3 l4 l5 l6 l8 : Value} {x : Int32} {st : List Value} : T d 16 77 [l0, l1, l2, l3, l4, l5, l6, .int x, l8] st h Q ↔ T d 16 80 [l0, l1, l2, l3, l4, l5, kil l6, .int (x + 1), l8] st h Q := T_iincV c16_77 rfl (Nat.le_of_ble_eq_true rfl) (by decide) rfl
theorem c16_80 : cod 16 80 = some (.goto (-50), 3) := cod_of b16 dX1_bestQuestion_80
theorem t16_80 {d : Nat} {h : Hp} {Q : Pst} {ls : List Value} {st : List Value} : T d 16 80 ls st h Q ↔ T d 16 30 ls st h Q := T_goto c16_80 (by decide)
theorem c16_83 : cod 16 83 = some (.iinc 6 1, 3) := cod_of b16 dX1_bestQuestion_83
theorem t16_83 {d : Nat} {h : Hp} {Q : Pst} {l0 l1 l2 l3 l4 l5 l7 l8 : Value} {x : Int32} {st : List Value} : T d 16 83 [l0, l1, l2, l3, l4, l5, .int x, l7, l8] st h Q ↔ T d 16 86 [l0, l1, l2, l3, l4, kil l5, .int (x + 1), l7, l8] st h Q := T_iincV c16_83 rfl (Nat.le_of_ble_eq_true rfl) (by decide) rfl
theorem c16_86 : cod 16 86 = some (.goto (-69), 3) := cod_of b16 dX1_bestQuestion_86
theorem t16_86 {d : Nat} {h : Hp} {Q : Pst} {ls : List Value} {st : List Value} : T d 16 86 ls st h Q ↔ T d 16 17 ls st h Q := T_goto c16_86 (by decide)
theorem c16_89 : cod 16 89 = some (.iload 4, 2) := cod_of b16 dX1_bestQuestion_89
theorem t16_89 {d : Nat} {h : Hp} {Q : Pst} {l0 l1 l2 l3 l5 l6 l7 l8 : Value} {x : Int32} {st : List Value} : T d 16 89 [l0, l1, l2, l3, .int x, l5, l6, l7, l8] st h Q ↔ T d 16 91 [l0, l1, l2, l3, .int x, l5, l6, l7, l8] (.int x :: st) h Q := T_iload c16_89 rfl
theorem c16_91 : cod 16 91 = some (.ireturn, 1) := cod_of b16 dX1_bestQuestion_91
theorem t16_91 {d : Nat} {h : Hp} {Q : Pst} {x : Int32} {ls : List Value} : T d 16 91 ls [.int x] h Q ↔ Q (some (.int x)) h := T_iretR m16 c16_91 rfl
theorem b17 : (mR 17).2.2.1 = cX1_greaterHalf := by rw [m17]
theorem c17_0 : cod 17 0 = some (.iconst 0, 1) := cod_of b17 dX1_greaterHalf_0
theorem t17_0 {d : Nat} {h : Hp} {Q : Pst} {ls : List Value} {st : List Value} : T d 17 0 ls st h Q ↔ T d 17 1 ls (.int 0 :: st) h Q := T_iconstV c17_0 (by decide)
theorem c17_1 : cod 17 1 = some (.istore 5, 2) := cod_of b17 dX1_greaterHalf_1
theorem t17_1 {d : Nat} {h : Hp} {Q : Pst} {l0 l1 l2 l3 l4 l5 l6 : Value} {x : Int32} {st : List Value} : T d 17 1 [l0, l1, l2, l3, l4, l5, l6] (.int x :: st) h Q ↔ T d 17 3 [l0, l1, l2, l3, kil l4, .int x, l6] st h Q := T_istore c17_1 (Nat.le_of_ble_eq_true rfl)
theorem c17_3 : cod 17 3 = some (.iconst 0, 1) := cod_of b17 dX1_greaterHalf_3
theorem t17_3 {d : Nat} {h : Hp} {Q : Pst} {ls : List Value} {st : List Value} : T d 17 3 ls st h Q ↔ T d 17 4 ls (.int 0 :: st) h Q := T_iconstV c17_3 (by decide)
theorem c17_4 : cod 17 4 = some (.istore 6, 2) := cod_of b17 dX1_greaterHalf_4
theorem t17_4 {d : Nat} {h : Hp} {Q : Pst} {l0 l1 l2 l3 l4 l5 l6 : Value} {x : Int32} {st : List Value} : T d 17 4 [l0, l1, l2, l3, l4, l5, l6] (.int x :: st) h Q ↔ T d 17 6 [l0, l1, l2, l3, l4, kil l5, .int x] st h Q := T_istore c17_4 (Nat.le_of_ble_eq_true rfl)
theorem c17_6 : cod 17 6 = some (.iload 6, 2) := cod_of b17 dX1_greaterHalf_6
theorem t17_6 {d : Nat} {h : Hp} {Q : Pst} {l0 l1 l2 l3 l4 l5 : Value} {x : Int32} {st : List Value} : T d 17 6 [l0, l1, l2, l3, l4, l5, .int x] st h Q ↔ T d 17 8 [l0, l1, l2, l3, l4, l5, .int x] (.int x :: st) h Q := T_iload c17_6 rfl
theorem c17_8 : cod 17 8 = some (.bipush 6, 2) := cod_of b17 dX1_greaterHalf_8
theorem t17_8 {d : Nat} {h : Hp} {Q : Pst} {ls : List Value} {st : List Value} : T d 17 8 ls st h Q ↔ T d 17 10 ls (.int 6 :: st) h Q := T_bipushV c17_8 (by decide)
theorem c17_10 : cod 17 10 = some (.if_icmp .ge 33, 3) := cod_of b17 dX1_greaterHalf_10
theorem t17_10 {d : Nat} {h : Hp} {Q : Pst} {x y : Int32} {ls : List Value} {st : List Value} : T d 17 10 ls (.int y :: .int x :: st) h Q ↔ (if y ≤ x then T d 17 43 ls st h Q else T d 17 13 ls st h Q) := T_icmp_ge c17_10 (by decide)
theorem c17_13 : cod 17 13 = some (.iload_n 1, 1) := cod_of b17 dX1_greaterHalf_13
theorem t17_13 {d : Nat} {h : Hp} {Q : Pst} {l0 l2 l3 l4 l5 l6 : Value} {x : Int32} {st : List Value} : T d 17 13 [l0, .int x, l2, l3, l4, l5, l6] st h Q ↔ T d 17 14 [l0, .int x, l2, l3, l4, l5, l6] (.int x :: st) h Q := T_iload_n c17_13 rfl
theorem c17_14 : cod 17 14 = some (.iload 6, 2) := cod_of b17 dX1_greaterHalf_14
theorem t17_14 {d : Nat} {h : Hp} {Q : Pst} {l0 l1 l2 l3 l4 l5 : Value} {x : Int32} {st : List Value} : T d 17 14 [l0, l1, l2, l3, l4, l5, .int x] st h Q ↔ T d 17 16 [l0, l1, l2, l3, l4, l5, .int x] (.int x :: st) h Q := T_iload c17_14 rfl
theorem c17_16 : cod 17 16 = some (.invokestatic 54, 3) := cod_of b17 dX1_greaterHalf_16
theorem t17_16 {d : Nat} {h : Hp} {Q : Pst} {a0 a1 : Int32} {ls : List Value} : T (d + 1) 17 16 ls [.int a1, .int a0] h Q ↔ T d 119 0 [.int a0, .int a1] [] h (fun x h2 => T (d + 1) 17 19 ls (rl x []) h2 Q) := T_staticR (as := [.int a0, .int a1]) (r := []) m17 m119 c17_16 k1_54 (Or.inr rfl) rfl (by decide) rfl (by simp [wrd, Value.category]) (by simp [stk, Value.category]) rfl
theorem c17_19 : cod 17 19 = some (.ifCond .eq 18, 3) := cod_of b17 dX1_greaterHalf_19
theorem t17_19 {d : Nat} {h : Hp} {Q : Pst} {x : Int32} {ls : List Value} {st : List Value} : T d 17 19 ls (.int x :: st) h Q ↔ (if x = 0 then T d 17 37 ls st h Q else T d 17 22 ls st h Q) := T_if_eq c17_19 (by decide)
theorem c17_22 : cod 17 22 = some (.iload 4, 2) := cod_of b17 dX1_greaterHalf_22
theorem t17_22 {d : Nat} {h : Hp} {Q : Pst} {l0 l1 l2 l3 l5 l6 : Value} {x : Int32} {st : List Value} : T d 17 22 [l0, l1, l2, l3, .int x, l5, l6] st h Q ↔ T d 17 24 [l0, l1, l2, l3, .int x, l5, l6] (.int x :: st) h Q := T_iload c17_22 rfl
theorem c17_24 : cod 17 24 = some (.iload 6, 2) := cod_of b17 dX1_greaterHalf_24
theorem t17_24 {d : Nat} {h : Hp} {Q : Pst} {l0 l1 l2 l3 l4 l5 : Value} {x : Int32} {st : List Value} : T d 17 24 [l0, l1, l2, l3, l4, l5, .int x] st h Q ↔ T d 17 26 [l0, l1, l2, l3, l4, l5, .int x] (.int x :: st) h Q := T_iload c17_24 rfl
theorem c17_26 : cod 17 26 = some (.iload_n 2, 1) := cod_of b17 dX1_greaterHalf_26
theorem t17_26 {d : Nat} {h : Hp} {Q : Pst} {l0 l1 l3 l4 l5 l6 : Value} {x : Int32} {st : List Value} : T d 17 26 [l0, l1, .int x, l3, l4, l5, l6] st h Q ↔ T d 17 27 [l0, l1, .int x, l3, l4, l5, l6] (.int x :: st) h Q := T_iload_n c17_26 rfl
theorem c17_27 : cod 17 27 = some (.iload_n 3, 1) := cod_of b17 dX1_greaterHalf_27
theorem t17_27 {d : Nat} {h : Hp} {Q : Pst} {l0 l1 l2 l4 l5 l6 : Value} {x : Int32} {st : List Value} : T d 17 27 [l0, l1, l2, .int x, l4, l5, l6] st h Q ↔ T d 17 28 [l0, l1, l2, .int x, l4, l5, l6] (.int x :: st) h Q := T_iload_n c17_27 rfl
theorem c17_28 : cod 17 28 = some (.invokestatic 97, 3) := cod_of b17 dX1_greaterHalf_28
theorem t17_28 {d : Nat} {h : Hp} {Q : Pst} {a0 a1 a2 s0 : Int32} {ls : List Value} : T (d + 1) 17 28 ls [.int a2, .int a1, .int a0, .int s0] h Q ↔ T d 50 0 [.int a0, .int a1, .int a2, un, un, un, un] [] h (fun x h2 => T (d + 1) 17 31 ls (rl x [.int s0]) h2 Q) := T_staticR (as := [.int a0, .int a1, .int a2]) (r := [.int s0]) m17 m50 c17_28 k1_97 (Or.inl rfl) rfl (by decide) rfl (by simp [wrd, Value.category]) (by simp [stk, Value.category]) rfl
theorem c17_31 : cod 17 31 = some (.if_icmp .lt 6, 3) := cod_of b17 dX1_greaterHalf_31
theorem t17_31 {d : Nat} {h : Hp} {Q : Pst} {x y : Int32} {ls : List Value} {st : List Value} : T d 17 31 ls (.int y :: .int x :: st) h Q ↔ (if x < y then T d 17 37 ls st h Q else T d 17 34 ls st h Q) := T_icmp_lt c17_31 (by decide)
theorem c17_34 : cod 17 34 = some (.iinc 5 1, 3) := cod_of b17 dX1_greaterHalf_34
theorem t17_34 {d : Nat} {h : Hp} {Q : Pst} {l0 l1 l2 l3 l4 l6 : Value} {x : Int32} {st : List Value} : T d 17 34 [l0, l1, l2, l3, l4, .int x, l6] st h Q ↔ T d 17 37 [l0, l1, l2, l3, kil l4, .int (x + 1), l6] st h Q := T_iincV c17_34 rfl (Nat.le_of_ble_eq_true rfl) (by decide) rfl
theorem c17_37 : cod 17 37 = some (.iinc 6 1, 3) := cod_of b17 dX1_greaterHalf_37
theorem t17_37 {d : Nat} {h : Hp} {Q : Pst} {l0 l1 l2 l3 l4 l5 : Value} {x : Int32} {st : List Value} : T d 17 37 [l0, l1, l2, l3, l4, l5, .int x] st h Q ↔ T d 17 40 [l0, l1, l2, l3, l4, kil l5, .int (x + 1)] st h Q := T_iincV c17_37 rfl (Nat.le_of_ble_eq_true rfl) (by decide) rfl
theorem c17_40 : cod 17 40 = some (.goto (-34), 3) := cod_of b17 dX1_greaterHalf_40
theorem t17_40 {d : Nat} {h : Hp} {Q : Pst} {ls : List Value} {st : List Value} : T d 17 40 ls st h Q ↔ T d 17 6 ls st h Q := T_goto c17_40 (by decide)
theorem c17_43 : cod 17 43 = some (.iload 5, 2) := cod_of b17 dX1_greaterHalf_43
theorem t17_43 {d : Nat} {h : Hp} {Q : Pst} {l0 l1 l2 l3 l4 l6 : Value} {x : Int32} {st : List Value} : T d 17 43 [l0, l1, l2, l3, l4, .int x, l6] st h Q ↔ T d 17 45 [l0, l1, l2, l3, l4, .int x, l6] (.int x :: st) h Q := T_iload c17_43 rfl
theorem c17_45 : cod 17 45 = some (.iload_n 1, 1) := cod_of b17 dX1_greaterHalf_45
theorem t17_45 {d : Nat} {h : Hp} {Q : Pst} {l0 l2 l3 l4 l5 l6 : Value} {x : Int32} {st : List Value} : T d 17 45 [l0, .int x, l2, l3, l4, l5, l6] st h Q ↔ T d 17 46 [l0, .int x, l2, l3, l4, l5, l6] (.int x :: st) h Q := T_iload_n c17_45 rfl
theorem c17_46 : cod 17 46 = some (.invokestatic 109, 3) := cod_of b17 dX1_greaterHalf_46
theorem t17_46 {d : Nat} {h : Hp} {Q : Pst} {a0 s0 : Int32} {ls : List Value} : T (d + 1) 17 46 ls [.int a0, .int s0] h Q ↔ T d 213 0 [.int a0] [] h (fun x h2 => T (d + 1) 17 49 ls (rl x [.int s0]) h2 Q) := T_staticR (as := [.int a0]) (r := [.int s0]) m17 m213 c17_46 k1_109 (Or.inl rfl) rfl (by decide) rfl (by simp [wrd, Value.category]) (by simp [stk, Value.category]) rfl
theorem c17_49 : cod 17 49 = some (.iload 5, 2) := cod_of b17 dX1_greaterHalf_49
theorem t17_49 {d : Nat} {h : Hp} {Q : Pst} {l0 l1 l2 l3 l4 l6 : Value} {x : Int32} {st : List Value} : T d 17 49 [l0, l1, l2, l3, l4, .int x, l6] st h Q ↔ T d 17 51 [l0, l1, l2, l3, l4, .int x, l6] (.int x :: st) h Q := T_iload c17_49 rfl
theorem c17_51 : cod 17 51 = some (.isub, 1) := cod_of b17 dX1_greaterHalf_51
theorem t17_51 {d : Nat} {h : Hp} {Q : Pst} {x y : Int32} {ls : List Value} {st : List Value} : T d 17 51 ls (.int y :: .int x :: st) h Q ↔ T d 17 52 ls (.int (x - y) :: st) h Q := T_isub c17_51
theorem c17_52 : cod 17 52 = some (.invokestatic 65, 3) := cod_of b17 dX1_greaterHalf_52
theorem t17_52 {d : Nat} {h : Hp} {Q : Pst} {x y : Int32} {ls : List Value} : T (d + 1) 17 52 ls [.int y, .int x] h Q ↔ T (d + 1) 17 55 ls [.int (if x < y then y else x)] h Q := T_maxR m17 c17_52 k1_65 (by simp [stk, Value.category])
theorem c17_55 : cod 17 55 = some (.ireturn, 1) := cod_of b17 dX1_greaterHalf_55
theorem t17_55 {d : Nat} {h : Hp} {Q : Pst} {x : Int32} {ls : List Value} : T d 17 55 ls [.int x] h Q ↔ Q (some (.int x)) h := T_iretR m17 c17_55 rfl
theorem b18 : (mR 18).2.2.1 = cX2_init := by rw [m18]
theorem c18_0 : cod 18 0 = some (.aload_n 0, 1) := cod_of b18 dX2_init_0
theorem t18_0 {d : Nat} {h : Hp} {Q : Pst} {x : Nat} {st : List Value} : T d 18 0 [.ref x] st h Q ↔ T d 18 1 [.ref x] (.ref x :: st) h Q := T_aload_n c18_0 rfl
theorem c18_1 : cod 18 1 = some (.invokespecial 3, 3) := cod_of b18 dX2_init_1
theorem t18_1 {d : Nat} {h : Hp} {Q : Pst} {a : Nat} {ls : List Value} : T (d + 1) 18 1 ls [.ref a] h Q ↔ T (d + 1) 18 4 ls [] h Q := T_objinitR m18 c18_1 k2_3 (by simp [stk, Value.category])
theorem c18_4 : cod 18 4 = some (.aload_n 0, 1) := cod_of b18 dX2_init_4
theorem t18_4 {d : Nat} {h : Hp} {Q : Pst} {x : Nat} {st : List Value} : T d 18 4 [.ref x] st h Q ↔ T d 18 5 [.ref x] (.ref x :: st) h Q := T_aload_n c18_4 rfl
theorem c18_5 : cod 18 5 = some (.sipush 150, 3) := cod_of b18 dX2_init_5
theorem t18_5 {d : Nat} {h : Hp} {Q : Pst} {ls : List Value} {st : List Value} : T d 18 5 ls st h Q ↔ T d 18 8 ls (.int 150 :: st) h Q := T_sipushV c18_5 (by decide)
theorem c18_8 : cod 18 8 = some (.newarray .int, 2) := cod_of b18 dX2_init_8
theorem t18_8 {d : Nat} {h : Hp} {Q : Pst} {x : Int32} {ls : List Value} {st : List Value} : T d 18 8 ls (.int x :: st) h Q ↔ ((0 ≤ x.toInt ∧ x.toInt ≤ 100000) ∧ T d 18 10 ls (.ref h.1 :: st) (hnew h x.toNatClampNeg (oI x.toNatClampNeg fun _ => 0)) Q) := T_newi c18_8
theorem c18_10 : cod 18 10 = some (.putfield 9, 3) := cod_of b18 dX2_init_10
theorem t18_10 {d : Nat} {h : Hp} {Q : Pst} {a x : Nat} {ls : List Value} {st : List Value} : T d 18 10 ls (.ref x :: .ref a :: st) h Q ↔ pF (h.2.2 a) 2 0 (.ref x) (fun cell => T d 18 13 ls st (hup h a cell) Q) := T_putfieldR m18 c18_10 f2_9 (by decide +kernel)
theorem c18_13 : cod 18 13 = some (.aload_n 0, 1) := cod_of b18 dX2_init_13
theorem t18_13 {d : Nat} {h : Hp} {Q : Pst} {x : Nat} {st : List Value} : T d 18 13 [.ref x] st h Q ↔ T d 18 14 [.ref x] (.ref x :: st) h Q := T_aload_n c18_13 rfl
theorem c18_14 : cod 18 14 = some (.iconst 0, 1) := cod_of b18 dX2_init_14
theorem t18_14 {d : Nat} {h : Hp} {Q : Pst} {ls : List Value} {st : List Value} : T d 18 14 ls st h Q ↔ T d 18 15 ls (.int 0 :: st) h Q := T_iconstV c18_14 (by decide)
theorem c18_15 : cod 18 15 = some (.putfield 15, 3) := cod_of b18 dX2_init_15
theorem t18_15 {d : Nat} {h : Hp} {Q : Pst} {a : Nat} {x : Int32} {ls : List Value} {st : List Value} : T d 18 15 ls (.int x :: .ref a :: st) h Q ↔ pF (h.2.2 a) 2 1 (.int x) (fun cell => T d 18 18 ls st (hup h a cell) Q) := T_putfieldR m18 c18_15 f2_15 (by decide +kernel)
theorem c18_18 : cod 18 18 = some (.aload_n 0, 1) := cod_of b18 dX2_init_18
theorem t18_18 {d : Nat} {h : Hp} {Q : Pst} {x : Nat} {st : List Value} : T d 18 18 [.ref x] st h Q ↔ T d 18 19 [.ref x] (.ref x :: st) h Q := T_aload_n c18_18 rfl
theorem c18_19 : cod 18 19 = some (.iconst 0, 1) := cod_of b18 dX2_init_19
theorem t18_19 {d : Nat} {h : Hp} {Q : Pst} {ls : List Value} {st : List Value} : T d 18 19 ls st h Q ↔ T d 18 20 ls (.int 0 :: st) h Q := T_iconstV c18_19 (by decide)
theorem c18_20 : cod 18 20 = some (.putfield 19, 3) := cod_of b18 dX2_init_20
theorem t18_20 {d : Nat} {h : Hp} {Q : Pst} {a : Nat} {x : Int32} {ls : List Value} {st : List Value} : T d 18 20 ls (.int x :: .ref a :: st) h Q ↔ pF (h.2.2 a) 2 2 (.int x) (fun cell => T d 18 23 ls st (hup h a cell) Q) := T_putfieldR m18 c18_20 f2_19 (by decide +kernel)
theorem c18_23 : cod 18 23 = some (.aload_n 0, 1) := cod_of b18 dX2_init_23
theorem t18_23 {d : Nat} {h : Hp} {Q : Pst} {x : Nat} {st : List Value} : T d 18 23 [.ref x] st h Q ↔ T d 18 24 [.ref x] (.ref x :: st) h Q := T_aload_n c18_23 rfl
theorem c18_24 : cod 18 24 = some (.iconst 0, 1) := cod_of b18 dX2_init_24
theorem t18_24 {d : Nat} {h : Hp} {Q : Pst} {ls : List Value} {st : List Value} : T d 18 24 ls st h Q ↔ T d 18 25 ls (.int 0 :: st) h Q := T_iconstV c18_24 (by decide)
theorem c18_25 : cod 18 25 = some (.putfield 22, 3) := cod_of b18 dX2_init_25
theorem t18_25 {d : Nat} {h : Hp} {Q : Pst} {a : Nat} {x : Int32} {ls : List Value} {st : List Value} : T d 18 25 ls (.int x :: .ref a :: st) h Q ↔ pF (h.2.2 a) 2 3 (.int x) (fun cell => T d 18 28 ls st (hup h a cell) Q) := T_putfieldR m18 c18_25 f2_22 (by decide +kernel)
theorem c18_28 : cod 18 28 = some (.aload_n 0, 1) := cod_of b18 dX2_init_28
theorem t18_28 {d : Nat} {h : Hp} {Q : Pst} {x : Nat} {st : List Value} : T d 18 28 [.ref x] st h Q ↔ T d 18 29 [.ref x] (.ref x :: st) h Q := T_aload_n c18_28 rfl
theorem c18_29 : cod 18 29 = some (.iconst 0, 1) := cod_of b18 dX2_init_29
theorem t18_29 {d : Nat} {h : Hp} {Q : Pst} {ls : List Value} {st : List Value} : T d 18 29 ls st h Q ↔ T d 18 30 ls (.int 0 :: st) h Q := T_iconstV c18_29 (by decide)
theorem c18_30 : cod 18 30 = some (.putfield 25, 3) := cod_of b18 dX2_init_30
theorem t18_30 {d : Nat} {h : Hp} {Q : Pst} {a : Nat} {x : Int32} {ls : List Value} {st : List Value} : T d 18 30 ls (.int x :: .ref a :: st) h Q ↔ pF (h.2.2 a) 2 4 (.int x) (fun cell => T d 18 33 ls st (hup h a cell) Q) := T_putfieldR m18 c18_30 f2_25 (by decide +kernel)
theorem c18_33 : cod 18 33 = some (.aload_n 0, 1) := cod_of b18 dX2_init_33
theorem t18_33 {d : Nat} {h : Hp} {Q : Pst} {x : Nat} {st : List Value} : T d 18 33 [.ref x] st h Q ↔ T d 18 34 [.ref x] (.ref x :: st) h Q := T_aload_n c18_33 rfl
theorem c18_34 : cod 18 34 = some (.iconst 0, 1) := cod_of b18 dX2_init_34
theorem t18_34 {d : Nat} {h : Hp} {Q : Pst} {ls : List Value} {st : List Value} : T d 18 34 ls st h Q ↔ T d 18 35 ls (.int 0 :: st) h Q := T_iconstV c18_34 (by decide)
theorem c18_35 : cod 18 35 = some (.putfield 28, 3) := cod_of b18 dX2_init_35
theorem t18_35 {d : Nat} {h : Hp} {Q : Pst} {a : Nat} {x : Int32} {ls : List Value} {st : List Value} : T d 18 35 ls (.int x :: .ref a :: st) h Q ↔ pF (h.2.2 a) 2 5 (.int x) (fun cell => T d 18 38 ls st (hup h a cell) Q) := T_putfieldR m18 c18_35 f2_28 (by decide +kernel)
theorem c18_38 : cod 18 38 = some (.aload_n 0, 1) := cod_of b18 dX2_init_38
theorem t18_38 {d : Nat} {h : Hp} {Q : Pst} {x : Nat} {st : List Value} : T d 18 38 [.ref x] st h Q ↔ T d 18 39 [.ref x] (.ref x :: st) h Q := T_aload_n c18_38 rfl
theorem c18_39 : cod 18 39 = some (.iconst (-1), 1) := cod_of b18 dX2_init_39
theorem t18_39 {d : Nat} {h : Hp} {Q : Pst} {ls : List Value} {st : List Value} : T d 18 39 ls st h Q ↔ T d 18 40 ls (.int (-1) :: st) h Q := T_iconstV c18_39 (by decide)
theorem c18_40 : cod 18 40 = some (.putfield 31, 3) := cod_of b18 dX2_init_40
theorem t18_40 {d : Nat} {h : Hp} {Q : Pst} {a : Nat} {x : Int32} {ls : List Value} {st : List Value} : T d 18 40 ls (.int x :: .ref a :: st) h Q ↔ pF (h.2.2 a) 2 6 (.int x) (fun cell => T d 18 43 ls st (hup h a cell) Q) := T_putfieldR m18 c18_40 f2_31 (by decide +kernel)
theorem c18_43 : cod 18 43 = some (.aload_n 0, 1) := cod_of b18 dX2_init_43
theorem t18_43 {d : Nat} {h : Hp} {Q : Pst} {x : Nat} {st : List Value} : T d 18 43 [.ref x] st h Q ↔ T d 18 44 [.ref x] (.ref x :: st) h Q := T_aload_n c18_43 rfl
theorem c18_44 : cod 18 44 = some (.iconst 0, 1) := cod_of b18 dX2_init_44
theorem t18_44 {d : Nat} {h : Hp} {Q : Pst} {ls : List Value} {st : List Value} : T d 18 44 ls st h Q ↔ T d 18 45 ls (.int 0 :: st) h Q := T_iconstV c18_44 (by decide)
theorem c18_45 : cod 18 45 = some (.putfield 34, 3) := cod_of b18 dX2_init_45
theorem t18_45 {d : Nat} {h : Hp} {Q : Pst} {a : Nat} {x : Int32} {ls : List Value} {st : List Value} : T d 18 45 ls (.int x :: .ref a :: st) h Q ↔ pF (h.2.2 a) 2 7 (.int x) (fun cell => T d 18 48 ls st (hup h a cell) Q) := T_putfieldR m18 c18_45 f2_34 (by decide +kernel)
theorem c18_48 : cod 18 48 = some (.aload_n 0, 1) := cod_of b18 dX2_init_48
theorem t18_48 {d : Nat} {h : Hp} {Q : Pst} {x : Nat} {st : List Value} : T d 18 48 [.ref x] st h Q ↔ T d 18 49 [.ref x] (.ref x :: st) h Q := T_aload_n c18_48 rfl
theorem c18_49 : cod 18 49 = some (.iconst 0, 1) := cod_of b18 dX2_init_49
theorem t18_49 {d : Nat} {h : Hp} {Q : Pst} {ls : List Value} {st : List Value} : T d 18 49 ls st h Q ↔ T d 18 50 ls (.int 0 :: st) h Q := T_iconstV c18_49 (by decide)
theorem c18_50 : cod 18 50 = some (.putfield 37, 3) := cod_of b18 dX2_init_50
theorem t18_50 {d : Nat} {h : Hp} {Q : Pst} {a : Nat} {x : Int32} {ls : List Value} {st : List Value} : T d 18 50 ls (.int x :: .ref a :: st) h Q ↔ pF (h.2.2 a) 2 8 (.int x) (fun cell => T d 18 53 ls st (hup h a cell) Q) := T_putfieldR m18 c18_50 f2_37 (by decide +kernel)
theorem c18_53 : cod 18 53 = some (.return_, 1) := cod_of b18 dX2_init_53
theorem t18_53 {d : Nat} {h : Hp} {Q : Pst} {ls : List Value} : T d 18 53 ls [] h Q ↔ Q none h := T_retR m18 c18_53 rfl
theorem b19 : (mR 19).2.2.1 = cX2_addByte := by rw [m19]
theorem c19_0 : cod 19 0 = some (.aload_n 0, 1) := cod_of b19 dX2_addByte_0
theorem t19_0 {d : Nat} {h : Hp} {Q : Pst} {l1 : Value} {x : Nat} {st : List Value} : T d 19 0 [.ref x, l1] st h Q ↔ T d 19 1 [.ref x, l1] (.ref x :: st) h Q := T_aload_n c19_0 rfl
theorem c19_1 : cod 19 1 = some (.getfield 9, 3) := cod_of b19 dX2_addByte_1
theorem t19_1 {d : Nat} {h : Hp} {Q : Pst} {a : Nat} {ls : List Value} {st : List Value} : T d 19 1 ls (.ref a :: st) h Q ↔ gF (h.2.2 a) 2 0 (fun v => T d 19 4 ls (v :: st) h Q) := T_getfieldR m19 c19_1 f2_9
theorem c19_4 : cod 19 4 = some (.aload_n 0, 1) := cod_of b19 dX2_addByte_4
theorem t19_4 {d : Nat} {h : Hp} {Q : Pst} {l1 : Value} {x : Nat} {st : List Value} : T d 19 4 [.ref x, l1] st h Q ↔ T d 19 5 [.ref x, l1] (.ref x :: st) h Q := T_aload_n c19_4 rfl
theorem c19_5 : cod 19 5 = some (.getfield 15, 3) := cod_of b19 dX2_addByte_5
theorem t19_5 {d : Nat} {h : Hp} {Q : Pst} {a : Nat} {ls : List Value} {st : List Value} : T d 19 5 ls (.ref a :: st) h Q ↔ gF (h.2.2 a) 2 1 (fun v => T d 19 8 ls (v :: st) h Q) := T_getfieldR m19 c19_5 f2_15
theorem c19_8 : cod 19 8 = some (.iload_n 1, 1) := cod_of b19 dX2_addByte_8
theorem t19_8 {d : Nat} {h : Hp} {Q : Pst} {l0 : Value} {x : Int32} {st : List Value} : T d 19 8 [l0, .int x] st h Q ↔ T d 19 9 [l0, .int x] (.int x :: st) h Q := T_iload_n c19_8 rfl
theorem c19_9 : cod 19 9 = some (.invokestatic 40, 3) := cod_of b19 dX2_addByte_9
theorem t19_9 {d : Nat} {h : Hp} {Q : Pst} {a0 : Nat} {a1 a2 : Int32} {ls : List Value} : T (d + 1) 19 9 ls [.int a2, .int a1, .ref a0] h Q ↔ T d 123 0 [.ref a0, .int a1, .int a2] [] h (fun x h2 => T (d + 1) 19 12 ls (rl x []) h2 Q) := T_staticR (as := [.ref a0, .int a1, .int a2]) (r := []) m19 m123 c19_9 k2_40 (Or.inr rfl) rfl (by decide) rfl (by simp [wrd, Value.category]) (by simp [stk, Value.category]) rfl
theorem c19_12 : cod 19 12 = some (.aload_n 0, 1) := cod_of b19 dX2_addByte_12
theorem t19_12 {d : Nat} {h : Hp} {Q : Pst} {l1 : Value} {x : Nat} {st : List Value} : T d 19 12 [.ref x, l1] st h Q ↔ T d 19 13 [.ref x, l1] (.ref x :: st) h Q := T_aload_n c19_12 rfl
theorem c19_13 : cod 19 13 = some (.dup, 1) := cod_of b19 dX2_addByte_13
theorem t19_13 {d : Nat} {h : Hp} {Q : Pst} {x : Nat} {ls : List Value} {st : List Value} : T d 19 13 ls (.ref x :: st) h Q ↔ T d 19 14 ls (.ref x :: .ref x :: st) h Q := T_dup c19_13 rfl
theorem c19_14 : cod 19 14 = some (.getfield 15, 3) := cod_of b19 dX2_addByte_14
theorem t19_14 {d : Nat} {h : Hp} {Q : Pst} {a : Nat} {ls : List Value} {st : List Value} : T d 19 14 ls (.ref a :: st) h Q ↔ gF (h.2.2 a) 2 1 (fun v => T d 19 17 ls (v :: st) h Q) := T_getfieldR m19 c19_14 f2_15
theorem c19_17 : cod 19 17 = some (.iconst 1, 1) := cod_of b19 dX2_addByte_17
theorem t19_17 {d : Nat} {h : Hp} {Q : Pst} {ls : List Value} {st : List Value} : T d 19 17 ls st h Q ↔ T d 19 18 ls (.int 1 :: st) h Q := T_iconstV c19_17 (by decide)
theorem c19_18 : cod 19 18 = some (.iadd, 1) := cod_of b19 dX2_addByte_18
theorem t19_18 {d : Nat} {h : Hp} {Q : Pst} {x y : Int32} {ls : List Value} {st : List Value} : T d 19 18 ls (.int y :: .int x :: st) h Q ↔ T d 19 19 ls (.int (x + y) :: st) h Q := T_iadd c19_18
theorem c19_19 : cod 19 19 = some (.putfield 15, 3) := cod_of b19 dX2_addByte_19
theorem t19_19 {d : Nat} {h : Hp} {Q : Pst} {a : Nat} {x : Int32} {ls : List Value} {st : List Value} : T d 19 19 ls (.int x :: .ref a :: st) h Q ↔ pF (h.2.2 a) 2 1 (.int x) (fun cell => T d 19 22 ls st (hup h a cell) Q) := T_putfieldR m19 c19_19 f2_15 (by decide +kernel)
theorem c19_22 : cod 19 22 = some (.aload_n 0, 1) := cod_of b19 dX2_addByte_22
theorem t19_22 {d : Nat} {h : Hp} {Q : Pst} {l1 : Value} {x : Nat} {st : List Value} : T d 19 22 [.ref x, l1] st h Q ↔ T d 19 23 [.ref x, l1] (.ref x :: st) h Q := T_aload_n c19_22 rfl
theorem c19_23 : cod 19 23 = some (.getfield 15, 3) := cod_of b19 dX2_addByte_23
theorem t19_23 {d : Nat} {h : Hp} {Q : Pst} {a : Nat} {ls : List Value} {st : List Value} : T d 19 23 ls (.ref a :: st) h Q ↔ gF (h.2.2 a) 2 1 (fun v => T d 19 26 ls (v :: st) h Q) := T_getfieldR m19 c19_23 f2_15
theorem c19_26 : cod 19 26 = some (.ireturn, 1) := cod_of b19 dX2_addByte_26
theorem t19_26 {d : Nat} {h : Hp} {Q : Pst} {x : Int32} {ls : List Value} : T d 19 26 ls [.int x] h Q ↔ Q (some (.int x)) h := T_iretR m19 c19_26 rfl
theorem b20 : (mR 20).2.2.1 = cX2_readItem := by rw [m20]
theorem c20_0 : cod 20 0 = some (.aload_n 0, 1) := cod_of b20 dX2_readItem_0
theorem t20_0 {d : Nat} {h : Hp} {Q : Pst} {l1 l2 : Value} {x : Nat} {st : List Value} : T d 20 0 [.ref x, l1, l2] st h Q ↔ T d 20 1 [.ref x, l1, l2] (.ref x :: st) h Q := T_aload_n c20_0 rfl
theorem c20_1 : cod 20 1 = some (.aload_n 0, 1) := cod_of b20 dX2_readItem_1
theorem t20_1 {d : Nat} {h : Hp} {Q : Pst} {l1 l2 : Value} {x : Nat} {st : List Value} : T d 20 1 [.ref x, l1, l2] st h Q ↔ T d 20 2 [.ref x, l1, l2] (.ref x :: st) h Q := T_aload_n c20_1 rfl
theorem c20_2 : cod 20 2 = some (.getfield 25, 3) := cod_of b20 dX2_readItem_2
theorem t20_2 {d : Nat} {h : Hp} {Q : Pst} {a : Nat} {ls : List Value} {st : List Value} : T d 20 2 ls (.ref a :: st) h Q ↔ gF (h.2.2 a) 2 4 (fun v => T d 20 5 ls (v :: st) h Q) := T_getfieldR m20 c20_2 f2_25
theorem c20_5 : cod 20 5 = some (.iconst 1, 1) := cod_of b20 dX2_readItem_5
theorem t20_5 {d : Nat} {h : Hp} {Q : Pst} {ls : List Value} {st : List Value} : T d 20 5 ls st h Q ↔ T d 20 6 ls (.int 1 :: st) h Q := T_iconstV c20_5 (by decide)
theorem c20_6 : cod 20 6 = some (.if_icmp .ne 10, 3) := cod_of b20 dX2_readItem_6
theorem t20_6 {d : Nat} {h : Hp} {Q : Pst} {x y : Int32} {ls : List Value} {st : List Value} : T d 20 6 ls (.int y :: .int x :: st) h Q ↔ (if ¬ x = y then T d 20 16 ls st h Q else T d 20 9 ls st h Q) := T_icmp_ne c20_6 (by decide)
theorem c20_9 : cod 20 9 = some (.aload_n 0, 1) := cod_of b20 dX2_readItem_9
theorem t20_9 {d : Nat} {h : Hp} {Q : Pst} {l1 l2 : Value} {x : Nat} {st : List Value} : T d 20 9 [.ref x, l1, l2] st h Q ↔ T d 20 10 [.ref x, l1, l2] (.ref x :: st) h Q := T_aload_n c20_9 rfl
theorem c20_10 : cod 20 10 = some (.getfield 28, 3) := cod_of b20 dX2_readItem_10
theorem t20_10 {d : Nat} {h : Hp} {Q : Pst} {a : Nat} {ls : List Value} {st : List Value} : T d 20 10 ls (.ref a :: st) h Q ↔ gF (h.2.2 a) 2 5 (fun v => T d 20 13 ls (v :: st) h Q) := T_getfieldR m20 c20_10 f2_28
theorem c20_13 : cod 20 13 = some (.goto 4, 3) := cod_of b20 dX2_readItem_13
theorem t20_13 {d : Nat} {h : Hp} {Q : Pst} {ls : List Value} {st : List Value} : T d 20 13 ls st h Q ↔ T d 20 17 ls st h Q := T_goto c20_13 (by decide)
theorem c20_17 : cod 20 17 = some (.putfield 31, 3) := cod_of b20 dX2_readItem_17
theorem t20_17 {d : Nat} {h : Hp} {Q : Pst} {a : Nat} {x : Int32} {ls : List Value} {st : List Value} : T d 20 17 ls (.int x :: .ref a :: st) h Q ↔ pF (h.2.2 a) 2 6 (.int x) (fun cell => T d 20 20 ls st (hup h a cell) Q) := T_putfieldR m20 c20_17 f2_31 (by decide +kernel)
theorem c20_20 : cod 20 20 = some (.aload_n 0, 1) := cod_of b20 dX2_readItem_20
theorem t20_20 {d : Nat} {h : Hp} {Q : Pst} {l1 l2 : Value} {x : Nat} {st : List Value} : T d 20 20 [.ref x, l1, l2] st h Q ↔ T d 20 21 [.ref x, l1, l2] (.ref x :: st) h Q := T_aload_n c20_20 rfl
theorem c20_21 : cod 20 21 = some (.getfield 31, 3) := cod_of b20 dX2_readItem_21
theorem t20_21 {d : Nat} {h : Hp} {Q : Pst} {a : Nat} {ls : List Value} {st : List Value} : T d 20 21 ls (.ref a :: st) h Q ↔ gF (h.2.2 a) 2 6 (fun v => T d 20 24 ls (v :: st) h Q) := T_getfieldR m20 c20_21 f2_31
theorem c20_24 : cod 20 24 = some (.iconst (-1), 1) := cod_of b20 dX2_readItem_24
theorem t20_24 {d : Nat} {h : Hp} {Q : Pst} {ls : List Value} {st : List Value} : T d 20 24 ls st h Q ↔ T d 20 25 ls (.int (-1) :: st) h Q := T_iconstV c20_24 (by decide)
theorem c20_25 : cod 20 25 = some (.if_icmp .eq 27, 3) := cod_of b20 dX2_readItem_25
theorem t20_25 {d : Nat} {h : Hp} {Q : Pst} {x y : Int32} {ls : List Value} {st : List Value} : T d 20 25 ls (.int y :: .int x :: st) h Q ↔ (if x = y then T d 20 52 ls st h Q else T d 20 28 ls st h Q) := T_icmp_eq c20_25 (by decide)
theorem c20_28 : cod 20 28 = some (.iload_n 2, 1) := cod_of b20 dX2_readItem_28
theorem t20_28 {d : Nat} {h : Hp} {Q : Pst} {l0 l1 : Value} {x : Int32} {st : List Value} : T d 20 28 [l0, l1, .int x] st h Q ↔ T d 20 29 [l0, l1, .int x] (.int x :: st) h Q := T_iload_n c20_28 rfl
theorem c20_29 : cod 20 29 = some (.aload_n 0, 1) := cod_of b20 dX2_readItem_29
theorem t20_29 {d : Nat} {h : Hp} {Q : Pst} {l1 l2 : Value} {x : Nat} {st : List Value} : T d 20 29 [.ref x, l1, l2] st h Q ↔ T d 20 30 [.ref x, l1, l2] (.ref x :: st) h Q := T_aload_n c20_29 rfl
theorem c20_30 : cod 20 30 = some (.getfield 31, 3) := cod_of b20 dX2_readItem_30
theorem t20_30 {d : Nat} {h : Hp} {Q : Pst} {a : Nat} {ls : List Value} {st : List Value} : T d 20 30 ls (.ref a :: st) h Q ↔ gF (h.2.2 a) 2 6 (fun v => T d 20 33 ls (v :: st) h Q) := T_getfieldR m20 c20_30 f2_31
theorem c20_33 : cod 20 33 = some (.ifCond .ne 7, 3) := cod_of b20 dX2_readItem_33
theorem t20_33 {d : Nat} {h : Hp} {Q : Pst} {x : Int32} {ls : List Value} {st : List Value} : T d 20 33 ls (.int x :: st) h Q ↔ (if ¬ x = 0 then T d 20 40 ls st h Q else T d 20 36 ls st h Q) := T_if_ne c20_33 (by decide)
theorem c20_36 : cod 20 36 = some (.iconst 1, 1) := cod_of b20 dX2_readItem_36
theorem t20_36 {d : Nat} {h : Hp} {Q : Pst} {ls : List Value} {st : List Value} : T d 20 36 ls st h Q ↔ T d 20 37 ls (.int 1 :: st) h Q := T_iconstV c20_36 (by decide)
theorem c20_37 : cod 20 37 = some (.goto 4, 3) := cod_of b20 dX2_readItem_37
theorem t20_37 {d : Nat} {h : Hp} {Q : Pst} {ls : List Value} {st : List Value} : T d 20 37 ls st h Q ↔ T d 20 41 ls st h Q := T_goto c20_37 (by decide)
theorem c20_41 : cod 20 41 = some (.if_icmp .ne 11, 3) := cod_of b20 dX2_readItem_41
theorem t20_41 {d : Nat} {h : Hp} {Q : Pst} {x y : Int32} {ls : List Value} {st : List Value} : T d 20 41 ls (.int y :: .int x :: st) h Q ↔ (if ¬ x = y then T d 20 52 ls st h Q else T d 20 44 ls st h Q) := T_icmp_ne c20_41 (by decide)
theorem c20_44 : cod 20 44 = some (.aload_n 0, 1) := cod_of b20 dX2_readItem_44
theorem t20_44 {d : Nat} {h : Hp} {Q : Pst} {l1 l2 : Value} {x : Nat} {st : List Value} : T d 20 44 [.ref x, l1, l2] st h Q ↔ T d 20 45 [.ref x, l1, l2] (.ref x :: st) h Q := T_aload_n c20_44 rfl
theorem c20_45 : cod 20 45 = some (.aload_n 1, 1) := cod_of b20 dX2_readItem_45
theorem t20_45 {d : Nat} {h : Hp} {Q : Pst} {l0 l2 : Value} {x : Nat} {st : List Value} : T d 20 45 [l0, .ref x, l2] st h Q ↔ T d 20 46 [l0, .ref x, l2] (.ref x :: st) h Q := T_aload_n c20_45 rfl
theorem c20_46 : cod 20 46 = some (.invokevirtual 44, 3) := cod_of b20 dX2_readItem_46
theorem t20_46 {d : Nat} {h : Hp} {Q : Pst} {a0 a : Nat} {ls : List Value} (ho : isO (h.2.2 a) 2) : T (d + 1) 20 46 ls [.ref a0, .ref a] h Q ↔ T d 21 0 [.ref a, .ref a0] [] h (fun x h2 => T (d + 1) 20 49 ls (rl x []) h2 Q) := T_virtualR (as := [.ref a0]) (r := []) m20 m21 c20_46 k2_44  rfl (by decide) rfl (by simp [wrd, Value.category]) (by simp [stk, Value.category]) rfl (by decide +kernel) ho
theorem c20_49 : cod 20 49 = some (.ifCond .ne 5, 3) := cod_of b20 dX2_readItem_49
theorem t20_49 {d : Nat} {h : Hp} {Q : Pst} {x : Int32} {ls : List Value} {st : List Value} : T d 20 49 ls (.int x :: st) h Q ↔ (if ¬ x = 0 then T d 20 54 ls st h Q else T d 20 52 ls st h Q) := T_if_ne c20_49 (by decide)
theorem c20_54 : cod 20 54 = some (.aload_n 0, 1) := cod_of b20 dX2_readItem_54
theorem t20_54 {d : Nat} {h : Hp} {Q : Pst} {l1 l2 : Value} {x : Nat} {st : List Value} : T d 20 54 [.ref x, l1, l2] st h Q ↔ T d 20 55 [.ref x, l1, l2] (.ref x :: st) h Q := T_aload_n c20_54 rfl
theorem c20_55 : cod 20 55 = some (.iconst 0, 1) := cod_of b20 dX2_readItem_55
theorem t20_55 {d : Nat} {h : Hp} {Q : Pst} {ls : List Value} {st : List Value} : T d 20 55 ls st h Q ↔ T d 20 56 ls (.int 0 :: st) h Q := T_iconstV c20_55 (by decide)
theorem c20_56 : cod 20 56 = some (.aload_n 1, 1) := cod_of b20 dX2_readItem_56
theorem t20_56 {d : Nat} {h : Hp} {Q : Pst} {l0 l2 : Value} {x : Nat} {st : List Value} : T d 20 56 [l0, .ref x, l2] st h Q ↔ T d 20 57 [l0, .ref x, l2] (.ref x :: st) h Q := T_aload_n c20_56 rfl
theorem c20_57 : cod 20 57 = some (.invokevirtual 48, 3) := cod_of b20 dX2_readItem_57
theorem t20_57 {d : Nat} {h : Hp} {Q : Pst} {a0 : Int32} {a1 a : Nat} {ls : List Value} (ho : isO (h.2.2 a) 2) : T (d + 1) 20 57 ls [.ref a1, .int a0, .ref a] h Q ↔ T d 23 0 [.ref a, .int a0, .ref a1] [] h (fun x h2 => T (d + 1) 20 60 ls (rl x []) h2 Q) := T_virtualR (as := [.int a0, .ref a1]) (r := []) m20 m23 c20_57 k2_48  rfl (by decide) rfl (by simp [wrd, Value.category]) (by simp [stk, Value.category]) rfl (by decide +kernel) ho
theorem c20_60 : cod 20 60 = some (.ifCond .ne 5, 3) := cod_of b20 dX2_readItem_60
theorem t20_60 {d : Nat} {h : Hp} {Q : Pst} {x : Int32} {ls : List Value} {st : List Value} : T d 20 60 ls (.int x :: st) h Q ↔ (if ¬ x = 0 then T d 20 65 ls st h Q else T d 20 63 ls st h Q) := T_if_ne c20_60 (by decide)
theorem c20_63 : cod 20 63 = some (.iconst 0, 1) := cod_of b20 dX2_readItem_63
theorem t20_63 {d : Nat} {h : Hp} {Q : Pst} {ls : List Value} {st : List Value} : T d 20 63 ls st h Q ↔ T d 20 64 ls (.int 0 :: st) h Q := T_iconstV c20_63 (by decide)
theorem c20_64 : cod 20 64 = some (.ireturn, 1) := cod_of b20 dX2_readItem_64
theorem t20_64 {d : Nat} {h : Hp} {Q : Pst} {x : Int32} {ls : List Value} : T d 20 64 ls [.int x] h Q ↔ (narrow .boolean (.int x) = .int x ∧ Q (some (.int x)) h) := T_zretR m20 c20_64 rfl
theorem c20_65 : cod 20 65 = some (.aload_n 0, 1) := cod_of b20 dX2_readItem_65
theorem t20_65 {d : Nat} {h : Hp} {Q : Pst} {l1 l2 : Value} {x : Nat} {st : List Value} : T d 20 65 [.ref x, l1, l2] st h Q ↔ T d 20 66 [.ref x, l1, l2] (.ref x :: st) h Q := T_aload_n c20_65 rfl
theorem c20_66 : cod 20 66 = some (.aload_n 0, 1) := cod_of b20 dX2_readItem_66
theorem t20_66 {d : Nat} {h : Hp} {Q : Pst} {l1 l2 : Value} {x : Nat} {st : List Value} : T d 20 66 [.ref x, l1, l2] st h Q ↔ T d 20 67 [.ref x, l1, l2] (.ref x :: st) h Q := T_aload_n c20_66 rfl
theorem c20_67 : cod 20 67 = some (.getfield 28, 3) := cod_of b20 dX2_readItem_67
theorem t20_67 {d : Nat} {h : Hp} {Q : Pst} {a : Nat} {ls : List Value} {st : List Value} : T d 20 67 ls (.ref a :: st) h Q ↔ gF (h.2.2 a) 2 5 (fun v => T d 20 70 ls (v :: st) h Q) := T_getfieldR m20 c20_67 f2_28
theorem c20_70 : cod 20 70 = some (.putfield 34, 3) := cod_of b20 dX2_readItem_70
theorem t20_70 {d : Nat} {h : Hp} {Q : Pst} {a : Nat} {x : Int32} {ls : List Value} {st : List Value} : T d 20 70 ls (.int x :: .ref a :: st) h Q ↔ pF (h.2.2 a) 2 7 (.int x) (fun cell => T d 20 73 ls st (hup h a cell) Q) := T_putfieldR m20 c20_70 f2_34 (by decide +kernel)
theorem c20_73 : cod 20 73 = some (.aload_n 0, 1) := cod_of b20 dX2_readItem_73
theorem t20_73 {d : Nat} {h : Hp} {Q : Pst} {l1 l2 : Value} {x : Nat} {st : List Value} : T d 20 73 [.ref x, l1, l2] st h Q ↔ T d 20 74 [.ref x, l1, l2] (.ref x :: st) h Q := T_aload_n c20_73 rfl
theorem c20_74 : cod 20 74 = some (.invokevirtual 52, 3) := cod_of b20 dX2_readItem_74
theorem t20_74 {d : Nat} {h : Hp} {Q : Pst} {a : Nat} {ls : List Value} (ho : isO (h.2.2 a) 2) : T (d + 1) 20 74 ls [.ref a] h Q ↔ T d 22 0 [.ref a] [] h (fun x h2 => T (d + 1) 20 77 ls (rl x []) h2 Q) := T_virtualR (as := []) (r := []) m20 m22 c20_74 k2_52  rfl (by decide) rfl (by simp [wrd, Value.category]) (by simp [stk, Value.category]) rfl (by decide +kernel) ho
theorem c20_77 : cod 20 77 = some (.ifCond .eq 14, 3) := cod_of b20 dX2_readItem_77
theorem t20_77 {d : Nat} {h : Hp} {Q : Pst} {x : Int32} {ls : List Value} {st : List Value} : T d 20 77 ls (.int x :: st) h Q ↔ (if x = 0 then T d 20 91 ls st h Q else T d 20 80 ls st h Q) := T_if_eq c20_77 (by decide)
theorem c20_80 : cod 20 80 = some (.aload_n 0, 1) := cod_of b20 dX2_readItem_80
theorem t20_80 {d : Nat} {h : Hp} {Q : Pst} {l1 l2 : Value} {x : Nat} {st : List Value} : T d 20 80 [.ref x, l1, l2] st h Q ↔ T d 20 81 [.ref x, l1, l2] (.ref x :: st) h Q := T_aload_n c20_80 rfl
theorem c20_81 : cod 20 81 = some (.iconst 1, 1) := cod_of b20 dX2_readItem_81
theorem t20_81 {d : Nat} {h : Hp} {Q : Pst} {ls : List Value} {st : List Value} : T d 20 81 ls st h Q ↔ T d 20 82 ls (.int 1 :: st) h Q := T_iconstV c20_81 (by decide)
theorem c20_82 : cod 20 82 = some (.aload_n 1, 1) := cod_of b20 dX2_readItem_82
theorem t20_82 {d : Nat} {h : Hp} {Q : Pst} {l0 l2 : Value} {x : Nat} {st : List Value} : T d 20 82 [l0, .ref x, l2] st h Q ↔ T d 20 83 [l0, .ref x, l2] (.ref x :: st) h Q := T_aload_n c20_82 rfl
theorem c20_83 : cod 20 83 = some (.invokevirtual 48, 3) := cod_of b20 dX2_readItem_83
theorem t20_83 {d : Nat} {h : Hp} {Q : Pst} {a0 : Int32} {a1 a : Nat} {ls : List Value} (ho : isO (h.2.2 a) 2) : T (d + 1) 20 83 ls [.ref a1, .int a0, .ref a] h Q ↔ T d 23 0 [.ref a, .int a0, .ref a1] [] h (fun x h2 => T (d + 1) 20 86 ls (rl x []) h2 Q) := T_virtualR (as := [.int a0, .ref a1]) (r := []) m20 m23 c20_83 k2_48  rfl (by decide) rfl (by simp [wrd, Value.category]) (by simp [stk, Value.category]) rfl (by decide +kernel) ho
theorem c20_86 : cod 20 86 = some (.ifCond .ne 5, 3) := cod_of b20 dX2_readItem_86
theorem t20_86 {d : Nat} {h : Hp} {Q : Pst} {x : Int32} {ls : List Value} {st : List Value} : T d 20 86 ls (.int x :: st) h Q ↔ (if ¬ x = 0 then T d 20 91 ls st h Q else T d 20 89 ls st h Q) := T_if_ne c20_86 (by decide)
theorem c20_89 : cod 20 89 = some (.iconst 0, 1) := cod_of b20 dX2_readItem_89
theorem t20_89 {d : Nat} {h : Hp} {Q : Pst} {ls : List Value} {st : List Value} : T d 20 89 ls st h Q ↔ T d 20 90 ls (.int 0 :: st) h Q := T_iconstV c20_89 (by decide)
theorem c20_90 : cod 20 90 = some (.ireturn, 1) := cod_of b20 dX2_readItem_90
theorem t20_90 {d : Nat} {h : Hp} {Q : Pst} {x : Int32} {ls : List Value} : T d 20 90 ls [.int x] h Q ↔ (narrow .boolean (.int x) = .int x ∧ Q (some (.int x)) h) := T_zretR m20 c20_90 rfl
theorem c20_91 : cod 20 91 = some (.aload_n 0, 1) := cod_of b20 dX2_readItem_91
theorem t20_91 {d : Nat} {h : Hp} {Q : Pst} {l1 l2 : Value} {x : Nat} {st : List Value} : T d 20 91 [.ref x, l1, l2] st h Q ↔ T d 20 92 [.ref x, l1, l2] (.ref x :: st) h Q := T_aload_n c20_91 rfl
theorem c20_92 : cod 20 92 = some (.aload_n 0, 1) := cod_of b20 dX2_readItem_92
theorem t20_92 {d : Nat} {h : Hp} {Q : Pst} {l1 l2 : Value} {x : Nat} {st : List Value} : T d 20 92 [.ref x, l1, l2] st h Q ↔ T d 20 93 [.ref x, l1, l2] (.ref x :: st) h Q := T_aload_n c20_92 rfl
theorem c20_93 : cod 20 93 = some (.getfield 28, 3) := cod_of b20 dX2_readItem_93
theorem t20_93 {d : Nat} {h : Hp} {Q : Pst} {a : Nat} {ls : List Value} {st : List Value} : T d 20 93 ls (.ref a :: st) h Q ↔ gF (h.2.2 a) 2 5 (fun v => T d 20 96 ls (v :: st) h Q) := T_getfieldR m20 c20_93 f2_28
theorem c20_96 : cod 20 96 = some (.putfield 37, 3) := cod_of b20 dX2_readItem_96
theorem t20_96 {d : Nat} {h : Hp} {Q : Pst} {a : Nat} {x : Int32} {ls : List Value} {st : List Value} : T d 20 96 ls (.int x :: .ref a :: st) h Q ↔ pF (h.2.2 a) 2 8 (.int x) (fun cell => T d 20 99 ls st (hup h a cell) Q) := T_putfieldR m20 c20_96 f2_37 (by decide +kernel)
theorem c20_99 : cod 20 99 = some (.aload_n 0, 1) := cod_of b20 dX2_readItem_99
theorem t20_99 {d : Nat} {h : Hp} {Q : Pst} {l1 l2 : Value} {x : Nat} {st : List Value} : T d 20 99 [.ref x, l1, l2] st h Q ↔ T d 20 100 [.ref x, l1, l2] (.ref x :: st) h Q := T_aload_n c20_99 rfl
theorem c20_100 : cod 20 100 = some (.invokevirtual 56, 3) := cod_of b20 dX2_readItem_100
theorem t20_100 {d : Nat} {h : Hp} {Q : Pst} {a : Nat} {ls : List Value} (ho : isO (h.2.2 a) 2) : T (d + 1) 20 100 ls [.ref a] h Q ↔ T d 27 0 [.ref a, un] [] h (fun x h2 => T (d + 1) 20 103 ls (rl x []) h2 Q) := T_virtualR (as := []) (r := []) m20 m27 c20_100 k2_56  rfl (by decide) rfl (by simp [wrd, Value.category]) (by simp [stk, Value.category]) rfl (by decide +kernel) ho
theorem c20_103 : cod 20 103 = some (.aload_n 0, 1) := cod_of b20 dX2_readItem_103
theorem t20_103 {d : Nat} {h : Hp} {Q : Pst} {l1 l2 : Value} {x : Nat} {st : List Value} : T d 20 103 [.ref x, l1, l2] st h Q ↔ T d 20 104 [.ref x, l1, l2] (.ref x :: st) h Q := T_aload_n c20_103 rfl
theorem c20_104 : cod 20 104 = some (.getfield 25, 3) := cod_of b20 dX2_readItem_104
theorem t20_104 {d : Nat} {h : Hp} {Q : Pst} {a : Nat} {ls : List Value} {st : List Value} : T d 20 104 ls (.ref a :: st) h Q ↔ gF (h.2.2 a) 2 4 (fun v => T d 20 107 ls (v :: st) h Q) := T_getfieldR m20 c20_104 f2_25
theorem c20_107 : cod 20 107 = some (.iconst 3, 1) := cod_of b20 dX2_readItem_107
theorem t20_107 {d : Nat} {h : Hp} {Q : Pst} {ls : List Value} {st : List Value} : T d 20 107 ls st h Q ↔ T d 20 108 ls (.int 3 :: st) h Q := T_iconstV c20_107 (by decide)
theorem c20_108 : cod 20 108 = some (.if_icmp .ne 7, 3) := cod_of b20 dX2_readItem_108
theorem t20_108 {d : Nat} {h : Hp} {Q : Pst} {x y : Int32} {ls : List Value} {st : List Value} : T d 20 108 ls (.int y :: .int x :: st) h Q ↔ (if ¬ x = y then T d 20 115 ls st h Q else T d 20 111 ls st h Q) := T_icmp_ne c20_108 (by decide)
theorem c20_111 : cod 20 111 = some (.iconst 1, 1) := cod_of b20 dX2_readItem_111
theorem t20_111 {d : Nat} {h : Hp} {Q : Pst} {ls : List Value} {st : List Value} : T d 20 111 ls st h Q ↔ T d 20 112 ls (.int 1 :: st) h Q := T_iconstV c20_111 (by decide)
theorem c20_112 : cod 20 112 = some (.goto 4, 3) := cod_of b20 dX2_readItem_112
theorem t20_112 {d : Nat} {h : Hp} {Q : Pst} {ls : List Value} {st : List Value} : T d 20 112 ls st h Q ↔ T d 20 116 ls st h Q := T_goto c20_112 (by decide)
theorem c20_116 : cod 20 116 = some (.ireturn, 1) := cod_of b20 dX2_readItem_116
theorem t20_116 {d : Nat} {h : Hp} {Q : Pst} {x : Int32} {ls : List Value} : T d 20 116 ls [.int x] h Q ↔ (narrow .boolean (.int x) = .int x ∧ Q (some (.int x)) h) := T_zretR m20 c20_116 rfl
theorem c20_115 : cod 20 115 = some (.iconst 0, 1) := cod_of b20 dX2_readItem_115
theorem t20_115 {d : Nat} {h : Hp} {Q : Pst} {ls : List Value} {st : List Value} : T d 20 115 ls st h Q ↔ T d 20 116 ls (.int 0 :: st) h Q := T_iconstV c20_115 (by decide)
theorem c20_40 : cod 20 40 = some (.iconst 0, 1) := cod_of b20 dX2_readItem_40
theorem t20_40 {d : Nat} {h : Hp} {Q : Pst} {ls : List Value} {st : List Value} : T d 20 40 ls st h Q ↔ T d 20 41 ls (.int 0 :: st) h Q := T_iconstV c20_40 (by decide)
theorem c20_52 : cod 20 52 = some (.iconst 0, 1) := cod_of b20 dX2_readItem_52
theorem t20_52 {d : Nat} {h : Hp} {Q : Pst} {ls : List Value} {st : List Value} : T d 20 52 ls st h Q ↔ T d 20 53 ls (.int 0 :: st) h Q := T_iconstV c20_52 (by decide)
theorem c20_53 : cod 20 53 = some (.ireturn, 1) := cod_of b20 dX2_readItem_53
theorem t20_53 {d : Nat} {h : Hp} {Q : Pst} {x : Int32} {ls : List Value} : T d 20 53 ls [.int x] h Q ↔ (narrow .boolean (.int x) = .int x ∧ Q (some (.int x)) h) := T_zretR m20 c20_53 rfl
theorem c20_16 : cod 20 16 = some (.iconst (-1), 1) := cod_of b20 dX2_readItem_16
theorem t20_16 {d : Nat} {h : Hp} {Q : Pst} {ls : List Value} {st : List Value} : T d 20 16 ls st h Q ↔ T d 20 17 ls (.int (-1) :: st) h Q := T_iconstV c20_16 (by decide)
theorem b21 : (mR 21).2.2.1 = cX2_hasRoom := by rw [m21]
theorem c21_0 : cod 21 0 = some (.aload_n 0, 1) := cod_of b21 dX2_hasRoom_0
theorem t21_0 {d : Nat} {h : Hp} {Q : Pst} {l1 : Value} {x : Nat} {st : List Value} : T d 21 0 [.ref x, l1] st h Q ↔ T d 21 1 [.ref x, l1] (.ref x :: st) h Q := T_aload_n c21_0 rfl
theorem c21_1 : cod 21 1 = some (.getfield 31, 3) := cod_of b21 dX2_hasRoom_1
theorem t21_1 {d : Nat} {h : Hp} {Q : Pst} {a : Nat} {ls : List Value} {st : List Value} : T d 21 1 ls (.ref a :: st) h Q ↔ gF (h.2.2 a) 2 6 (fun v => T d 21 4 ls (v :: st) h Q) := T_getfieldR m21 c21_1 f2_31
theorem c21_4 : cod 21 4 = some (.iconst 1, 1) := cod_of b21 dX2_hasRoom_4
theorem t21_4 {d : Nat} {h : Hp} {Q : Pst} {ls : List Value} {st : List Value} : T d 21 4 ls st h Q ↔ T d 21 5 ls (.int 1 :: st) h Q := T_iconstV c21_4 (by decide)
theorem c21_5 : cod 21 5 = some (.if_icmp .ne 18, 3) := cod_of b21 dX2_hasRoom_5
theorem t21_5 {d : Nat} {h : Hp} {Q : Pst} {x y : Int32} {ls : List Value} {st : List Value} : T d 21 5 ls (.int y :: .int x :: st) h Q ↔ (if ¬ x = y then T d 21 23 ls st h Q else T d 21 8 ls st h Q) := T_icmp_ne c21_5 (by decide)
theorem c21_8 : cod 21 8 = some (.aload_n 1, 1) := cod_of b21 dX2_hasRoom_8
theorem t21_8 {d : Nat} {h : Hp} {Q : Pst} {l0 : Value} {x : Nat} {st : List Value} : T d 21 8 [l0, .ref x] st h Q ↔ T d 21 9 [l0, .ref x] (.ref x :: st) h Q := T_aload_n c21_8 rfl
theorem c21_9 : cod 21 9 = some (.getfield 59, 3) := cod_of b21 dX2_hasRoom_9
theorem t21_9 {d : Nat} {h : Hp} {Q : Pst} {a : Nat} {ls : List Value} {st : List Value} : T d 21 9 ls (.ref a :: st) h Q ↔ gF (h.2.2 a) 5 10 (fun v => T d 21 12 ls (v :: st) h Q) := T_getfieldR m21 c21_9 f2_59
theorem c21_12 : cod 21 12 = some (.bipush 6, 2) := cod_of b21 dX2_hasRoom_12
theorem t21_12 {d : Nat} {h : Hp} {Q : Pst} {ls : List Value} {st : List Value} : T d 21 12 ls st h Q ↔ T d 21 14 ls (.int 6 :: st) h Q := T_bipushV c21_12 (by decide)
theorem c21_14 : cod 21 14 = some (.if_icmp .ge 7, 3) := cod_of b21 dX2_hasRoom_14
theorem t21_14 {d : Nat} {h : Hp} {Q : Pst} {x y : Int32} {ls : List Value} {st : List Value} : T d 21 14 ls (.int y :: .int x :: st) h Q ↔ (if y ≤ x then T d 21 21 ls st h Q else T d 21 17 ls st h Q) := T_icmp_ge c21_14 (by decide)
theorem c21_17 : cod 21 17 = some (.iconst 1, 1) := cod_of b21 dX2_hasRoom_17
theorem t21_17 {d : Nat} {h : Hp} {Q : Pst} {ls : List Value} {st : List Value} : T d 21 17 ls st h Q ↔ T d 21 18 ls (.int 1 :: st) h Q := T_iconstV c21_17 (by decide)
theorem c21_18 : cod 21 18 = some (.goto 4, 3) := cod_of b21 dX2_hasRoom_18
theorem t21_18 {d : Nat} {h : Hp} {Q : Pst} {ls : List Value} {st : List Value} : T d 21 18 ls st h Q ↔ T d 21 22 ls st h Q := T_goto c21_18 (by decide)
theorem c21_22 : cod 21 22 = some (.ireturn, 1) := cod_of b21 dX2_hasRoom_22
theorem t21_22 {d : Nat} {h : Hp} {Q : Pst} {x : Int32} {ls : List Value} : T d 21 22 ls [.int x] h Q ↔ (narrow .boolean (.int x) = .int x ∧ Q (some (.int x)) h) := T_zretR m21 c21_22 rfl
theorem c21_21 : cod 21 21 = some (.iconst 0, 1) := cod_of b21 dX2_hasRoom_21
theorem t21_21 {d : Nat} {h : Hp} {Q : Pst} {ls : List Value} {st : List Value} : T d 21 21 ls st h Q ↔ T d 21 22 ls (.int 0 :: st) h Q := T_iconstV c21_21 (by decide)
theorem c21_23 : cod 21 23 = some (.aload_n 0, 1) := cod_of b21 dX2_hasRoom_23
theorem t21_23 {d : Nat} {h : Hp} {Q : Pst} {l1 : Value} {x : Nat} {st : List Value} : T d 21 23 [.ref x, l1] st h Q ↔ T d 21 24 [.ref x, l1] (.ref x :: st) h Q := T_aload_n c21_23 rfl
theorem c21_24 : cod 21 24 = some (.getfield 31, 3) := cod_of b21 dX2_hasRoom_24
theorem t21_24 {d : Nat} {h : Hp} {Q : Pst} {a : Nat} {ls : List Value} {st : List Value} : T d 21 24 ls (.ref a :: st) h Q ↔ gF (h.2.2 a) 2 6 (fun v => T d 21 27 ls (v :: st) h Q) := T_getfieldR m21 c21_24 f2_31
theorem c21_27 : cod 21 27 = some (.iconst 2, 1) := cod_of b21 dX2_hasRoom_27
theorem t21_27 {d : Nat} {h : Hp} {Q : Pst} {ls : List Value} {st : List Value} : T d 21 27 ls st h Q ↔ T d 21 28 ls (.int 2 :: st) h Q := T_iconstV c21_27 (by decide)
theorem c21_28 : cod 21 28 = some (.if_icmp .ne 11, 3) := cod_of b21 dX2_hasRoom_28
theorem t21_28 {d : Nat} {h : Hp} {Q : Pst} {x y : Int32} {ls : List Value} {st : List Value} : T d 21 28 ls (.int y :: .int x :: st) h Q ↔ (if ¬ x = y then T d 21 39 ls st h Q else T d 21 31 ls st h Q) := T_icmp_ne c21_28 (by decide)
theorem c21_31 : cod 21 31 = some (.aload_n 1, 1) := cod_of b21 dX2_hasRoom_31
theorem t21_31 {d : Nat} {h : Hp} {Q : Pst} {l0 : Value} {x : Nat} {st : List Value} : T d 21 31 [l0, .ref x] st h Q ↔ T d 21 32 [l0, .ref x] (.ref x :: st) h Q := T_aload_n c21_31 rfl
theorem c21_32 : cod 21 32 = some (.getfield 64, 3) := cod_of b21 dX2_hasRoom_32
theorem t21_32 {d : Nat} {h : Hp} {Q : Pst} {a : Nat} {ls : List Value} {st : List Value} : T d 21 32 ls (.ref a :: st) h Q ↔ gF (h.2.2 a) 5 11 (fun v => T d 21 35 ls (v :: st) h Q) := T_getfieldR m21 c21_32 f2_64
theorem c21_35 : cod 21 35 = some (.iconst 4, 1) := cod_of b21 dX2_hasRoom_35
theorem t21_35 {d : Nat} {h : Hp} {Q : Pst} {ls : List Value} {st : List Value} : T d 21 35 ls st h Q ↔ T d 21 36 ls (.int 4 :: st) h Q := T_iconstV c21_35 (by decide)
theorem c21_36 : cod 21 36 = some (.if_icmp .ge 7, 3) := cod_of b21 dX2_hasRoom_36
theorem t21_36 {d : Nat} {h : Hp} {Q : Pst} {x y : Int32} {ls : List Value} {st : List Value} : T d 21 36 ls (.int y :: .int x :: st) h Q ↔ (if y ≤ x then T d 21 43 ls st h Q else T d 21 39 ls st h Q) := T_icmp_ge c21_36 (by decide)
theorem c21_43 : cod 21 43 = some (.iconst 0, 1) := cod_of b21 dX2_hasRoom_43
theorem t21_43 {d : Nat} {h : Hp} {Q : Pst} {ls : List Value} {st : List Value} : T d 21 43 ls st h Q ↔ T d 21 44 ls (.int 0 :: st) h Q := T_iconstV c21_43 (by decide)
theorem c21_44 : cod 21 44 = some (.ireturn, 1) := cod_of b21 dX2_hasRoom_44
theorem t21_44 {d : Nat} {h : Hp} {Q : Pst} {x : Int32} {ls : List Value} : T d 21 44 ls [.int x] h Q ↔ (narrow .boolean (.int x) = .int x ∧ Q (some (.int x)) h) := T_zretR m21 c21_44 rfl
theorem c21_39 : cod 21 39 = some (.iconst 1, 1) := cod_of b21 dX2_hasRoom_39
theorem t21_39 {d : Nat} {h : Hp} {Q : Pst} {ls : List Value} {st : List Value} : T d 21 39 ls st h Q ↔ T d 21 40 ls (.int 1 :: st) h Q := T_iconstV c21_39 (by decide)
theorem c21_40 : cod 21 40 = some (.goto 4, 3) := cod_of b21 dX2_hasRoom_40
theorem t21_40 {d : Nat} {h : Hp} {Q : Pst} {ls : List Value} {st : List Value} : T d 21 40 ls st h Q ↔ T d 21 44 ls st h Q := T_goto c21_40 (by decide)
theorem b22 : (mR 22).2.2.1 = cX2_hasTwoNumbers := by rw [m22]
theorem c22_0 : cod 22 0 = some (.aload_n 0, 1) := cod_of b22 dX2_hasTwoNumbers_0
theorem t22_0 {d : Nat} {h : Hp} {Q : Pst} {x : Nat} {st : List Value} : T d 22 0 [.ref x] st h Q ↔ T d 22 1 [.ref x] (.ref x :: st) h Q := T_aload_n c22_0 rfl
theorem c22_1 : cod 22 1 = some (.getfield 31, 3) := cod_of b22 dX2_hasTwoNumbers_1
theorem t22_1 {d : Nat} {h : Hp} {Q : Pst} {a : Nat} {ls : List Value} {st : List Value} : T d 22 1 ls (.ref a :: st) h Q ↔ gF (h.2.2 a) 2 6 (fun v => T d 22 4 ls (v :: st) h Q) := T_getfieldR m22 c22_1 f2_31
theorem c22_4 : cod 22 4 = some (.iconst 1, 1) := cod_of b22 dX2_hasTwoNumbers_4
theorem t22_4 {d : Nat} {h : Hp} {Q : Pst} {ls : List Value} {st : List Value} : T d 22 4 ls st h Q ↔ T d 22 5 ls (.int 1 :: st) h Q := T_iconstV c22_4 (by decide)
theorem c22_5 : cod 22 5 = some (.if_icmp .eq 19, 3) := cod_of b22 dX2_hasTwoNumbers_5
theorem t22_5 {d : Nat} {h : Hp} {Q : Pst} {x y : Int32} {ls : List Value} {st : List Value} : T d 22 5 ls (.int y :: .int x :: st) h Q ↔ (if x = y then T d 22 24 ls st h Q else T d 22 8 ls st h Q) := T_icmp_eq c22_5 (by decide)
theorem c22_8 : cod 22 8 = some (.aload_n 0, 1) := cod_of b22 dX2_hasTwoNumbers_8
theorem t22_8 {d : Nat} {h : Hp} {Q : Pst} {x : Nat} {st : List Value} : T d 22 8 [.ref x] st h Q ↔ T d 22 9 [.ref x] (.ref x :: st) h Q := T_aload_n c22_8 rfl
theorem c22_9 : cod 22 9 = some (.getfield 31, 3) := cod_of b22 dX2_hasTwoNumbers_9
theorem t22_9 {d : Nat} {h : Hp} {Q : Pst} {a : Nat} {ls : List Value} {st : List Value} : T d 22 9 ls (.ref a :: st) h Q ↔ gF (h.2.2 a) 2 6 (fun v => T d 22 12 ls (v :: st) h Q) := T_getfieldR m22 c22_9 f2_31
theorem c22_12 : cod 22 12 = some (.iconst 2, 1) := cod_of b22 dX2_hasTwoNumbers_12
theorem t22_12 {d : Nat} {h : Hp} {Q : Pst} {ls : List Value} {st : List Value} : T d 22 12 ls st h Q ↔ T d 22 13 ls (.int 2 :: st) h Q := T_iconstV c22_12 (by decide)
theorem c22_13 : cod 22 13 = some (.if_icmp .eq 11, 3) := cod_of b22 dX2_hasTwoNumbers_13
theorem t22_13 {d : Nat} {h : Hp} {Q : Pst} {x y : Int32} {ls : List Value} {st : List Value} : T d 22 13 ls (.int y :: .int x :: st) h Q ↔ (if x = y then T d 22 24 ls st h Q else T d 22 16 ls st h Q) := T_icmp_eq c22_13 (by decide)
theorem c22_16 : cod 22 16 = some (.aload_n 0, 1) := cod_of b22 dX2_hasTwoNumbers_16
theorem t22_16 {d : Nat} {h : Hp} {Q : Pst} {x : Nat} {st : List Value} : T d 22 16 [.ref x] st h Q ↔ T d 22 17 [.ref x] (.ref x :: st) h Q := T_aload_n c22_16 rfl
theorem c22_17 : cod 22 17 = some (.getfield 31, 3) := cod_of b22 dX2_hasTwoNumbers_17
theorem t22_17 {d : Nat} {h : Hp} {Q : Pst} {a : Nat} {ls : List Value} {st : List Value} : T d 22 17 ls (.ref a :: st) h Q ↔ gF (h.2.2 a) 2 6 (fun v => T d 22 20 ls (v :: st) h Q) := T_getfieldR m22 c22_17 f2_31
theorem c22_20 : cod 22 20 = some (.iconst 3, 1) := cod_of b22 dX2_hasTwoNumbers_20
theorem t22_20 {d : Nat} {h : Hp} {Q : Pst} {ls : List Value} {st : List Value} : T d 22 20 ls st h Q ↔ T d 22 21 ls (.int 3 :: st) h Q := T_iconstV c22_20 (by decide)
theorem c22_21 : cod 22 21 = some (.if_icmp .ne 7, 3) := cod_of b22 dX2_hasTwoNumbers_21
theorem t22_21 {d : Nat} {h : Hp} {Q : Pst} {x y : Int32} {ls : List Value} {st : List Value} : T d 22 21 ls (.int y :: .int x :: st) h Q ↔ (if ¬ x = y then T d 22 28 ls st h Q else T d 22 24 ls st h Q) := T_icmp_ne c22_21 (by decide)
theorem c22_28 : cod 22 28 = some (.iconst 0, 1) := cod_of b22 dX2_hasTwoNumbers_28
theorem t22_28 {d : Nat} {h : Hp} {Q : Pst} {ls : List Value} {st : List Value} : T d 22 28 ls st h Q ↔ T d 22 29 ls (.int 0 :: st) h Q := T_iconstV c22_28 (by decide)
theorem c22_29 : cod 22 29 = some (.ireturn, 1) := cod_of b22 dX2_hasTwoNumbers_29
theorem t22_29 {d : Nat} {h : Hp} {Q : Pst} {x : Int32} {ls : List Value} : T d 22 29 ls [.int x] h Q ↔ (narrow .boolean (.int x) = .int x ∧ Q (some (.int x)) h) := T_zretR m22 c22_29 rfl
theorem c22_24 : cod 22 24 = some (.iconst 1, 1) := cod_of b22 dX2_hasTwoNumbers_24
theorem t22_24 {d : Nat} {h : Hp} {Q : Pst} {ls : List Value} {st : List Value} : T d 22 24 ls st h Q ↔ T d 22 25 ls (.int 1 :: st) h Q := T_iconstV c22_24 (by decide)
theorem c22_25 : cod 22 25 = some (.goto 4, 3) := cod_of b22 dX2_hasTwoNumbers_25
theorem t22_25 {d : Nat} {h : Hp} {Q : Pst} {ls : List Value} {st : List Value} : T d 22 25 ls st h Q ↔ T d 22 29 ls st h Q := T_goto c22_25 (by decide)
theorem b23 : (mR 23).2.2.1 = cX2_readNumber := by rw [m23]
theorem c23_0 : cod 23 0 = some (.aload_n 0, 1) := cod_of b23 dX2_readNumber_0
theorem t23_0 {d : Nat} {h : Hp} {Q : Pst} {l1 l2 : Value} {x : Nat} {st : List Value} : T d 23 0 [.ref x, l1, l2] st h Q ↔ T d 23 1 [.ref x, l1, l2] (.ref x :: st) h Q := T_aload_n c23_0 rfl
theorem c23_1 : cod 23 1 = some (.invokevirtual 56, 3) := cod_of b23 dX2_readNumber_1
theorem t23_1 {d : Nat} {h : Hp} {Q : Pst} {a : Nat} {ls : List Value} (ho : isO (h.2.2 a) 2) : T (d + 1) 23 1 ls [.ref a] h Q ↔ T d 27 0 [.ref a, un] [] h (fun x h2 => T (d + 1) 23 4 ls (rl x []) h2 Q) := T_virtualR (as := []) (r := []) m23 m27 c23_1 k2_56  rfl (by decide) rfl (by simp [wrd, Value.category]) (by simp [stk, Value.category]) rfl (by decide +kernel) ho
theorem c23_4 : cod 23 4 = some (.aload_n 0, 1) := cod_of b23 dX2_readNumber_4
theorem t23_4 {d : Nat} {h : Hp} {Q : Pst} {l1 l2 : Value} {x : Nat} {st : List Value} : T d 23 4 [.ref x, l1, l2] st h Q ↔ T d 23 5 [.ref x, l1, l2] (.ref x :: st) h Q := T_aload_n c23_4 rfl
theorem c23_5 : cod 23 5 = some (.getfield 25, 3) := cod_of b23 dX2_readNumber_5
theorem t23_5 {d : Nat} {h : Hp} {Q : Pst} {a : Nat} {ls : List Value} {st : List Value} : T d 23 5 ls (.ref a :: st) h Q ↔ gF (h.2.2 a) 2 4 (fun v => T d 23 8 ls (v :: st) h Q) := T_getfieldR m23 c23_5 f2_25
theorem c23_8 : cod 23 8 = some (.iconst 2, 1) := cod_of b23 dX2_readNumber_8
theorem t23_8 {d : Nat} {h : Hp} {Q : Pst} {ls : List Value} {st : List Value} : T d 23 8 ls st h Q ↔ T d 23 9 ls (.int 2 :: st) h Q := T_iconstV c23_8 (by decide)
theorem c23_9 : cod 23 9 = some (.if_icmp .ne 28, 3) := cod_of b23 dX2_readNumber_9
theorem t23_9 {d : Nat} {h : Hp} {Q : Pst} {x y : Int32} {ls : List Value} {st : List Value} : T d 23 9 ls (.int y :: .int x :: st) h Q ↔ (if ¬ x = y then T d 23 37 ls st h Q else T d 23 12 ls st h Q) := T_icmp_ne c23_9 (by decide)
theorem c23_12 : cod 23 12 = some (.aload_n 0, 1) := cod_of b23 dX2_readNumber_12
theorem t23_12 {d : Nat} {h : Hp} {Q : Pst} {l1 l2 : Value} {x : Nat} {st : List Value} : T d 23 12 [.ref x, l1, l2] st h Q ↔ T d 23 13 [.ref x, l1, l2] (.ref x :: st) h Q := T_aload_n c23_12 rfl
theorem c23_13 : cod 23 13 = some (.getfield 28, 3) := cod_of b23 dX2_readNumber_13
theorem t23_13 {d : Nat} {h : Hp} {Q : Pst} {a : Nat} {ls : List Value} {st : List Value} : T d 23 13 ls (.ref a :: st) h Q ↔ gF (h.2.2 a) 2 5 (fun v => T d 23 16 ls (v :: st) h Q) := T_getfieldR m23 c23_13 f2_28
theorem c23_16 : cod 23 16 = some (.aload_n 0, 1) := cod_of b23 dX2_readNumber_16
theorem t23_16 {d : Nat} {h : Hp} {Q : Pst} {l1 l2 : Value} {x : Nat} {st : List Value} : T d 23 16 [.ref x, l1, l2] st h Q ↔ T d 23 17 [.ref x, l1, l2] (.ref x :: st) h Q := T_aload_n c23_16 rfl
theorem c23_17 : cod 23 17 = some (.iload_n 1, 1) := cod_of b23 dX2_readNumber_17
theorem t23_17 {d : Nat} {h : Hp} {Q : Pst} {l0 l2 : Value} {x : Int32} {st : List Value} : T d 23 17 [l0, .int x, l2] st h Q ↔ T d 23 18 [l0, .int x, l2] (.int x :: st) h Q := T_iload_n c23_17 rfl
theorem c23_18 : cod 23 18 = some (.invokevirtual 67, 3) := cod_of b23 dX2_readNumber_18
theorem t23_18 {d : Nat} {h : Hp} {Q : Pst} {a0 s0 : Int32} {a : Nat} {ls : List Value} (ho : isO (h.2.2 a) 2) : T (d + 1) 23 18 ls [.int a0, .ref a, .int s0] h Q ↔ T d 24 0 [.ref a, .int a0, un] [] h (fun x h2 => T (d + 1) 23 21 ls (rl x [.int s0]) h2 Q) := T_virtualR (as := [.int a0]) (r := [.int s0]) m23 m24 c23_18 k2_67  rfl (by decide) rfl (by simp [wrd, Value.category]) (by simp [stk, Value.category]) rfl (by decide +kernel) ho
theorem c23_21 : cod 23 21 = some (.aload_n 0, 1) := cod_of b23 dX2_readNumber_21
theorem t23_21 {d : Nat} {h : Hp} {Q : Pst} {l1 l2 : Value} {x : Nat} {st : List Value} : T d 23 21 [.ref x, l1, l2] st h Q ↔ T d 23 22 [.ref x, l1, l2] (.ref x :: st) h Q := T_aload_n c23_21 rfl
theorem c23_22 : cod 23 22 = some (.iload_n 1, 1) := cod_of b23 dX2_readNumber_22
theorem t23_22 {d : Nat} {h : Hp} {Q : Pst} {l0 l2 : Value} {x : Int32} {st : List Value} : T d 23 22 [l0, .int x, l2] st h Q ↔ T d 23 23 [l0, .int x, l2] (.int x :: st) h Q := T_iload_n c23_22 rfl
theorem c23_23 : cod 23 23 = some (.aload_n 2, 1) := cod_of b23 dX2_readNumber_23
theorem t23_23 {d : Nat} {h : Hp} {Q : Pst} {l0 l1 : Value} {x : Nat} {st : List Value} : T d 23 23 [l0, l1, .ref x] st h Q ↔ T d 23 24 [l0, l1, .ref x] (.ref x :: st) h Q := T_aload_n c23_23 rfl
theorem c23_24 : cod 23 24 = some (.invokevirtual 71, 3) := cod_of b23 dX2_readNumber_24
theorem t23_24 {d : Nat} {h : Hp} {Q : Pst} {a0 s0 s1 : Int32} {a1 a : Nat} {ls : List Value} (ho : isO (h.2.2 a) 2) : T (d + 1) 23 24 ls [.ref a1, .int a0, .ref a, .int s0, .int s1] h Q ↔ T d 25 0 [.ref a, .int a0, .ref a1] [] h (fun x h2 => T (d + 1) 23 27 ls (rl x [.int s0, .int s1]) h2 Q) := T_virtualR (as := [.int a0, .ref a1]) (r := [.int s0, .int s1]) m23 m25 c23_24 k2_71  rfl (by decide) rfl (by simp [wrd, Value.category]) (by simp [stk, Value.category]) rfl (by decide +kernel) ho
theorem c23_27 : cod 23 27 = some (.invokestatic 75, 3) := cod_of b23 dX2_readNumber_27
theorem t23_27 {d : Nat} {h : Hp} {Q : Pst} {a0 a1 a2 : Int32} {ls : List Value} : T (d + 1) 23 27 ls [.int a2, .int a1, .int a0] h Q ↔ T d 118 0 [.int a0, .int a1, .int a2] [] h (fun x h2 => T (d + 1) 23 30 ls (rl x []) h2 Q) := T_staticR (as := [.int a0, .int a1, .int a2]) (r := []) m23 m118 c23_27 k2_75 (Or.inr rfl) rfl (by decide) rfl (by simp [wrd, Value.category]) (by simp [stk, Value.category]) rfl
theorem c23_30 : cod 23 30 = some (.ifCond .eq 7, 3) := cod_of b23 dX2_readNumber_30
theorem t23_30 {d : Nat} {h : Hp} {Q : Pst} {x : Int32} {ls : List Value} {st : List Value} : T d 23 30 ls (.int x :: st) h Q ↔ (if x = 0 then T d 23 37 ls st h Q else T d 23 33 ls st h Q) := T_if_eq c23_30 (by decide)
theorem c23_33 : cod 23 33 = some (.iconst 1, 1) := cod_of b23 dX2_readNumber_33
theorem t23_33 {d : Nat} {h : Hp} {Q : Pst} {ls : List Value} {st : List Value} : T d 23 33 ls st h Q ↔ T d 23 34 ls (.int 1 :: st) h Q := T_iconstV c23_33 (by decide)
theorem c23_34 : cod 23 34 = some (.goto 4, 3) := cod_of b23 dX2_readNumber_34
theorem t23_34 {d : Nat} {h : Hp} {Q : Pst} {ls : List Value} {st : List Value} : T d 23 34 ls st h Q ↔ T d 23 38 ls st h Q := T_goto c23_34 (by decide)
theorem c23_38 : cod 23 38 = some (.ireturn, 1) := cod_of b23 dX2_readNumber_38
theorem t23_38 {d : Nat} {h : Hp} {Q : Pst} {x : Int32} {ls : List Value} : T d 23 38 ls [.int x] h Q ↔ (narrow .boolean (.int x) = .int x ∧ Q (some (.int x)) h) := T_zretR m23 c23_38 rfl
theorem c23_37 : cod 23 37 = some (.iconst 0, 1) := cod_of b23 dX2_readNumber_37
theorem t23_37 {d : Nat} {h : Hp} {Q : Pst} {ls : List Value} {st : List Value} : T d 23 37 ls st h Q ↔ T d 23 38 ls (.int 0 :: st) h Q := T_iconstV c23_37 (by decide)
theorem b24 : (mR 24).2.2.1 = cX2_leastTold := by rw [m24]
theorem c24_0 : cod 24 0 = some (.iload_n 1, 1) := cod_of b24 dX2_leastTold_0
theorem t24_0 {d : Nat} {h : Hp} {Q : Pst} {l0 l2 : Value} {x : Int32} {st : List Value} : T d 24 0 [l0, .int x, l2] st h Q ↔ T d 24 1 [l0, .int x, l2] (.int x :: st) h Q := T_iload_n c24_0 rfl
theorem c24_1 : cod 24 1 = some (.iconst 1, 1) := cod_of b24 dX2_leastTold_1
theorem t24_1 {d : Nat} {h : Hp} {Q : Pst} {ls : List Value} {st : List Value} : T d 24 1 ls st h Q ↔ T d 24 2 ls (.int 1 :: st) h Q := T_iconstV c24_1 (by decide)
theorem c24_2 : cod 24 2 = some (.if_icmp .ne 23, 3) := cod_of b24 dX2_leastTold_2
theorem t24_2 {d : Nat} {h : Hp} {Q : Pst} {x y : Int32} {ls : List Value} {st : List Value} : T d 24 2 ls (.int y :: .int x :: st) h Q ↔ (if ¬ x = y then T d 24 25 ls st h Q else T d 24 5 ls st h Q) := T_icmp_ne c24_2 (by decide)
theorem c24_5 : cod 24 5 = some (.aload_n 0, 1) := cod_of b24 dX2_leastTold_5
theorem t24_5 {d : Nat} {h : Hp} {Q : Pst} {l1 l2 : Value} {x : Nat} {st : List Value} : T d 24 5 [.ref x, l1, l2] st h Q ↔ T d 24 6 [.ref x, l1, l2] (.ref x :: st) h Q := T_aload_n c24_5 rfl
theorem c24_6 : cod 24 6 = some (.getfield 31, 3) := cod_of b24 dX2_leastTold_6
theorem t24_6 {d : Nat} {h : Hp} {Q : Pst} {a : Nat} {ls : List Value} {st : List Value} : T d 24 6 ls (.ref a :: st) h Q ↔ gF (h.2.2 a) 2 6 (fun v => T d 24 9 ls (v :: st) h Q) := T_getfieldR m24 c24_6 f2_31
theorem c24_9 : cod 24 9 = some (.iconst 1, 1) := cod_of b24 dX2_leastTold_9
theorem t24_9 {d : Nat} {h : Hp} {Q : Pst} {ls : List Value} {st : List Value} : T d 24 9 ls st h Q ↔ T d 24 10 ls (.int 1 :: st) h Q := T_iconstV c24_9 (by decide)
theorem c24_10 : cod 24 10 = some (.if_icmp .eq 11, 3) := cod_of b24 dX2_leastTold_10
theorem t24_10 {d : Nat} {h : Hp} {Q : Pst} {x y : Int32} {ls : List Value} {st : List Value} : T d 24 10 ls (.int y :: .int x :: st) h Q ↔ (if x = y then T d 24 21 ls st h Q else T d 24 13 ls st h Q) := T_icmp_eq c24_10 (by decide)
theorem c24_13 : cod 24 13 = some (.aload_n 0, 1) := cod_of b24 dX2_leastTold_13
theorem t24_13 {d : Nat} {h : Hp} {Q : Pst} {l1 l2 : Value} {x : Nat} {st : List Value} : T d 24 13 [.ref x, l1, l2] st h Q ↔ T d 24 14 [.ref x, l1, l2] (.ref x :: st) h Q := T_aload_n c24_13 rfl
theorem c24_14 : cod 24 14 = some (.getfield 31, 3) := cod_of b24 dX2_leastTold_14
theorem t24_14 {d : Nat} {h : Hp} {Q : Pst} {a : Nat} {ls : List Value} {st : List Value} : T d 24 14 ls (.ref a :: st) h Q ↔ gF (h.2.2 a) 2 6 (fun v => T d 24 17 ls (v :: st) h Q) := T_getfieldR m24 c24_14 f2_31
theorem c24_17 : cod 24 17 = some (.iconst 2, 1) := cod_of b24 dX2_leastTold_17
theorem t24_17 {d : Nat} {h : Hp} {Q : Pst} {ls : List Value} {st : List Value} : T d 24 17 ls st h Q ↔ T d 24 18 ls (.int 2 :: st) h Q := T_iconstV c24_17 (by decide)
theorem c24_18 : cod 24 18 = some (.if_icmp .ne 7, 3) := cod_of b24 dX2_leastTold_18
theorem t24_18 {d : Nat} {h : Hp} {Q : Pst} {x y : Int32} {ls : List Value} {st : List Value} : T d 24 18 ls (.int y :: .int x :: st) h Q ↔ (if ¬ x = y then T d 24 25 ls st h Q else T d 24 21 ls st h Q) := T_icmp_ne c24_18 (by decide)
theorem c24_21 : cod 24 21 = some (.iconst 1, 1) := cod_of b24 dX2_leastTold_21
theorem t24_21 {d : Nat} {h : Hp} {Q : Pst} {ls : List Value} {st : List Value} : T d 24 21 ls st h Q ↔ T d 24 22 ls (.int 1 :: st) h Q := T_iconstV c24_21 (by decide)
theorem c24_22 : cod 24 22 = some (.goto 4, 3) := cod_of b24 dX2_leastTold_22
theorem t24_22 {d : Nat} {h : Hp} {Q : Pst} {ls : List Value} {st : List Value} : T d 24 22 ls st h Q ↔ T d 24 26 ls st h Q := T_goto c24_22 (by decide)
theorem c24_26 : cod 24 26 = some (.istore_n 2, 1) := cod_of b24 dX2_leastTold_26
theorem t24_26 {d : Nat} {h : Hp} {Q : Pst} {l0 l1 l2 : Value} {x : Int32} {st : List Value} : T d 24 26 [l0, l1, l2] (.int x :: st) h Q ↔ T d 24 27 [l0, kil l1, .int x] st h Q := T_istore_n c24_26 (Nat.le_of_ble_eq_true rfl)
theorem c24_27 : cod 24 27 = some (.iload_n 2, 1) := cod_of b24 dX2_leastTold_27
theorem t24_27 {d : Nat} {h : Hp} {Q : Pst} {l0 l1 : Value} {x : Int32} {st : List Value} : T d 24 27 [l0, l1, .int x] st h Q ↔ T d 24 28 [l0, l1, .int x] (.int x :: st) h Q := T_iload_n c24_27 rfl
theorem c24_28 : cod 24 28 = some (.ifCond .ne 11, 3) := cod_of b24 dX2_leastTold_28
theorem t24_28 {d : Nat} {h : Hp} {Q : Pst} {x : Int32} {ls : List Value} {st : List Value} : T d 24 28 ls (.int x :: st) h Q ↔ (if ¬ x = 0 then T d 24 39 ls st h Q else T d 24 31 ls st h Q) := T_if_ne c24_28 (by decide)
theorem c24_31 : cod 24 31 = some (.aload_n 0, 1) := cod_of b24 dX2_leastTold_31
theorem t24_31 {d : Nat} {h : Hp} {Q : Pst} {l1 l2 : Value} {x : Nat} {st : List Value} : T d 24 31 [.ref x, l1, l2] st h Q ↔ T d 24 32 [.ref x, l1, l2] (.ref x :: st) h Q := T_aload_n c24_31 rfl
theorem c24_32 : cod 24 32 = some (.getfield 31, 3) := cod_of b24 dX2_leastTold_32
theorem t24_32 {d : Nat} {h : Hp} {Q : Pst} {a : Nat} {ls : List Value} {st : List Value} : T d 24 32 ls (.ref a :: st) h Q ↔ gF (h.2.2 a) 2 6 (fun v => T d 24 35 ls (v :: st) h Q) := T_getfieldR m24 c24_32 f2_31
theorem c24_35 : cod 24 35 = some (.iconst 5, 1) := cod_of b24 dX2_leastTold_35
theorem t24_35 {d : Nat} {h : Hp} {Q : Pst} {ls : List Value} {st : List Value} : T d 24 35 ls st h Q ↔ T d 24 36 ls (.int 5 :: st) h Q := T_iconstV c24_35 (by decide)
theorem c24_36 : cod 24 36 = some (.if_icmp .ne 7, 3) := cod_of b24 dX2_leastTold_36
theorem t24_36 {d : Nat} {h : Hp} {Q : Pst} {x y : Int32} {ls : List Value} {st : List Value} : T d 24 36 ls (.int y :: .int x :: st) h Q ↔ (if ¬ x = y then T d 24 43 ls st h Q else T d 24 39 ls st h Q) := T_icmp_ne c24_36 (by decide)
theorem c24_43 : cod 24 43 = some (.iconst 0, 1) := cod_of b24 dX2_leastTold_43
theorem t24_43 {d : Nat} {h : Hp} {Q : Pst} {ls : List Value} {st : List Value} : T d 24 43 ls st h Q ↔ T d 24 44 ls (.int 0 :: st) h Q := T_iconstV c24_43 (by decide)
theorem c24_44 : cod 24 44 = some (.ireturn, 1) := cod_of b24 dX2_leastTold_44
theorem t24_44 {d : Nat} {h : Hp} {Q : Pst} {x : Int32} {ls : List Value} : T d 24 44 ls [.int x] h Q ↔ Q (some (.int x)) h := T_iretR m24 c24_44 rfl
theorem c24_39 : cod 24 39 = some (.iconst 1, 1) := cod_of b24 dX2_leastTold_39
theorem t24_39 {d : Nat} {h : Hp} {Q : Pst} {ls : List Value} {st : List Value} : T d 24 39 ls st h Q ↔ T d 24 40 ls (.int 1 :: st) h Q := T_iconstV c24_39 (by decide)
theorem c24_40 : cod 24 40 = some (.goto 4, 3) := cod_of b24 dX2_leastTold_40
theorem t24_40 {d : Nat} {h : Hp} {Q : Pst} {ls : List Value} {st : List Value} : T d 24 40 ls st h Q ↔ T d 24 44 ls st h Q := T_goto c24_40 (by decide)
theorem c24_25 : cod 24 25 = some (.iconst 0, 1) := cod_of b24 dX2_leastTold_25
theorem t24_25 {d : Nat} {h : Hp} {Q : Pst} {ls : List Value} {st : List Value} : T d 24 25 ls st h Q ↔ T d 24 26 ls (.int 0 :: st) h Q := T_iconstV c24_25 (by decide)
theorem b25 : (mR 25).2.2.1 = cX2_mostTold := by rw [m25]
theorem c25_0 : cod 25 0 = some (.aload_n 0, 1) := cod_of b25 dX2_mostTold_0
theorem t25_0 {d : Nat} {h : Hp} {Q : Pst} {l1 l2 : Value} {x : Nat} {st : List Value} : T d 25 0 [.ref x, l1, l2] st h Q ↔ T d 25 1 [.ref x, l1, l2] (.ref x :: st) h Q := T_aload_n c25_0 rfl
theorem c25_1 : cod 25 1 = some (.getfield 31, 3) := cod_of b25 dX2_mostTold_1
theorem t25_1 {d : Nat} {h : Hp} {Q : Pst} {a : Nat} {ls : List Value} {st : List Value} : T d 25 1 ls (.ref a :: st) h Q ↔ gF (h.2.2 a) 2 6 (fun v => T d 25 4 ls (v :: st) h Q) := T_getfieldR m25 c25_1 f2_31
theorem c25_4 : cod 25 4 = some (.tableswitch 76 0 4 #[36, 38, 38, 49, 69], 36) := cod_of b25 dX2_mostTold_4
theorem t25_4 {d : Nat} {h : Hp} {Q : Pst} {x : Int32} {ls : List Value} {st : List Value} : T d 25 4 ls (.int x :: st) h Q ↔ swT (fun t => T d 25 t ls st h Q) x.toInt 0 [40, 42, 42, 53, 73] 80 := T_tsw c25_4 (by decide) (by decide) (by decide)
theorem c25_80 : cod 25 80 = some (.bipush 99, 2) := cod_of b25 dX2_mostTold_80
theorem t25_80 {d : Nat} {h : Hp} {Q : Pst} {ls : List Value} {st : List Value} : T d 25 80 ls st h Q ↔ T d 25 82 ls (.int 99 :: st) h Q := T_bipushV c25_80 (by decide)
theorem c25_82 : cod 25 82 = some (.ireturn, 1) := cod_of b25 dX2_mostTold_82
theorem t25_82 {d : Nat} {h : Hp} {Q : Pst} {x : Int32} {ls : List Value} : T d 25 82 ls [.int x] h Q ↔ Q (some (.int x)) h := T_iretR m25 c25_82 rfl
theorem c25_73 : cod 25 73 = some (.aload_n 2, 1) := cod_of b25 dX2_mostTold_73
theorem t25_73 {d : Nat} {h : Hp} {Q : Pst} {l0 l1 : Value} {x : Nat} {st : List Value} : T d 25 73 [l0, l1, .ref x] st h Q ↔ T d 25 74 [l0, l1, .ref x] (.ref x :: st) h Q := T_aload_n c25_73 rfl
theorem c25_74 : cod 25 74 = some (.getfield 59, 3) := cod_of b25 dX2_mostTold_74
theorem t25_74 {d : Nat} {h : Hp} {Q : Pst} {a : Nat} {ls : List Value} {st : List Value} : T d 25 74 ls (.ref a :: st) h Q ↔ gF (h.2.2 a) 5 10 (fun v => T d 25 77 ls (v :: st) h Q) := T_getfieldR m25 c25_74 f2_59
theorem c25_77 : cod 25 77 = some (.iconst 1, 1) := cod_of b25 dX2_mostTold_77
theorem t25_77 {d : Nat} {h : Hp} {Q : Pst} {ls : List Value} {st : List Value} : T d 25 77 ls st h Q ↔ T d 25 78 ls (.int 1 :: st) h Q := T_iconstV c25_77 (by decide)
theorem c25_78 : cod 25 78 = some (.isub, 1) := cod_of b25 dX2_mostTold_78
theorem t25_78 {d : Nat} {h : Hp} {Q : Pst} {x y : Int32} {ls : List Value} {st : List Value} : T d 25 78 ls (.int y :: .int x :: st) h Q ↔ T d 25 79 ls (.int (x - y) :: st) h Q := T_isub c25_78
theorem c25_79 : cod 25 79 = some (.ireturn, 1) := cod_of b25 dX2_mostTold_79
theorem t25_79 {d : Nat} {h : Hp} {Q : Pst} {x : Int32} {ls : List Value} : T d 25 79 ls [.int x] h Q ↔ Q (some (.int x)) h := T_iretR m25 c25_79 rfl
theorem c25_53 : cod 25 53 = some (.iload_n 1, 1) := cod_of b25 dX2_mostTold_53
theorem t25_53 {d : Nat} {h : Hp} {Q : Pst} {l0 l2 : Value} {x : Int32} {st : List Value} : T d 25 53 [l0, .int x, l2] st h Q ↔ T d 25 54 [l0, .int x, l2] (.int x :: st) h Q := T_iload_n c25_53 rfl
theorem c25_54 : cod 25 54 = some (.ifCond .ne 12, 3) := cod_of b25 dX2_mostTold_54
theorem t25_54 {d : Nat} {h : Hp} {Q : Pst} {x : Int32} {ls : List Value} {st : List Value} : T d 25 54 ls (.int x :: st) h Q ↔ (if ¬ x = 0 then T d 25 66 ls st h Q else T d 25 57 ls st h Q) := T_if_ne c25_54 (by decide)
theorem c25_57 : cod 25 57 = some (.aload_n 2, 1) := cod_of b25 dX2_mostTold_57
theorem t25_57 {d : Nat} {h : Hp} {Q : Pst} {l0 l1 : Value} {x : Nat} {st : List Value} : T d 25 57 [l0, l1, .ref x] st h Q ↔ T d 25 58 [l0, l1, .ref x] (.ref x :: st) h Q := T_aload_n c25_57 rfl
theorem c25_58 : cod 25 58 = some (.getfield 59, 3) := cod_of b25 dX2_mostTold_58
theorem t25_58 {d : Nat} {h : Hp} {Q : Pst} {a : Nat} {ls : List Value} {st : List Value} : T d 25 58 ls (.ref a :: st) h Q ↔ gF (h.2.2 a) 5 10 (fun v => T d 25 61 ls (v :: st) h Q) := T_getfieldR m25 c25_58 f2_59
theorem c25_61 : cod 25 61 = some (.iconst 1, 1) := cod_of b25 dX2_mostTold_61
theorem t25_61 {d : Nat} {h : Hp} {Q : Pst} {ls : List Value} {st : List Value} : T d 25 61 ls st h Q ↔ T d 25 62 ls (.int 1 :: st) h Q := T_iconstV c25_61 (by decide)
theorem c25_62 : cod 25 62 = some (.isub, 1) := cod_of b25 dX2_mostTold_62
theorem t25_62 {d : Nat} {h : Hp} {Q : Pst} {x y : Int32} {ls : List Value} {st : List Value} : T d 25 62 ls (.int y :: .int x :: st) h Q ↔ T d 25 63 ls (.int (x - y) :: st) h Q := T_isub c25_62
theorem c25_63 : cod 25 63 = some (.goto 9, 3) := cod_of b25 dX2_mostTold_63
theorem t25_63 {d : Nat} {h : Hp} {Q : Pst} {ls : List Value} {st : List Value} : T d 25 63 ls st h Q ↔ T d 25 72 ls st h Q := T_goto c25_63 (by decide)
theorem c25_72 : cod 25 72 = some (.ireturn, 1) := cod_of b25 dX2_mostTold_72
theorem t25_72 {d : Nat} {h : Hp} {Q : Pst} {x : Int32} {ls : List Value} : T d 25 72 ls [.int x] h Q ↔ Q (some (.int x)) h := T_iretR m25 c25_72 rfl
theorem c25_66 : cod 25 66 = some (.aload_n 2, 1) := cod_of b25 dX2_mostTold_66
theorem t25_66 {d : Nat} {h : Hp} {Q : Pst} {l0 l1 : Value} {x : Nat} {st : List Value} : T d 25 66 [l0, l1, .ref x] st h Q ↔ T d 25 67 [l0, l1, .ref x] (.ref x :: st) h Q := T_aload_n c25_66 rfl
theorem c25_67 : cod 25 67 = some (.getfield 64, 3) := cod_of b25 dX2_mostTold_67
theorem t25_67 {d : Nat} {h : Hp} {Q : Pst} {a : Nat} {ls : List Value} {st : List Value} : T d 25 67 ls (.ref a :: st) h Q ↔ gF (h.2.2 a) 5 11 (fun v => T d 25 70 ls (v :: st) h Q) := T_getfieldR m25 c25_67 f2_64
theorem c25_70 : cod 25 70 = some (.iconst 1, 1) := cod_of b25 dX2_mostTold_70
theorem t25_70 {d : Nat} {h : Hp} {Q : Pst} {ls : List Value} {st : List Value} : T d 25 70 ls st h Q ↔ T d 25 71 ls (.int 1 :: st) h Q := T_iconstV c25_70 (by decide)
theorem c25_71 : cod 25 71 = some (.isub, 1) := cod_of b25 dX2_mostTold_71
theorem t25_71 {d : Nat} {h : Hp} {Q : Pst} {x y : Int32} {ls : List Value} {st : List Value} : T d 25 71 ls (.int y :: .int x :: st) h Q ↔ T d 25 72 ls (.int (x - y) :: st) h Q := T_isub c25_71
theorem c25_42 : cod 25 42 = some (.iload_n 1, 1) := cod_of b25 dX2_mostTold_42
theorem t25_42 {d : Nat} {h : Hp} {Q : Pst} {l0 l2 : Value} {x : Int32} {st : List Value} : T d 25 42 [l0, .int x, l2] st h Q ↔ T d 25 43 [l0, .int x, l2] (.int x :: st) h Q := T_iload_n c25_42 rfl
theorem c25_43 : cod 25 43 = some (.ifCond .ne 7, 3) := cod_of b25 dX2_mostTold_43
theorem t25_43 {d : Nat} {h : Hp} {Q : Pst} {x : Int32} {ls : List Value} {st : List Value} : T d 25 43 ls (.int x :: st) h Q ↔ (if ¬ x = 0 then T d 25 50 ls st h Q else T d 25 46 ls st h Q) := T_if_ne c25_43 (by decide)
theorem c25_46 : cod 25 46 = some (.iconst 5, 1) := cod_of b25 dX2_mostTold_46
theorem t25_46 {d : Nat} {h : Hp} {Q : Pst} {ls : List Value} {st : List Value} : T d 25 46 ls st h Q ↔ T d 25 47 ls (.int 5 :: st) h Q := T_iconstV c25_46 (by decide)
theorem c25_47 : cod 25 47 = some (.goto 5, 3) := cod_of b25 dX2_mostTold_47
theorem t25_47 {d : Nat} {h : Hp} {Q : Pst} {ls : List Value} {st : List Value} : T d 25 47 ls st h Q ↔ T d 25 52 ls st h Q := T_goto c25_47 (by decide)
theorem c25_52 : cod 25 52 = some (.ireturn, 1) := cod_of b25 dX2_mostTold_52
theorem t25_52 {d : Nat} {h : Hp} {Q : Pst} {x : Int32} {ls : List Value} : T d 25 52 ls [.int x] h Q ↔ Q (some (.int x)) h := T_iretR m25 c25_52 rfl
theorem c25_50 : cod 25 50 = some (.bipush 30, 2) := cod_of b25 dX2_mostTold_50
theorem t25_50 {d : Nat} {h : Hp} {Q : Pst} {ls : List Value} {st : List Value} : T d 25 50 ls st h Q ↔ T d 25 52 ls (.int 30 :: st) h Q := T_bipushV c25_50 (by decide)
theorem c25_40 : cod 25 40 = some (.iconst 4, 1) := cod_of b25 dX2_mostTold_40
theorem t25_40 {d : Nat} {h : Hp} {Q : Pst} {ls : List Value} {st : List Value} : T d 25 40 ls st h Q ↔ T d 25 41 ls (.int 4 :: st) h Q := T_iconstV c25_40 (by decide)
theorem c25_41 : cod 25 41 = some (.ireturn, 1) := cod_of b25 dX2_mostTold_41
theorem t25_41 {d : Nat} {h : Hp} {Q : Pst} {x : Int32} {ls : List Value} : T d 25 41 ls [.int x] h Q ↔ Q (some (.int x)) h := T_iretR m25 c25_41 rfl
theorem b26 : (mR 26).2.2.1 = cX2_carryOut := by rw [m26]
theorem c26_0 : cod 26 0 = some (.aload_n 0, 1) := cod_of b26 dX2_carryOut_0
theorem t26_0 {d : Nat} {h : Hp} {Q : Pst} {l1 : Value} {x : Nat} {st : List Value} : T d 26 0 [.ref x, l1] st h Q ↔ T d 26 1 [.ref x, l1] (.ref x :: st) h Q := T_aload_n c26_0 rfl
theorem c26_1 : cod 26 1 = some (.getfield 31, 3) := cod_of b26 dX2_carryOut_1
theorem t26_1 {d : Nat} {h : Hp} {Q : Pst} {a : Nat} {ls : List Value} {st : List Value} : T d 26 1 ls (.ref a :: st) h Q ↔ gF (h.2.2 a) 2 6 (fun v => T d 26 4 ls (v :: st) h Q) := T_getfieldR m26 c26_1 f2_31
theorem c26_4 : cod 26 4 = some (.tableswitch 112 0 4 #[36, 47, 63, 79, 97], 36) := cod_of b26 dX2_carryOut_4
theorem t26_4 {d : Nat} {h : Hp} {Q : Pst} {x : Int32} {ls : List Value} {st : List Value} : T d 26 4 ls (.int x :: st) h Q ↔ swT (fun t => T d 26 t ls st h Q) x.toInt 0 [40, 51, 67, 83, 101] 116 := T_tsw c26_4 (by decide) (by decide) (by decide)
theorem c26_116 : cod 26 116 = some (.aload_n 1, 1) := cod_of b26 dX2_carryOut_116
theorem t26_116 {d : Nat} {h : Hp} {Q : Pst} {l0 : Value} {x : Nat} {st : List Value} : T d 26 116 [l0, .ref x] st h Q ↔ T d 26 117 [l0, .ref x] (.ref x :: st) h Q := T_aload_n c26_116 rfl
theorem c26_117 : cod 26 117 = some (.aload_n 0, 1) := cod_of b26 dX2_carryOut_117
theorem t26_117 {d : Nat} {h : Hp} {Q : Pst} {l1 : Value} {x : Nat} {st : List Value} : T d 26 117 [.ref x, l1] st h Q ↔ T d 26 118 [.ref x, l1] (.ref x :: st) h Q := T_aload_n c26_117 rfl
theorem c26_118 : cod 26 118 = some (.getfield 34, 3) := cod_of b26 dX2_carryOut_118
theorem t26_118 {d : Nat} {h : Hp} {Q : Pst} {a : Nat} {ls : List Value} {st : List Value} : T d 26 118 ls (.ref a :: st) h Q ↔ gF (h.2.2 a) 2 7 (fun v => T d 26 121 ls (v :: st) h Q) := T_getfieldR m26 c26_118 f2_34
theorem c26_121 : cod 26 121 = some (.invokevirtual 92, 3) := cod_of b26 dX2_carryOut_121
theorem t26_121 {d : Nat} {h : Hp} {Q : Pst} {a0 : Int32} {a : Nat} {ls : List Value} (ho : isO (h.2.2 a) 5) : T (d + 1) 26 121 ls [.int a0, .ref a] h Q ↔ T d 71 0 [.ref a, .int a0, un, un] [] h (fun x h2 => T (d + 1) 26 124 ls (rl x []) h2 Q) := T_virtualR (as := [.int a0]) (r := []) m26 m71 c26_121 k2_92  rfl (by decide) rfl (by simp [wrd, Value.category]) (by simp [stk, Value.category]) rfl (by decide +kernel) ho
theorem c26_124 : cod 26 124 = some (.return_, 1) := cod_of b26 dX2_carryOut_124
theorem t26_124 {d : Nat} {h : Hp} {Q : Pst} {ls : List Value} : T d 26 124 ls [] h Q ↔ Q none h := T_retR m26 c26_124 rfl
theorem c26_101 : cod 26 101 = some (.aload_n 1, 1) := cod_of b26 dX2_carryOut_101
theorem t26_101 {d : Nat} {h : Hp} {Q : Pst} {l0 : Value} {x : Nat} {st : List Value} : T d 26 101 [l0, .ref x] st h Q ↔ T d 26 102 [l0, .ref x] (.ref x :: st) h Q := T_aload_n c26_101 rfl
theorem c26_102 : cod 26 102 = some (.getfield 89, 3) := cod_of b26 dX2_carryOut_102
theorem t26_102 {d : Nat} {h : Hp} {Q : Pst} {a : Nat} {ls : List Value} {st : List Value} : T d 26 102 ls (.ref a :: st) h Q ↔ gF (h.2.2 a) 5 2 (fun v => T d 26 105 ls (v :: st) h Q) := T_getfieldR m26 c26_102 f2_89
theorem c26_105 : cod 26 105 = some (.aload_n 0, 1) := cod_of b26 dX2_carryOut_105
theorem t26_105 {d : Nat} {h : Hp} {Q : Pst} {l1 : Value} {x : Nat} {st : List Value} : T d 26 105 [.ref x, l1] st h Q ↔ T d 26 106 [.ref x, l1] (.ref x :: st) h Q := T_aload_n c26_105 rfl
theorem c26_106 : cod 26 106 = some (.getfield 34, 3) := cod_of b26 dX2_carryOut_106
theorem t26_106 {d : Nat} {h : Hp} {Q : Pst} {a : Nat} {ls : List Value} {st : List Value} : T d 26 106 ls (.ref a :: st) h Q ↔ gF (h.2.2 a) 2 7 (fun v => T d 26 109 ls (v :: st) h Q) := T_getfieldR m26 c26_106 f2_34
theorem c26_109 : cod 26 109 = some (.iconst (-1), 1) := cod_of b26 dX2_carryOut_109
theorem t26_109 {d : Nat} {h : Hp} {Q : Pst} {ls : List Value} {st : List Value} : T d 26 109 ls st h Q ↔ T d 26 110 ls (.int (-1) :: st) h Q := T_iconstV c26_109 (by decide)
theorem c26_110 : cod 26 110 = some (.invokestatic 40, 3) := cod_of b26 dX2_carryOut_110
theorem t26_110 {d : Nat} {h : Hp} {Q : Pst} {a0 : Nat} {a1 a2 : Int32} {ls : List Value} : T (d + 1) 26 110 ls [.int a2, .int a1, .ref a0] h Q ↔ T d 123 0 [.ref a0, .int a1, .int a2] [] h (fun x h2 => T (d + 1) 26 113 ls (rl x []) h2 Q) := T_staticR (as := [.ref a0, .int a1, .int a2]) (r := []) m26 m123 c26_110 k2_40 (Or.inr rfl) rfl (by decide) rfl (by simp [wrd, Value.category]) (by simp [stk, Value.category]) rfl
theorem c26_113 : cod 26 113 = some (.goto 11, 3) := cod_of b26 dX2_carryOut_113
theorem t26_113 {d : Nat} {h : Hp} {Q : Pst} {ls : List Value} {st : List Value} : T d 26 113 ls st h Q ↔ T d 26 124 ls st h Q := T_goto c26_113 (by decide)
theorem c26_83 : cod 26 83 = some (.aload_n 1, 1) := cod_of b26 dX2_carryOut_83
theorem t26_83 {d : Nat} {h : Hp} {Q : Pst} {l0 : Value} {x : Nat} {st : List Value} : T d 26 83 [l0, .ref x] st h Q ↔ T d 26 84 [l0, .ref x] (.ref x :: st) h Q := T_aload_n c26_83 rfl
theorem c26_84 : cod 26 84 = some (.getfield 89, 3) := cod_of b26 dX2_carryOut_84
theorem t26_84 {d : Nat} {h : Hp} {Q : Pst} {a : Nat} {ls : List Value} {st : List Value} : T d 26 84 ls (.ref a :: st) h Q ↔ gF (h.2.2 a) 5 2 (fun v => T d 26 87 ls (v :: st) h Q) := T_getfieldR m26 c26_84 f2_89
theorem c26_87 : cod 26 87 = some (.aload_n 0, 1) := cod_of b26 dX2_carryOut_87
theorem t26_87 {d : Nat} {h : Hp} {Q : Pst} {l1 : Value} {x : Nat} {st : List Value} : T d 26 87 [.ref x, l1] st h Q ↔ T d 26 88 [.ref x, l1] (.ref x :: st) h Q := T_aload_n c26_87 rfl
theorem c26_88 : cod 26 88 = some (.getfield 34, 3) := cod_of b26 dX2_carryOut_88
theorem t26_88 {d : Nat} {h : Hp} {Q : Pst} {a : Nat} {ls : List Value} {st : List Value} : T d 26 88 ls (.ref a :: st) h Q ↔ gF (h.2.2 a) 2 7 (fun v => T d 26 91 ls (v :: st) h Q) := T_getfieldR m26 c26_88 f2_34
theorem c26_91 : cod 26 91 = some (.aload_n 0, 1) := cod_of b26 dX2_carryOut_91
theorem t26_91 {d : Nat} {h : Hp} {Q : Pst} {l1 : Value} {x : Nat} {st : List Value} : T d 26 91 [.ref x, l1] st h Q ↔ T d 26 92 [.ref x, l1] (.ref x :: st) h Q := T_aload_n c26_91 rfl
theorem c26_92 : cod 26 92 = some (.getfield 37, 3) := cod_of b26 dX2_carryOut_92
theorem t26_92 {d : Nat} {h : Hp} {Q : Pst} {a : Nat} {ls : List Value} {st : List Value} : T d 26 92 ls (.ref a :: st) h Q ↔ gF (h.2.2 a) 2 8 (fun v => T d 26 95 ls (v :: st) h Q) := T_getfieldR m26 c26_92 f2_37
theorem c26_95 : cod 26 95 = some (.invokestatic 40, 3) := cod_of b26 dX2_carryOut_95
theorem t26_95 {d : Nat} {h : Hp} {Q : Pst} {a0 : Nat} {a1 a2 : Int32} {ls : List Value} : T (d + 1) 26 95 ls [.int a2, .int a1, .ref a0] h Q ↔ T d 123 0 [.ref a0, .int a1, .int a2] [] h (fun x h2 => T (d + 1) 26 98 ls (rl x []) h2 Q) := T_staticR (as := [.ref a0, .int a1, .int a2]) (r := []) m26 m123 c26_95 k2_40 (Or.inr rfl) rfl (by decide) rfl (by simp [wrd, Value.category]) (by simp [stk, Value.category]) rfl
theorem c26_98 : cod 26 98 = some (.goto 26, 3) := cod_of b26 dX2_carryOut_98
theorem t26_98 {d : Nat} {h : Hp} {Q : Pst} {ls : List Value} {st : List Value} : T d 26 98 ls st h Q ↔ T d 26 124 ls st h Q := T_goto c26_98 (by decide)
theorem c26_67 : cod 26 67 = some (.aload_n 1, 1) := cod_of b26 dX2_carryOut_67
theorem t26_67 {d : Nat} {h : Hp} {Q : Pst} {l0 : Value} {x : Nat} {st : List Value} : T d 26 67 [l0, .ref x] st h Q ↔ T d 26 68 [l0, .ref x] (.ref x :: st) h Q := T_aload_n c26_67 rfl
theorem c26_68 : cod 26 68 = some (.aload_n 0, 1) := cod_of b26 dX2_carryOut_68
theorem t26_68 {d : Nat} {h : Hp} {Q : Pst} {l1 : Value} {x : Nat} {st : List Value} : T d 26 68 [.ref x, l1] st h Q ↔ T d 26 69 [.ref x, l1] (.ref x :: st) h Q := T_aload_n c26_68 rfl
theorem c26_69 : cod 26 69 = some (.getfield 34, 3) := cod_of b26 dX2_carryOut_69
theorem t26_69 {d : Nat} {h : Hp} {Q : Pst} {a : Nat} {ls : List Value} {st : List Value} : T d 26 69 ls (.ref a :: st) h Q ↔ gF (h.2.2 a) 2 7 (fun v => T d 26 72 ls (v :: st) h Q) := T_getfieldR m26 c26_69 f2_34
theorem c26_72 : cod 26 72 = some (.aload_n 0, 1) := cod_of b26 dX2_carryOut_72
theorem t26_72 {d : Nat} {h : Hp} {Q : Pst} {l1 : Value} {x : Nat} {st : List Value} : T d 26 72 [.ref x, l1] st h Q ↔ T d 26 73 [.ref x, l1] (.ref x :: st) h Q := T_aload_n c26_72 rfl
theorem c26_73 : cod 26 73 = some (.getfield 37, 3) := cod_of b26 dX2_carryOut_73
theorem t26_73 {d : Nat} {h : Hp} {Q : Pst} {a : Nat} {ls : List Value} {st : List Value} : T d 26 73 ls (.ref a :: st) h Q ↔ gF (h.2.2 a) 2 8 (fun v => T d 26 76 ls (v :: st) h Q) := T_getfieldR m26 c26_73 f2_37
theorem c26_76 : cod 26 76 = some (.invokevirtual 86, 3) := cod_of b26 dX2_carryOut_76
theorem t26_76 {d : Nat} {h : Hp} {Q : Pst} {a0 a1 : Int32} {a : Nat} {ls : List Value} (ho : isO (h.2.2 a) 5) : T (d + 1) 26 76 ls [.int a1, .int a0, .ref a] h Q ↔ T d 58 0 [.ref a, .int a0, .int a1] [] h (fun x h2 => T (d + 1) 26 79 ls (rl x []) h2 Q) := T_virtualR (as := [.int a0, .int a1]) (r := []) m26 m58 c26_76 k2_86  rfl (by decide) rfl (by simp [wrd, Value.category]) (by simp [stk, Value.category]) rfl (by decide +kernel) ho
theorem c26_79 : cod 26 79 = some (.pop, 1) := cod_of b26 dX2_carryOut_79
theorem t26_79 {d : Nat} {h : Hp} {Q : Pst} {x : Int32} {ls : List Value} {st : List Value} : T d 26 79 ls (.int x :: st) h Q ↔ T d 26 80 ls st h Q := T_pop c26_79 rfl
theorem c26_80 : cod 26 80 = some (.goto 44, 3) := cod_of b26 dX2_carryOut_80
theorem t26_80 {d : Nat} {h : Hp} {Q : Pst} {ls : List Value} {st : List Value} : T d 26 80 ls st h Q ↔ T d 26 124 ls st h Q := T_goto c26_80 (by decide)
theorem c26_51 : cod 26 51 = some (.aload_n 1, 1) := cod_of b26 dX2_carryOut_51
theorem t26_51 {d : Nat} {h : Hp} {Q : Pst} {l0 : Value} {x : Nat} {st : List Value} : T d 26 51 [l0, .ref x] st h Q ↔ T d 26 52 [l0, .ref x] (.ref x :: st) h Q := T_aload_n c26_51 rfl
theorem c26_52 : cod 26 52 = some (.aload_n 0, 1) := cod_of b26 dX2_carryOut_52
theorem t26_52 {d : Nat} {h : Hp} {Q : Pst} {l1 : Value} {x : Nat} {st : List Value} : T d 26 52 [.ref x, l1] st h Q ↔ T d 26 53 [.ref x, l1] (.ref x :: st) h Q := T_aload_n c26_52 rfl
theorem c26_53 : cod 26 53 = some (.getfield 34, 3) := cod_of b26 dX2_carryOut_53
theorem t26_53 {d : Nat} {h : Hp} {Q : Pst} {a : Nat} {ls : List Value} {st : List Value} : T d 26 53 ls (.ref a :: st) h Q ↔ gF (h.2.2 a) 2 7 (fun v => T d 26 56 ls (v :: st) h Q) := T_getfieldR m26 c26_53 f2_34
theorem c26_56 : cod 26 56 = some (.aload_n 0, 1) := cod_of b26 dX2_carryOut_56
theorem t26_56 {d : Nat} {h : Hp} {Q : Pst} {l1 : Value} {x : Nat} {st : List Value} : T d 26 56 [.ref x, l1] st h Q ↔ T d 26 57 [.ref x, l1] (.ref x :: st) h Q := T_aload_n c26_56 rfl
theorem c26_57 : cod 26 57 = some (.getfield 37, 3) := cod_of b26 dX2_carryOut_57
theorem t26_57 {d : Nat} {h : Hp} {Q : Pst} {a : Nat} {ls : List Value} {st : List Value} : T d 26 57 ls (.ref a :: st) h Q ↔ gF (h.2.2 a) 2 8 (fun v => T d 26 60 ls (v :: st) h Q) := T_getfieldR m26 c26_57 f2_37
theorem c26_60 : cod 26 60 = some (.invokevirtual 82, 3) := cod_of b26 dX2_carryOut_60
theorem t26_60 {d : Nat} {h : Hp} {Q : Pst} {a0 a1 : Int32} {a : Nat} {ls : List Value} (ho : isO (h.2.2 a) 5) : T (d + 1) 26 60 ls [.int a1, .int a0, .ref a] h Q ↔ T d 57 0 [.ref a, .int a0, .int a1] [] h (fun x h2 => T (d + 1) 26 63 ls (rl x []) h2 Q) := T_virtualR (as := [.int a0, .int a1]) (r := []) m26 m57 c26_60 k2_82  rfl (by decide) rfl (by simp [wrd, Value.category]) (by simp [stk, Value.category]) rfl (by decide +kernel) ho
theorem c26_63 : cod 26 63 = some (.pop, 1) := cod_of b26 dX2_carryOut_63
theorem t26_63 {d : Nat} {h : Hp} {Q : Pst} {x : Int32} {ls : List Value} {st : List Value} : T d 26 63 ls (.int x :: st) h Q ↔ T d 26 64 ls st h Q := T_pop c26_63 rfl
theorem c26_64 : cod 26 64 = some (.goto 60, 3) := cod_of b26 dX2_carryOut_64
theorem t26_64 {d : Nat} {h : Hp} {Q : Pst} {ls : List Value} {st : List Value} : T d 26 64 ls st h Q ↔ T d 26 124 ls st h Q := T_goto c26_64 (by decide)
theorem c26_40 : cod 26 40 = some (.aload_n 1, 1) := cod_of b26 dX2_carryOut_40
theorem t26_40 {d : Nat} {h : Hp} {Q : Pst} {l0 : Value} {x : Nat} {st : List Value} : T d 26 40 [l0, .ref x] st h Q ↔ T d 26 41 [l0, .ref x] (.ref x :: st) h Q := T_aload_n c26_40 rfl
theorem c26_41 : cod 26 41 = some (.aload_n 0, 1) := cod_of b26 dX2_carryOut_41
theorem t26_41 {d : Nat} {h : Hp} {Q : Pst} {l1 : Value} {x : Nat} {st : List Value} : T d 26 41 [.ref x, l1] st h Q ↔ T d 26 42 [.ref x, l1] (.ref x :: st) h Q := T_aload_n c26_41 rfl
theorem c26_42 : cod 26 42 = some (.getfield 34, 3) := cod_of b26 dX2_carryOut_42
theorem t26_42 {d : Nat} {h : Hp} {Q : Pst} {a : Nat} {ls : List Value} {st : List Value} : T d 26 42 ls (.ref a :: st) h Q ↔ gF (h.2.2 a) 2 7 (fun v => T d 26 45 ls (v :: st) h Q) := T_getfieldR m26 c26_42 f2_34
theorem c26_45 : cod 26 45 = some (.putfield 79, 3) := cod_of b26 dX2_carryOut_45
theorem t26_45 {d : Nat} {h : Hp} {Q : Pst} {a : Nat} {x : Int32} {ls : List Value} {st : List Value} : T d 26 45 ls (.int x :: .ref a :: st) h Q ↔ pF (h.2.2 a) 5 12 (.int x) (fun cell => T d 26 48 ls st (hup h a cell) Q) := T_putfieldR m26 c26_45 f2_79 (by decide +kernel)
theorem c26_48 : cod 26 48 = some (.goto 76, 3) := cod_of b26 dX2_carryOut_48
theorem t26_48 {d : Nat} {h : Hp} {Q : Pst} {ls : List Value} {st : List Value} : T d 26 48 ls st h Q ↔ T d 26 124 ls st h Q := T_goto c26_48 (by decide)
theorem b27 : (mR 27).2.2.1 = cX2_step := by rw [m27]
theorem c27_0 : cod 27 0 = some (.aload_n 0, 1) := cod_of b27 dX2_step_0
theorem t27_0 {d : Nat} {h : Hp} {Q : Pst} {l1 : Value} {x : Nat} {st : List Value} : T d 27 0 [.ref x, l1] st h Q ↔ T d 27 1 [.ref x, l1] (.ref x :: st) h Q := T_aload_n c27_0 rfl
theorem c27_1 : cod 27 1 = some (.getfield 19, 3) := cod_of b27 dX2_step_1
theorem t27_1 {d : Nat} {h : Hp} {Q : Pst} {a : Nat} {ls : List Value} {st : List Value} : T d 27 1 ls (.ref a :: st) h Q ↔ gF (h.2.2 a) 2 2 (fun v => T d 27 4 ls (v :: st) h Q) := T_getfieldR m27 c27_1 f2_19
theorem c27_4 : cod 27 4 = some (.aload_n 0, 1) := cod_of b27 dX2_step_4
theorem t27_4 {d : Nat} {h : Hp} {Q : Pst} {l1 : Value} {x : Nat} {st : List Value} : T d 27 4 [.ref x, l1] st h Q ↔ T d 27 5 [.ref x, l1] (.ref x :: st) h Q := T_aload_n c27_4 rfl
theorem c27_5 : cod 27 5 = some (.getfield 15, 3) := cod_of b27 dX2_step_5
theorem t27_5 {d : Nat} {h : Hp} {Q : Pst} {a : Nat} {ls : List Value} {st : List Value} : T d 27 5 ls (.ref a :: st) h Q ↔ gF (h.2.2 a) 2 1 (fun v => T d 27 8 ls (v :: st) h Q) := T_getfieldR m27 c27_5 f2_15
theorem c27_8 : cod 27 8 = some (.if_icmp .ge 32, 3) := cod_of b27 dX2_step_8
theorem t27_8 {d : Nat} {h : Hp} {Q : Pst} {x y : Int32} {ls : List Value} {st : List Value} : T d 27 8 ls (.int y :: .int x :: st) h Q ↔ (if y ≤ x then T d 27 40 ls st h Q else T d 27 11 ls st h Q) := T_icmp_ge c27_8 (by decide)
theorem c27_11 : cod 27 11 = some (.aload_n 0, 1) := cod_of b27 dX2_step_11
theorem t27_11 {d : Nat} {h : Hp} {Q : Pst} {l1 : Value} {x : Nat} {st : List Value} : T d 27 11 [.ref x, l1] st h Q ↔ T d 27 12 [.ref x, l1] (.ref x :: st) h Q := T_aload_n c27_11 rfl
theorem c27_12 : cod 27 12 = some (.getfield 9, 3) := cod_of b27 dX2_step_12
theorem t27_12 {d : Nat} {h : Hp} {Q : Pst} {a : Nat} {ls : List Value} {st : List Value} : T d 27 12 ls (.ref a :: st) h Q ↔ gF (h.2.2 a) 2 0 (fun v => T d 27 15 ls (v :: st) h Q) := T_getfieldR m27 c27_12 f2_9
theorem c27_15 : cod 27 15 = some (.aload_n 0, 1) := cod_of b27 dX2_step_15
theorem t27_15 {d : Nat} {h : Hp} {Q : Pst} {l1 : Value} {x : Nat} {st : List Value} : T d 27 15 [.ref x, l1] st h Q ↔ T d 27 16 [.ref x, l1] (.ref x :: st) h Q := T_aload_n c27_15 rfl
theorem c27_16 : cod 27 16 = some (.getfield 19, 3) := cod_of b27 dX2_step_16
theorem t27_16 {d : Nat} {h : Hp} {Q : Pst} {a : Nat} {ls : List Value} {st : List Value} : T d 27 16 ls (.ref a :: st) h Q ↔ gF (h.2.2 a) 2 2 (fun v => T d 27 19 ls (v :: st) h Q) := T_getfieldR m27 c27_16 f2_19
theorem c27_19 : cod 27 19 = some (.invokestatic 96, 3) := cod_of b27 dX2_step_19
theorem t27_19 {d : Nat} {h : Hp} {Q : Pst} {a0 : Nat} {a1 : Int32} {ls : List Value} : T (d + 1) 27 19 ls [.int a1, .ref a0] h Q ↔ T d 122 0 [.ref a0, .int a1] [] h (fun x h2 => T (d + 1) 27 22 ls (rl x []) h2 Q) := T_staticR (as := [.ref a0, .int a1]) (r := []) m27 m122 c27_19 k2_96 (Or.inr rfl) rfl (by decide) rfl (by simp [wrd, Value.category]) (by simp [stk, Value.category]) rfl
theorem c27_22 : cod 27 22 = some (.bipush 32, 2) := cod_of b27 dX2_step_22
theorem t27_22 {d : Nat} {h : Hp} {Q : Pst} {ls : List Value} {st : List Value} : T d 27 22 ls st h Q ↔ T d 27 24 ls (.int 32 :: st) h Q := T_bipushV c27_22 (by decide)
theorem c27_24 : cod 27 24 = some (.if_icmp .ne 16, 3) := cod_of b27 dX2_step_24
theorem t27_24 {d : Nat} {h : Hp} {Q : Pst} {x y : Int32} {ls : List Value} {st : List Value} : T d 27 24 ls (.int y :: .int x :: st) h Q ↔ (if ¬ x = y then T d 27 40 ls st h Q else T d 27 27 ls st h Q) := T_icmp_ne c27_24 (by decide)
theorem c27_27 : cod 27 27 = some (.aload_n 0, 1) := cod_of b27 dX2_step_27
theorem t27_27 {d : Nat} {h : Hp} {Q : Pst} {l1 : Value} {x : Nat} {st : List Value} : T d 27 27 [.ref x, l1] st h Q ↔ T d 27 28 [.ref x, l1] (.ref x :: st) h Q := T_aload_n c27_27 rfl
theorem c27_28 : cod 27 28 = some (.dup, 1) := cod_of b27 dX2_step_28
theorem t27_28 {d : Nat} {h : Hp} {Q : Pst} {x : Nat} {ls : List Value} {st : List Value} : T d 27 28 ls (.ref x :: st) h Q ↔ T d 27 29 ls (.ref x :: .ref x :: st) h Q := T_dup c27_28 rfl
theorem c27_29 : cod 27 29 = some (.getfield 19, 3) := cod_of b27 dX2_step_29
theorem t27_29 {d : Nat} {h : Hp} {Q : Pst} {a : Nat} {ls : List Value} {st : List Value} : T d 27 29 ls (.ref a :: st) h Q ↔ gF (h.2.2 a) 2 2 (fun v => T d 27 32 ls (v :: st) h Q) := T_getfieldR m27 c27_29 f2_19
theorem c27_32 : cod 27 32 = some (.iconst 1, 1) := cod_of b27 dX2_step_32
theorem t27_32 {d : Nat} {h : Hp} {Q : Pst} {ls : List Value} {st : List Value} : T d 27 32 ls st h Q ↔ T d 27 33 ls (.int 1 :: st) h Q := T_iconstV c27_32 (by decide)
theorem c27_33 : cod 27 33 = some (.iadd, 1) := cod_of b27 dX2_step_33
theorem t27_33 {d : Nat} {h : Hp} {Q : Pst} {x y : Int32} {ls : List Value} {st : List Value} : T d 27 33 ls (.int y :: .int x :: st) h Q ↔ T d 27 34 ls (.int (x + y) :: st) h Q := T_iadd c27_33
theorem c27_34 : cod 27 34 = some (.putfield 19, 3) := cod_of b27 dX2_step_34
theorem t27_34 {d : Nat} {h : Hp} {Q : Pst} {a : Nat} {x : Int32} {ls : List Value} {st : List Value} : T d 27 34 ls (.int x :: .ref a :: st) h Q ↔ pF (h.2.2 a) 2 2 (.int x) (fun cell => T d 27 37 ls st (hup h a cell) Q) := T_putfieldR m27 c27_34 f2_19 (by decide +kernel)
theorem c27_37 : cod 27 37 = some (.goto (-37), 3) := cod_of b27 dX2_step_37
theorem t27_37 {d : Nat} {h : Hp} {Q : Pst} {ls : List Value} {st : List Value} : T d 27 37 ls st h Q ↔ T d 27 0 ls st h Q := T_goto c27_37 (by decide)
theorem c27_40 : cod 27 40 = some (.aload_n 0, 1) := cod_of b27 dX2_step_40
theorem t27_40 {d : Nat} {h : Hp} {Q : Pst} {l1 : Value} {x : Nat} {st : List Value} : T d 27 40 [.ref x, l1] st h Q ↔ T d 27 41 [.ref x, l1] (.ref x :: st) h Q := T_aload_n c27_40 rfl
theorem c27_41 : cod 27 41 = some (.aload_n 0, 1) := cod_of b27 dX2_step_41
theorem t27_41 {d : Nat} {h : Hp} {Q : Pst} {l1 : Value} {x : Nat} {st : List Value} : T d 27 41 [.ref x, l1] st h Q ↔ T d 27 42 [.ref x, l1] (.ref x :: st) h Q := T_aload_n c27_41 rfl
theorem c27_42 : cod 27 42 = some (.getfield 19, 3) := cod_of b27 dX2_step_42
theorem t27_42 {d : Nat} {h : Hp} {Q : Pst} {a : Nat} {ls : List Value} {st : List Value} : T d 27 42 ls (.ref a :: st) h Q ↔ gF (h.2.2 a) 2 2 (fun v => T d 27 45 ls (v :: st) h Q) := T_getfieldR m27 c27_42 f2_19
theorem c27_45 : cod 27 45 = some (.putfield 22, 3) := cod_of b27 dX2_step_45
theorem t27_45 {d : Nat} {h : Hp} {Q : Pst} {a : Nat} {x : Int32} {ls : List Value} {st : List Value} : T d 27 45 ls (.int x :: .ref a :: st) h Q ↔ pF (h.2.2 a) 2 3 (.int x) (fun cell => T d 27 48 ls st (hup h a cell) Q) := T_putfieldR m27 c27_45 f2_22 (by decide +kernel)
theorem c27_48 : cod 27 48 = some (.aload_n 0, 1) := cod_of b27 dX2_step_48
theorem t27_48 {d : Nat} {h : Hp} {Q : Pst} {l1 : Value} {x : Nat} {st : List Value} : T d 27 48 [.ref x, l1] st h Q ↔ T d 27 49 [.ref x, l1] (.ref x :: st) h Q := T_aload_n c27_48 rfl
theorem c27_49 : cod 27 49 = some (.getfield 9, 3) := cod_of b27 dX2_step_49
theorem t27_49 {d : Nat} {h : Hp} {Q : Pst} {a : Nat} {ls : List Value} {st : List Value} : T d 27 49 ls (.ref a :: st) h Q ↔ gF (h.2.2 a) 2 0 (fun v => T d 27 52 ls (v :: st) h Q) := T_getfieldR m27 c27_49 f2_9
theorem c27_52 : cod 27 52 = some (.aload_n 0, 1) := cod_of b27 dX2_step_52
theorem t27_52 {d : Nat} {h : Hp} {Q : Pst} {l1 : Value} {x : Nat} {st : List Value} : T d 27 52 [.ref x, l1] st h Q ↔ T d 27 53 [.ref x, l1] (.ref x :: st) h Q := T_aload_n c27_52 rfl
theorem c27_53 : cod 27 53 = some (.getfield 19, 3) := cod_of b27 dX2_step_53
theorem t27_53 {d : Nat} {h : Hp} {Q : Pst} {a : Nat} {ls : List Value} {st : List Value} : T d 27 53 ls (.ref a :: st) h Q ↔ gF (h.2.2 a) 2 2 (fun v => T d 27 56 ls (v :: st) h Q) := T_getfieldR m27 c27_53 f2_19
theorem c27_56 : cod 27 56 = some (.invokestatic 96, 3) := cod_of b27 dX2_step_56
theorem t27_56 {d : Nat} {h : Hp} {Q : Pst} {a0 : Nat} {a1 : Int32} {ls : List Value} : T (d + 1) 27 56 ls [.int a1, .ref a0] h Q ↔ T d 122 0 [.ref a0, .int a1] [] h (fun x h2 => T (d + 1) 27 59 ls (rl x []) h2 Q) := T_staticR (as := [.ref a0, .int a1]) (r := []) m27 m122 c27_56 k2_96 (Or.inr rfl) rfl (by decide) rfl (by simp [wrd, Value.category]) (by simp [stk, Value.category]) rfl
theorem c27_59 : cod 27 59 = some (.istore_n 1, 1) := cod_of b27 dX2_step_59
theorem t27_59 {d : Nat} {h : Hp} {Q : Pst} {l0 l1 : Value} {x : Int32} {st : List Value} : T d 27 59 [l0, l1] (.int x :: st) h Q ↔ T d 27 60 [kil l0, .int x] st h Q := T_istore_n c27_59 (Nat.le_of_ble_eq_true rfl)
theorem c27_60 : cod 27 60 = some (.aload_n 0, 1) := cod_of b27 dX2_step_60
theorem t27_60 {d : Nat} {h : Hp} {Q : Pst} {l1 : Value} {x : Nat} {st : List Value} : T d 27 60 [.ref x, l1] st h Q ↔ T d 27 61 [.ref x, l1] (.ref x :: st) h Q := T_aload_n c27_60 rfl
theorem c27_61 : cod 27 61 = some (.getfield 19, 3) := cod_of b27 dX2_step_61
theorem t27_61 {d : Nat} {h : Hp} {Q : Pst} {a : Nat} {ls : List Value} {st : List Value} : T d 27 61 ls (.ref a :: st) h Q ↔ gF (h.2.2 a) 2 2 (fun v => T d 27 64 ls (v :: st) h Q) := T_getfieldR m27 c27_61 f2_19
theorem c27_64 : cod 27 64 = some (.aload_n 0, 1) := cod_of b27 dX2_step_64
theorem t27_64 {d : Nat} {h : Hp} {Q : Pst} {l1 : Value} {x : Nat} {st : List Value} : T d 27 64 [.ref x, l1] st h Q ↔ T d 27 65 [.ref x, l1] (.ref x :: st) h Q := T_aload_n c27_64 rfl
theorem c27_65 : cod 27 65 = some (.getfield 15, 3) := cod_of b27 dX2_step_65
theorem t27_65 {d : Nat} {h : Hp} {Q : Pst} {a : Nat} {ls : List Value} {st : List Value} : T d 27 65 ls (.ref a :: st) h Q ↔ gF (h.2.2 a) 2 1 (fun v => T d 27 68 ls (v :: st) h Q) := T_getfieldR m27 c27_65 f2_15
theorem c27_68 : cod 27 68 = some (.if_icmp .lt 11, 3) := cod_of b27 dX2_step_68
theorem t27_68 {d : Nat} {h : Hp} {Q : Pst} {x y : Int32} {ls : List Value} {st : List Value} : T d 27 68 ls (.int y :: .int x :: st) h Q ↔ (if x < y then T d 27 79 ls st h Q else T d 27 71 ls st h Q) := T_icmp_lt c27_68 (by decide)
theorem c27_71 : cod 27 71 = some (.aload_n 0, 1) := cod_of b27 dX2_step_71
theorem t27_71 {d : Nat} {h : Hp} {Q : Pst} {l1 : Value} {x : Nat} {st : List Value} : T d 27 71 [.ref x, l1] st h Q ↔ T d 27 72 [.ref x, l1] (.ref x :: st) h Q := T_aload_n c27_71 rfl
theorem c27_72 : cod 27 72 = some (.iconst 0, 1) := cod_of b27 dX2_step_72
theorem t27_72 {d : Nat} {h : Hp} {Q : Pst} {ls : List Value} {st : List Value} : T d 27 72 ls st h Q ↔ T d 27 73 ls (.int 0 :: st) h Q := T_iconstV c27_72 (by decide)
theorem c27_73 : cod 27 73 = some (.putfield 25, 3) := cod_of b27 dX2_step_73
theorem t27_73 {d : Nat} {h : Hp} {Q : Pst} {a : Nat} {x : Int32} {ls : List Value} {st : List Value} : T d 27 73 ls (.int x :: .ref a :: st) h Q ↔ pF (h.2.2 a) 2 4 (.int x) (fun cell => T d 27 76 ls st (hup h a cell) Q) := T_putfieldR m27 c27_73 f2_25 (by decide +kernel)
theorem c27_76 : cod 27 76 = some (.goto 56, 3) := cod_of b27 dX2_step_76
theorem t27_76 {d : Nat} {h : Hp} {Q : Pst} {ls : List Value} {st : List Value} : T d 27 76 ls st h Q ↔ T d 27 132 ls st h Q := T_goto c27_76 (by decide)
theorem c27_132 : cod 27 132 = some (.return_, 1) := cod_of b27 dX2_step_132
theorem t27_132 {d : Nat} {h : Hp} {Q : Pst} {ls : List Value} : T d 27 132 ls [] h Q ↔ Q none h := T_retR m27 c27_132 rfl
theorem c27_79 : cod 27 79 = some (.iload_n 1, 1) := cod_of b27 dX2_step_79
theorem t27_79 {d : Nat} {h : Hp} {Q : Pst} {l0 : Value} {x : Int32} {st : List Value} : T d 27 79 [l0, .int x] st h Q ↔ T d 27 80 [l0, .int x] (.int x :: st) h Q := T_iload_n c27_79 rfl
theorem c27_80 : cod 27 80 = some (.invokestatic 100, 3) := cod_of b27 dX2_step_80
theorem t27_80 {d : Nat} {h : Hp} {Q : Pst} {a0 : Int32} {ls : List Value} : T (d + 1) 27 80 ls [.int a0] h Q ↔ T d 32 0 [.int a0] [] h (fun x h2 => T (d + 1) 27 83 ls (rl x []) h2 Q) := T_staticR (as := [.int a0]) (r := []) m27 m32 c27_80 k2_100 (Or.inl rfl) rfl (by decide) rfl (by simp [wrd, Value.category]) (by simp [stk, Value.category]) rfl
theorem c27_83 : cod 27 83 = some (.ifCond .eq 10, 3) := cod_of b27 dX2_step_83
theorem t27_83 {d : Nat} {h : Hp} {Q : Pst} {x : Int32} {ls : List Value} {st : List Value} : T d 27 83 ls (.int x :: st) h Q ↔ (if x = 0 then T d 27 93 ls st h Q else T d 27 86 ls st h Q) := T_if_eq c27_83 (by decide)
theorem c27_86 : cod 27 86 = some (.aload_n 0, 1) := cod_of b27 dX2_step_86
theorem t27_86 {d : Nat} {h : Hp} {Q : Pst} {l1 : Value} {x : Nat} {st : List Value} : T d 27 86 [.ref x, l1] st h Q ↔ T d 27 87 [.ref x, l1] (.ref x :: st) h Q := T_aload_n c27_86 rfl
theorem c27_87 : cod 27 87 = some (.invokevirtual 104, 3) := cod_of b27 dX2_step_87
theorem t27_87 {d : Nat} {h : Hp} {Q : Pst} {a : Nat} {ls : List Value} (ho : isO (h.2.2 a) 2) : T (d + 1) 27 87 ls [.ref a] h Q ↔ T d 28 0 [.ref a, un] [] h (fun x h2 => T (d + 1) 27 90 ls (rl x []) h2 Q) := T_virtualR (as := []) (r := []) m27 m28 c27_87 k2_104  rfl (by decide) rfl (by simp [wrd, Value.category]) (by simp [stk, Value.category]) rfl (by decide +kernel) ho
theorem c27_90 : cod 27 90 = some (.goto 42, 3) := cod_of b27 dX2_step_90
theorem t27_90 {d : Nat} {h : Hp} {Q : Pst} {ls : List Value} {st : List Value} : T d 27 90 ls st h Q ↔ T d 27 132 ls st h Q := T_goto c27_90 (by decide)
theorem c27_93 : cod 27 93 = some (.iload_n 1, 1) := cod_of b27 dX2_step_93
theorem t27_93 {d : Nat} {h : Hp} {Q : Pst} {l0 : Value} {x : Int32} {st : List Value} : T d 27 93 [l0, .int x] st h Q ↔ T d 27 94 [l0, .int x] (.int x :: st) h Q := T_iload_n c27_93 rfl
theorem c27_94 : cod 27 94 = some (.invokestatic 107, 3) := cod_of b27 dX2_step_94
theorem t27_94 {d : Nat} {h : Hp} {Q : Pst} {a0 : Int32} {ls : List Value} : T (d + 1) 27 94 ls [.int a0] h Q ↔ T d 33 0 [.int a0] [] h (fun x h2 => T (d + 1) 27 97 ls (rl x []) h2 Q) := T_staticR (as := [.int a0]) (r := []) m27 m33 c27_94 k2_107 (Or.inl rfl) rfl (by decide) rfl (by simp [wrd, Value.category]) (by simp [stk, Value.category]) rfl
theorem c27_97 : cod 27 97 = some (.ifCond .eq 10, 3) := cod_of b27 dX2_step_97
theorem t27_97 {d : Nat} {h : Hp} {Q : Pst} {x : Int32} {ls : List Value} {st : List Value} : T d 27 97 ls (.int x :: st) h Q ↔ (if x = 0 then T d 27 107 ls st h Q else T d 27 100 ls st h Q) := T_if_eq c27_97 (by decide)
theorem c27_100 : cod 27 100 = some (.aload_n 0, 1) := cod_of b27 dX2_step_100
theorem t27_100 {d : Nat} {h : Hp} {Q : Pst} {l1 : Value} {x : Nat} {st : List Value} : T d 27 100 [.ref x, l1] st h Q ↔ T d 27 101 [.ref x, l1] (.ref x :: st) h Q := T_aload_n c27_100 rfl
theorem c27_101 : cod 27 101 = some (.invokevirtual 110, 3) := cod_of b27 dX2_step_101
theorem t27_101 {d : Nat} {h : Hp} {Q : Pst} {a : Nat} {ls : List Value} (ho : isO (h.2.2 a) 2) : T (d + 1) 27 101 ls [.ref a] h Q ↔ T d 29 0 [.ref a] [] h (fun x h2 => T (d + 1) 27 104 ls (rl x []) h2 Q) := T_virtualR (as := []) (r := []) m27 m29 c27_101 k2_110  rfl (by decide) rfl (by simp [wrd, Value.category]) (by simp [stk, Value.category]) rfl (by decide +kernel) ho
theorem c27_104 : cod 27 104 = some (.goto 28, 3) := cod_of b27 dX2_step_104
theorem t27_104 {d : Nat} {h : Hp} {Q : Pst} {ls : List Value} {st : List Value} : T d 27 104 ls st h Q ↔ T d 27 132 ls st h Q := T_goto c27_104 (by decide)
theorem c27_107 : cod 27 107 = some (.aload_n 0, 1) := cod_of b27 dX2_step_107
theorem t27_107 {d : Nat} {h : Hp} {Q : Pst} {l1 : Value} {x : Nat} {st : List Value} : T d 27 107 [.ref x, l1] st h Q ↔ T d 27 108 [.ref x, l1] (.ref x :: st) h Q := T_aload_n c27_107 rfl
theorem c27_108 : cod 27 108 = some (.dup, 1) := cod_of b27 dX2_step_108
theorem t27_108 {d : Nat} {h : Hp} {Q : Pst} {x : Nat} {ls : List Value} {st : List Value} : T d 27 108 ls (.ref x :: st) h Q ↔ T d 27 109 ls (.ref x :: .ref x :: st) h Q := T_dup c27_108 rfl
theorem c27_109 : cod 27 109 = some (.getfield 19, 3) := cod_of b27 dX2_step_109
theorem t27_109 {d : Nat} {h : Hp} {Q : Pst} {a : Nat} {ls : List Value} {st : List Value} : T d 27 109 ls (.ref a :: st) h Q ↔ gF (h.2.2 a) 2 2 (fun v => T d 27 112 ls (v :: st) h Q) := T_getfieldR m27 c27_109 f2_19
theorem c27_112 : cod 27 112 = some (.iconst 1, 1) := cod_of b27 dX2_step_112
theorem t27_112 {d : Nat} {h : Hp} {Q : Pst} {ls : List Value} {st : List Value} : T d 27 112 ls st h Q ↔ T d 27 113 ls (.int 1 :: st) h Q := T_iconstV c27_112 (by decide)
theorem c27_113 : cod 27 113 = some (.iadd, 1) := cod_of b27 dX2_step_113
theorem t27_113 {d : Nat} {h : Hp} {Q : Pst} {x y : Int32} {ls : List Value} {st : List Value} : T d 27 113 ls (.int y :: .int x :: st) h Q ↔ T d 27 114 ls (.int (x + y) :: st) h Q := T_iadd c27_113
theorem c27_114 : cod 27 114 = some (.putfield 19, 3) := cod_of b27 dX2_step_114
theorem t27_114 {d : Nat} {h : Hp} {Q : Pst} {a : Nat} {x : Int32} {ls : List Value} {st : List Value} : T d 27 114 ls (.int x :: .ref a :: st) h Q ↔ pF (h.2.2 a) 2 2 (.int x) (fun cell => T d 27 117 ls st (hup h a cell) Q) := T_putfieldR m27 c27_114 f2_19 (by decide +kernel)
theorem c27_117 : cod 27 117 = some (.aload_n 0, 1) := cod_of b27 dX2_step_117
theorem t27_117 {d : Nat} {h : Hp} {Q : Pst} {l1 : Value} {x : Nat} {st : List Value} : T d 27 117 [.ref x, l1] st h Q ↔ T d 27 118 [.ref x, l1] (.ref x :: st) h Q := T_aload_n c27_117 rfl
theorem c27_118 : cod 27 118 = some (.iload_n 1, 1) := cod_of b27 dX2_step_118
theorem t27_118 {d : Nat} {h : Hp} {Q : Pst} {l0 : Value} {x : Int32} {st : List Value} : T d 27 118 [l0, .int x] st h Q ↔ T d 27 119 [l0, .int x] (.int x :: st) h Q := T_iload_n c27_118 rfl
theorem c27_119 : cod 27 119 = some (.bipush 59, 2) := cod_of b27 dX2_step_119
theorem t27_119 {d : Nat} {h : Hp} {Q : Pst} {ls : List Value} {st : List Value} : T d 27 119 ls st h Q ↔ T d 27 121 ls (.int 59 :: st) h Q := T_bipushV c27_119 (by decide)
theorem c27_121 : cod 27 121 = some (.if_icmp .ne 7, 3) := cod_of b27 dX2_step_121
theorem t27_121 {d : Nat} {h : Hp} {Q : Pst} {x y : Int32} {ls : List Value} {st : List Value} : T d 27 121 ls (.int y :: .int x :: st) h Q ↔ (if ¬ x = y then T d 27 128 ls st h Q else T d 27 124 ls st h Q) := T_icmp_ne c27_121 (by decide)
theorem c27_124 : cod 27 124 = some (.iconst 3, 1) := cod_of b27 dX2_step_124
theorem t27_124 {d : Nat} {h : Hp} {Q : Pst} {ls : List Value} {st : List Value} : T d 27 124 ls st h Q ↔ T d 27 125 ls (.int 3 :: st) h Q := T_iconstV c27_124 (by decide)
theorem c27_125 : cod 27 125 = some (.goto 4, 3) := cod_of b27 dX2_step_125
theorem t27_125 {d : Nat} {h : Hp} {Q : Pst} {ls : List Value} {st : List Value} : T d 27 125 ls st h Q ↔ T d 27 129 ls st h Q := T_goto c27_125 (by decide)
theorem c27_129 : cod 27 129 = some (.putfield 25, 3) := cod_of b27 dX2_step_129
theorem t27_129 {d : Nat} {h : Hp} {Q : Pst} {a : Nat} {x : Int32} {ls : List Value} {st : List Value} : T d 27 129 ls (.int x :: .ref a :: st) h Q ↔ pF (h.2.2 a) 2 4 (.int x) (fun cell => T d 27 132 ls st (hup h a cell) Q) := T_putfieldR m27 c27_129 f2_25 (by decide +kernel)
theorem c27_128 : cod 27 128 = some (.iconst 4, 1) := cod_of b27 dX2_step_128
theorem t27_128 {d : Nat} {h : Hp} {Q : Pst} {ls : List Value} {st : List Value} : T d 27 128 ls st h Q ↔ T d 27 129 ls (.int 4 :: st) h Q := T_iconstV c27_128 (by decide)
theorem b28 : (mR 28).2.2.1 = cX2_takeWord := by rw [m28]
theorem c28_0 : cod 28 0 = some (.aload_n 0, 1) := cod_of b28 dX2_takeWord_0
theorem t28_0 {d : Nat} {h : Hp} {Q : Pst} {l1 : Value} {x : Nat} {st : List Value} : T d 28 0 [.ref x, l1] st h Q ↔ T d 28 1 [.ref x, l1] (.ref x :: st) h Q := T_aload_n c28_0 rfl
theorem c28_1 : cod 28 1 = some (.getfield 19, 3) := cod_of b28 dX2_takeWord_1
theorem t28_1 {d : Nat} {h : Hp} {Q : Pst} {a : Nat} {ls : List Value} {st : List Value} : T d 28 1 ls (.ref a :: st) h Q ↔ gF (h.2.2 a) 2 2 (fun v => T d 28 4 ls (v :: st) h Q) := T_getfieldR m28 c28_1 f2_19
theorem c28_4 : cod 28 4 = some (.aload_n 0, 1) := cod_of b28 dX2_takeWord_4
theorem t28_4 {d : Nat} {h : Hp} {Q : Pst} {l1 : Value} {x : Nat} {st : List Value} : T d 28 4 [.ref x, l1] st h Q ↔ T d 28 5 [.ref x, l1] (.ref x :: st) h Q := T_aload_n c28_4 rfl
theorem c28_5 : cod 28 5 = some (.getfield 15, 3) := cod_of b28 dX2_takeWord_5
theorem t28_5 {d : Nat} {h : Hp} {Q : Pst} {a : Nat} {ls : List Value} {st : List Value} : T d 28 5 ls (.ref a :: st) h Q ↔ gF (h.2.2 a) 2 1 (fun v => T d 28 8 ls (v :: st) h Q) := T_getfieldR m28 c28_5 f2_15
theorem c28_8 : cod 28 8 = some (.if_icmp .ge 33, 3) := cod_of b28 dX2_takeWord_8
theorem t28_8 {d : Nat} {h : Hp} {Q : Pst} {x y : Int32} {ls : List Value} {st : List Value} : T d 28 8 ls (.int y :: .int x :: st) h Q ↔ (if y ≤ x then T d 28 41 ls st h Q else T d 28 11 ls st h Q) := T_icmp_ge c28_8 (by decide)
theorem c28_11 : cod 28 11 = some (.aload_n 0, 1) := cod_of b28 dX2_takeWord_11
theorem t28_11 {d : Nat} {h : Hp} {Q : Pst} {l1 : Value} {x : Nat} {st : List Value} : T d 28 11 [.ref x, l1] st h Q ↔ T d 28 12 [.ref x, l1] (.ref x :: st) h Q := T_aload_n c28_11 rfl
theorem c28_12 : cod 28 12 = some (.getfield 9, 3) := cod_of b28 dX2_takeWord_12
theorem t28_12 {d : Nat} {h : Hp} {Q : Pst} {a : Nat} {ls : List Value} {st : List Value} : T d 28 12 ls (.ref a :: st) h Q ↔ gF (h.2.2 a) 2 0 (fun v => T d 28 15 ls (v :: st) h Q) := T_getfieldR m28 c28_12 f2_9
theorem c28_15 : cod 28 15 = some (.aload_n 0, 1) := cod_of b28 dX2_takeWord_15
theorem t28_15 {d : Nat} {h : Hp} {Q : Pst} {l1 : Value} {x : Nat} {st : List Value} : T d 28 15 [.ref x, l1] st h Q ↔ T d 28 16 [.ref x, l1] (.ref x :: st) h Q := T_aload_n c28_15 rfl
theorem c28_16 : cod 28 16 = some (.getfield 19, 3) := cod_of b28 dX2_takeWord_16
theorem t28_16 {d : Nat} {h : Hp} {Q : Pst} {a : Nat} {ls : List Value} {st : List Value} : T d 28 16 ls (.ref a :: st) h Q ↔ gF (h.2.2 a) 2 2 (fun v => T d 28 19 ls (v :: st) h Q) := T_getfieldR m28 c28_16 f2_19
theorem c28_19 : cod 28 19 = some (.invokestatic 96, 3) := cod_of b28 dX2_takeWord_19
theorem t28_19 {d : Nat} {h : Hp} {Q : Pst} {a0 : Nat} {a1 : Int32} {ls : List Value} : T (d + 1) 28 19 ls [.int a1, .ref a0] h Q ↔ T d 122 0 [.ref a0, .int a1] [] h (fun x h2 => T (d + 1) 28 22 ls (rl x []) h2 Q) := T_staticR (as := [.ref a0, .int a1]) (r := []) m28 m122 c28_19 k2_96 (Or.inr rfl) rfl (by decide) rfl (by simp [wrd, Value.category]) (by simp [stk, Value.category]) rfl
theorem c28_22 : cod 28 22 = some (.invokestatic 100, 3) := cod_of b28 dX2_takeWord_22
theorem t28_22 {d : Nat} {h : Hp} {Q : Pst} {a0 : Int32} {ls : List Value} : T (d + 1) 28 22 ls [.int a0] h Q ↔ T d 32 0 [.int a0] [] h (fun x h2 => T (d + 1) 28 25 ls (rl x []) h2 Q) := T_staticR (as := [.int a0]) (r := []) m28 m32 c28_22 k2_100 (Or.inl rfl) rfl (by decide) rfl (by simp [wrd, Value.category]) (by simp [stk, Value.category]) rfl
theorem c28_25 : cod 28 25 = some (.ifCond .eq 16, 3) := cod_of b28 dX2_takeWord_25
theorem t28_25 {d : Nat} {h : Hp} {Q : Pst} {x : Int32} {ls : List Value} {st : List Value} : T d 28 25 ls (.int x :: st) h Q ↔ (if x = 0 then T d 28 41 ls st h Q else T d 28 28 ls st h Q) := T_if_eq c28_25 (by decide)
theorem c28_28 : cod 28 28 = some (.aload_n 0, 1) := cod_of b28 dX2_takeWord_28
theorem t28_28 {d : Nat} {h : Hp} {Q : Pst} {l1 : Value} {x : Nat} {st : List Value} : T d 28 28 [.ref x, l1] st h Q ↔ T d 28 29 [.ref x, l1] (.ref x :: st) h Q := T_aload_n c28_28 rfl
theorem c28_29 : cod 28 29 = some (.dup, 1) := cod_of b28 dX2_takeWord_29
theorem t28_29 {d : Nat} {h : Hp} {Q : Pst} {x : Nat} {ls : List Value} {st : List Value} : T d 28 29 ls (.ref x :: st) h Q ↔ T d 28 30 ls (.ref x :: .ref x :: st) h Q := T_dup c28_29 rfl
theorem c28_30 : cod 28 30 = some (.getfield 19, 3) := cod_of b28 dX2_takeWord_30
theorem t28_30 {d : Nat} {h : Hp} {Q : Pst} {a : Nat} {ls : List Value} {st : List Value} : T d 28 30 ls (.ref a :: st) h Q ↔ gF (h.2.2 a) 2 2 (fun v => T d 28 33 ls (v :: st) h Q) := T_getfieldR m28 c28_30 f2_19
theorem c28_33 : cod 28 33 = some (.iconst 1, 1) := cod_of b28 dX2_takeWord_33
theorem t28_33 {d : Nat} {h : Hp} {Q : Pst} {ls : List Value} {st : List Value} : T d 28 33 ls st h Q ↔ T d 28 34 ls (.int 1 :: st) h Q := T_iconstV c28_33 (by decide)
theorem c28_34 : cod 28 34 = some (.iadd, 1) := cod_of b28 dX2_takeWord_34
theorem t28_34 {d : Nat} {h : Hp} {Q : Pst} {x y : Int32} {ls : List Value} {st : List Value} : T d 28 34 ls (.int y :: .int x :: st) h Q ↔ T d 28 35 ls (.int (x + y) :: st) h Q := T_iadd c28_34
theorem c28_35 : cod 28 35 = some (.putfield 19, 3) := cod_of b28 dX2_takeWord_35
theorem t28_35 {d : Nat} {h : Hp} {Q : Pst} {a : Nat} {x : Int32} {ls : List Value} {st : List Value} : T d 28 35 ls (.int x :: .ref a :: st) h Q ↔ pF (h.2.2 a) 2 2 (.int x) (fun cell => T d 28 38 ls st (hup h a cell) Q) := T_putfieldR m28 c28_35 f2_19 (by decide +kernel)
theorem c28_38 : cod 28 38 = some (.goto (-38), 3) := cod_of b28 dX2_takeWord_38
theorem t28_38 {d : Nat} {h : Hp} {Q : Pst} {ls : List Value} {st : List Value} : T d 28 38 ls st h Q ↔ T d 28 0 ls st h Q := T_goto c28_38 (by decide)
theorem c28_41 : cod 28 41 = some (.aload_n 0, 1) := cod_of b28 dX2_takeWord_41
theorem t28_41 {d : Nat} {h : Hp} {Q : Pst} {l1 : Value} {x : Nat} {st : List Value} : T d 28 41 [.ref x, l1] st h Q ↔ T d 28 42 [.ref x, l1] (.ref x :: st) h Q := T_aload_n c28_41 rfl
theorem c28_42 : cod 28 42 = some (.iconst 1, 1) := cod_of b28 dX2_takeWord_42
theorem t28_42 {d : Nat} {h : Hp} {Q : Pst} {ls : List Value} {st : List Value} : T d 28 42 ls st h Q ↔ T d 28 43 ls (.int 1 :: st) h Q := T_iconstV c28_42 (by decide)
theorem c28_43 : cod 28 43 = some (.putfield 25, 3) := cod_of b28 dX2_takeWord_43
theorem t28_43 {d : Nat} {h : Hp} {Q : Pst} {a : Nat} {x : Int32} {ls : List Value} {st : List Value} : T d 28 43 ls (.int x :: .ref a :: st) h Q ↔ pF (h.2.2 a) 2 4 (.int x) (fun cell => T d 28 46 ls st (hup h a cell) Q) := T_putfieldR m28 c28_43 f2_25 (by decide +kernel)
theorem c28_46 : cod 28 46 = some (.aload_n 0, 1) := cod_of b28 dX2_takeWord_46
theorem t28_46 {d : Nat} {h : Hp} {Q : Pst} {l1 : Value} {x : Nat} {st : List Value} : T d 28 46 [.ref x, l1] st h Q ↔ T d 28 47 [.ref x, l1] (.ref x :: st) h Q := T_aload_n c28_46 rfl
theorem c28_47 : cod 28 47 = some (.iconst (-1), 1) := cod_of b28 dX2_takeWord_47
theorem t28_47 {d : Nat} {h : Hp} {Q : Pst} {ls : List Value} {st : List Value} : T d 28 47 ls st h Q ↔ T d 28 48 ls (.int (-1) :: st) h Q := T_iconstV c28_47 (by decide)
theorem c28_48 : cod 28 48 = some (.putfield 28, 3) := cod_of b28 dX2_takeWord_48
theorem t28_48 {d : Nat} {h : Hp} {Q : Pst} {a : Nat} {x : Int32} {ls : List Value} {st : List Value} : T d 28 48 ls (.int x :: .ref a :: st) h Q ↔ pF (h.2.2 a) 2 5 (.int x) (fun cell => T d 28 51 ls st (hup h a cell) Q) := T_putfieldR m28 c28_48 f2_28 (by decide +kernel)
theorem c28_51 : cod 28 51 = some (.iconst 0, 1) := cod_of b28 dX2_takeWord_51
theorem t28_51 {d : Nat} {h : Hp} {Q : Pst} {ls : List Value} {st : List Value} : T d 28 51 ls st h Q ↔ T d 28 52 ls (.int 0 :: st) h Q := T_iconstV c28_51 (by decide)
theorem c28_52 : cod 28 52 = some (.istore_n 1, 1) := cod_of b28 dX2_takeWord_52
theorem t28_52 {d : Nat} {h : Hp} {Q : Pst} {l0 l1 : Value} {x : Int32} {st : List Value} : T d 28 52 [l0, l1] (.int x :: st) h Q ↔ T d 28 53 [kil l0, .int x] st h Q := T_istore_n c28_52 (Nat.le_of_ble_eq_true rfl)
theorem c28_53 : cod 28 53 = some (.iload_n 1, 1) := cod_of b28 dX2_takeWord_53
theorem t28_53 {d : Nat} {h : Hp} {Q : Pst} {l0 : Value} {x : Int32} {st : List Value} : T d 28 53 [l0, .int x] st h Q ↔ T d 28 54 [l0, .int x] (.int x :: st) h Q := T_iload_n c28_53 rfl
theorem c28_54 : cod 28 54 = some (.bipush 6, 2) := cod_of b28 dX2_takeWord_54
theorem t28_54 {d : Nat} {h : Hp} {Q : Pst} {ls : List Value} {st : List Value} : T d 28 54 ls st h Q ↔ T d 28 56 ls (.int 6 :: st) h Q := T_bipushV c28_54 (by decide)
theorem c28_56 : cod 28 56 = some (.if_icmp .ge 25, 3) := cod_of b28 dX2_takeWord_56
theorem t28_56 {d : Nat} {h : Hp} {Q : Pst} {x y : Int32} {ls : List Value} {st : List Value} : T d 28 56 ls (.int y :: .int x :: st) h Q ↔ (if y ≤ x then T d 28 81 ls st h Q else T d 28 59 ls st h Q) := T_icmp_ge c28_56 (by decide)
theorem c28_59 : cod 28 59 = some (.aload_n 0, 1) := cod_of b28 dX2_takeWord_59
theorem t28_59 {d : Nat} {h : Hp} {Q : Pst} {l1 : Value} {x : Nat} {st : List Value} : T d 28 59 [.ref x, l1] st h Q ↔ T d 28 60 [.ref x, l1] (.ref x :: st) h Q := T_aload_n c28_59 rfl
theorem c28_60 : cod 28 60 = some (.iload_n 1, 1) := cod_of b28 dX2_takeWord_60
theorem t28_60 {d : Nat} {h : Hp} {Q : Pst} {l0 : Value} {x : Int32} {st : List Value} : T d 28 60 [l0, .int x] st h Q ↔ T d 28 61 [l0, .int x] (.int x :: st) h Q := T_iload_n c28_60 rfl
theorem c28_61 : cod 28 61 = some (.invokestatic 113, 3) := cod_of b28 dX2_takeWord_61
theorem t28_61 {d : Nat} {h : Hp} {Q : Pst} {a0 : Int32} {s0 : Nat} {ls : List Value} : T (d + 1) 28 61 ls [.int a0, .ref s0] h Q ↔ T d 31 0 [.int a0] [] h (fun x h2 => T (d + 1) 28 64 ls (rl x [.ref s0]) h2 Q) := T_staticR (as := [.int a0]) (r := [.ref s0]) m28 m31 c28_61 k2_113 (Or.inl rfl) rfl (by decide) rfl (by simp [wrd, Value.category]) (by simp [stk, Value.category]) rfl
theorem c28_64 : cod 28 64 = some (.invokevirtual 117, 3) := cod_of b28 dX2_takeWord_64
theorem t28_64 {d : Nat} {h : Hp} {Q : Pst} {a0 a : Nat} {ls : List Value} (ho : isO (h.2.2 a) 2) : T (d + 1) 28 64 ls [.ref a0, .ref a] h Q ↔ T d 30 0 [.ref a, .ref a0, un] [] h (fun x h2 => T (d + 1) 28 67 ls (rl x []) h2 Q) := T_virtualR (as := [.ref a0]) (r := []) m28 m30 c28_64 k2_117  rfl (by decide) rfl (by simp [wrd, Value.category]) (by simp [stk, Value.category]) rfl (by decide +kernel) ho
theorem c28_67 : cod 28 67 = some (.ifCond .eq 8, 3) := cod_of b28 dX2_takeWord_67
theorem t28_67 {d : Nat} {h : Hp} {Q : Pst} {x : Int32} {ls : List Value} {st : List Value} : T d 28 67 ls (.int x :: st) h Q ↔ (if x = 0 then T d 28 75 ls st h Q else T d 28 70 ls st h Q) := T_if_eq c28_67 (by decide)
theorem c28_70 : cod 28 70 = some (.aload_n 0, 1) := cod_of b28 dX2_takeWord_70
theorem t28_70 {d : Nat} {h : Hp} {Q : Pst} {l1 : Value} {x : Nat} {st : List Value} : T d 28 70 [.ref x, l1] st h Q ↔ T d 28 71 [.ref x, l1] (.ref x :: st) h Q := T_aload_n c28_70 rfl
theorem c28_71 : cod 28 71 = some (.iload_n 1, 1) := cod_of b28 dX2_takeWord_71
theorem t28_71 {d : Nat} {h : Hp} {Q : Pst} {l0 : Value} {x : Int32} {st : List Value} : T d 28 71 [l0, .int x] st h Q ↔ T d 28 72 [l0, .int x] (.int x :: st) h Q := T_iload_n c28_71 rfl
theorem c28_72 : cod 28 72 = some (.putfield 28, 3) := cod_of b28 dX2_takeWord_72
theorem t28_72 {d : Nat} {h : Hp} {Q : Pst} {a : Nat} {x : Int32} {ls : List Value} {st : List Value} : T d 28 72 ls (.int x :: .ref a :: st) h Q ↔ pF (h.2.2 a) 2 5 (.int x) (fun cell => T d 28 75 ls st (hup h a cell) Q) := T_putfieldR m28 c28_72 f2_28 (by decide +kernel)
theorem c28_75 : cod 28 75 = some (.iinc 1 1, 3) := cod_of b28 dX2_takeWord_75
theorem t28_75 {d : Nat} {h : Hp} {Q : Pst} {l0 : Value} {x : Int32} {st : List Value} : T d 28 75 [l0, .int x] st h Q ↔ T d 28 78 [kil l0, .int (x + 1)] st h Q := T_iincV c28_75 rfl (Nat.le_of_ble_eq_true rfl) (by decide) rfl
theorem c28_78 : cod 28 78 = some (.goto (-25), 3) := cod_of b28 dX2_takeWord_78
theorem t28_78 {d : Nat} {h : Hp} {Q : Pst} {ls : List Value} {st : List Value} : T d 28 78 ls st h Q ↔ T d 28 53 ls st h Q := T_goto c28_78 (by decide)
theorem c28_81 : cod 28 81 = some (.return_, 1) := cod_of b28 dX2_takeWord_81
theorem t28_81 {d : Nat} {h : Hp} {Q : Pst} {ls : List Value} : T d 28 81 ls [] h Q ↔ Q none h := T_retR m28 c28_81 rfl
theorem b29 : (mR 29).2.2.1 = cX2_takeNumber := by rw [m29]
theorem c29_0 : cod 29 0 = some (.aload_n 0, 1) := cod_of b29 dX2_takeNumber_0
theorem t29_0 {d : Nat} {h : Hp} {Q : Pst} {x : Nat} {st : List Value} : T d 29 0 [.ref x] st h Q ↔ T d 29 1 [.ref x] (.ref x :: st) h Q := T_aload_n c29_0 rfl
theorem c29_1 : cod 29 1 = some (.iconst 0, 1) := cod_of b29 dX2_takeNumber_1
theorem t29_1 {d : Nat} {h : Hp} {Q : Pst} {ls : List Value} {st : List Value} : T d 29 1 ls st h Q ↔ T d 29 2 ls (.int 0 :: st) h Q := T_iconstV c29_1 (by decide)
theorem c29_2 : cod 29 2 = some (.putfield 28, 3) := cod_of b29 dX2_takeNumber_2
theorem t29_2 {d : Nat} {h : Hp} {Q : Pst} {a : Nat} {x : Int32} {ls : List Value} {st : List Value} : T d 29 2 ls (.int x :: .ref a :: st) h Q ↔ pF (h.2.2 a) 2 5 (.int x) (fun cell => T d 29 5 ls st (hup h a cell) Q) := T_putfieldR m29 c29_2 f2_28 (by decide +kernel)
theorem c29_5 : cod 29 5 = some (.aload_n 0, 1) := cod_of b29 dX2_takeNumber_5
theorem t29_5 {d : Nat} {h : Hp} {Q : Pst} {x : Nat} {st : List Value} : T d 29 5 [.ref x] st h Q ↔ T d 29 6 [.ref x] (.ref x :: st) h Q := T_aload_n c29_5 rfl
theorem c29_6 : cod 29 6 = some (.getfield 19, 3) := cod_of b29 dX2_takeNumber_6
theorem t29_6 {d : Nat} {h : Hp} {Q : Pst} {a : Nat} {ls : List Value} {st : List Value} : T d 29 6 ls (.ref a :: st) h Q ↔ gF (h.2.2 a) 2 2 (fun v => T d 29 9 ls (v :: st) h Q) := T_getfieldR m29 c29_6 f2_19
theorem c29_9 : cod 29 9 = some (.aload_n 0, 1) := cod_of b29 dX2_takeNumber_9
theorem t29_9 {d : Nat} {h : Hp} {Q : Pst} {x : Nat} {st : List Value} : T d 29 9 [.ref x] st h Q ↔ T d 29 10 [.ref x] (.ref x :: st) h Q := T_aload_n c29_9 rfl
theorem c29_10 : cod 29 10 = some (.getfield 15, 3) := cod_of b29 dX2_takeNumber_10
theorem t29_10 {d : Nat} {h : Hp} {Q : Pst} {a : Nat} {ls : List Value} {st : List Value} : T d 29 10 ls (.ref a :: st) h Q ↔ gF (h.2.2 a) 2 1 (fun v => T d 29 13 ls (v :: st) h Q) := T_getfieldR m29 c29_10 f2_15
theorem c29_13 : cod 29 13 = some (.if_icmp .ge 59, 3) := cod_of b29 dX2_takeNumber_13
theorem t29_13 {d : Nat} {h : Hp} {Q : Pst} {x y : Int32} {ls : List Value} {st : List Value} : T d 29 13 ls (.int y :: .int x :: st) h Q ↔ (if y ≤ x then T d 29 72 ls st h Q else T d 29 16 ls st h Q) := T_icmp_ge c29_13 (by decide)
theorem c29_16 : cod 29 16 = some (.aload_n 0, 1) := cod_of b29 dX2_takeNumber_16
theorem t29_16 {d : Nat} {h : Hp} {Q : Pst} {x : Nat} {st : List Value} : T d 29 16 [.ref x] st h Q ↔ T d 29 17 [.ref x] (.ref x :: st) h Q := T_aload_n c29_16 rfl
theorem c29_17 : cod 29 17 = some (.getfield 9, 3) := cod_of b29 dX2_takeNumber_17
theorem t29_17 {d : Nat} {h : Hp} {Q : Pst} {a : Nat} {ls : List Value} {st : List Value} : T d 29 17 ls (.ref a :: st) h Q ↔ gF (h.2.2 a) 2 0 (fun v => T d 29 20 ls (v :: st) h Q) := T_getfieldR m29 c29_17 f2_9
theorem c29_20 : cod 29 20 = some (.aload_n 0, 1) := cod_of b29 dX2_takeNumber_20
theorem t29_20 {d : Nat} {h : Hp} {Q : Pst} {x : Nat} {st : List Value} : T d 29 20 [.ref x] st h Q ↔ T d 29 21 [.ref x] (.ref x :: st) h Q := T_aload_n c29_20 rfl
theorem c29_21 : cod 29 21 = some (.getfield 19, 3) := cod_of b29 dX2_takeNumber_21
theorem t29_21 {d : Nat} {h : Hp} {Q : Pst} {a : Nat} {ls : List Value} {st : List Value} : T d 29 21 ls (.ref a :: st) h Q ↔ gF (h.2.2 a) 2 2 (fun v => T d 29 24 ls (v :: st) h Q) := T_getfieldR m29 c29_21 f2_19
theorem c29_24 : cod 29 24 = some (.invokestatic 96, 3) := cod_of b29 dX2_takeNumber_24
theorem t29_24 {d : Nat} {h : Hp} {Q : Pst} {a0 : Nat} {a1 : Int32} {ls : List Value} : T (d + 1) 29 24 ls [.int a1, .ref a0] h Q ↔ T d 122 0 [.ref a0, .int a1] [] h (fun x h2 => T (d + 1) 29 27 ls (rl x []) h2 Q) := T_staticR (as := [.ref a0, .int a1]) (r := []) m29 m122 c29_24 k2_96 (Or.inr rfl) rfl (by decide) rfl (by simp [wrd, Value.category]) (by simp [stk, Value.category]) rfl
theorem c29_27 : cod 29 27 = some (.invokestatic 107, 3) := cod_of b29 dX2_takeNumber_27
theorem t29_27 {d : Nat} {h : Hp} {Q : Pst} {a0 : Int32} {ls : List Value} : T (d + 1) 29 27 ls [.int a0] h Q ↔ T d 33 0 [.int a0] [] h (fun x h2 => T (d + 1) 29 30 ls (rl x []) h2 Q) := T_staticR (as := [.int a0]) (r := []) m29 m33 c29_27 k2_107 (Or.inl rfl) rfl (by decide) rfl (by simp [wrd, Value.category]) (by simp [stk, Value.category]) rfl
theorem c29_30 : cod 29 30 = some (.ifCond .eq 42, 3) := cod_of b29 dX2_takeNumber_30
theorem t29_30 {d : Nat} {h : Hp} {Q : Pst} {x : Int32} {ls : List Value} {st : List Value} : T d 29 30 ls (.int x :: st) h Q ↔ (if x = 0 then T d 29 72 ls st h Q else T d 29 33 ls st h Q) := T_if_eq c29_30 (by decide)
theorem c29_33 : cod 29 33 = some (.aload_n 0, 1) := cod_of b29 dX2_takeNumber_33
theorem t29_33 {d : Nat} {h : Hp} {Q : Pst} {x : Nat} {st : List Value} : T d 29 33 [.ref x] st h Q ↔ T d 29 34 [.ref x] (.ref x :: st) h Q := T_aload_n c29_33 rfl
theorem c29_34 : cod 29 34 = some (.bipush 10, 2) := cod_of b29 dX2_takeNumber_34
theorem t29_34 {d : Nat} {h : Hp} {Q : Pst} {ls : List Value} {st : List Value} : T d 29 34 ls st h Q ↔ T d 29 36 ls (.int 10 :: st) h Q := T_bipushV c29_34 (by decide)
theorem c29_36 : cod 29 36 = some (.aload_n 0, 1) := cod_of b29 dX2_takeNumber_36
theorem t29_36 {d : Nat} {h : Hp} {Q : Pst} {x : Nat} {st : List Value} : T d 29 36 [.ref x] st h Q ↔ T d 29 37 [.ref x] (.ref x :: st) h Q := T_aload_n c29_36 rfl
theorem c29_37 : cod 29 37 = some (.getfield 28, 3) := cod_of b29 dX2_takeNumber_37
theorem t29_37 {d : Nat} {h : Hp} {Q : Pst} {a : Nat} {ls : List Value} {st : List Value} : T d 29 37 ls (.ref a :: st) h Q ↔ gF (h.2.2 a) 2 5 (fun v => T d 29 40 ls (v :: st) h Q) := T_getfieldR m29 c29_37 f2_28
theorem c29_40 : cod 29 40 = some (.imul, 1) := cod_of b29 dX2_takeNumber_40
theorem t29_40 {d : Nat} {h : Hp} {Q : Pst} {x y : Int32} {ls : List Value} {st : List Value} : T d 29 40 ls (.int y :: .int x :: st) h Q ↔ T d 29 41 ls (.int (x * y) :: st) h Q := T_imul c29_40
theorem c29_41 : cod 29 41 = some (.aload_n 0, 1) := cod_of b29 dX2_takeNumber_41
theorem t29_41 {d : Nat} {h : Hp} {Q : Pst} {x : Nat} {st : List Value} : T d 29 41 [.ref x] st h Q ↔ T d 29 42 [.ref x] (.ref x :: st) h Q := T_aload_n c29_41 rfl
theorem c29_42 : cod 29 42 = some (.getfield 9, 3) := cod_of b29 dX2_takeNumber_42
theorem t29_42 {d : Nat} {h : Hp} {Q : Pst} {a : Nat} {ls : List Value} {st : List Value} : T d 29 42 ls (.ref a :: st) h Q ↔ gF (h.2.2 a) 2 0 (fun v => T d 29 45 ls (v :: st) h Q) := T_getfieldR m29 c29_42 f2_9
theorem c29_45 : cod 29 45 = some (.aload_n 0, 1) := cod_of b29 dX2_takeNumber_45
theorem t29_45 {d : Nat} {h : Hp} {Q : Pst} {x : Nat} {st : List Value} : T d 29 45 [.ref x] st h Q ↔ T d 29 46 [.ref x] (.ref x :: st) h Q := T_aload_n c29_45 rfl
theorem c29_46 : cod 29 46 = some (.getfield 19, 3) := cod_of b29 dX2_takeNumber_46
theorem t29_46 {d : Nat} {h : Hp} {Q : Pst} {a : Nat} {ls : List Value} {st : List Value} : T d 29 46 ls (.ref a :: st) h Q ↔ gF (h.2.2 a) 2 2 (fun v => T d 29 49 ls (v :: st) h Q) := T_getfieldR m29 c29_46 f2_19
theorem c29_49 : cod 29 49 = some (.invokestatic 96, 3) := cod_of b29 dX2_takeNumber_49
theorem t29_49 {d : Nat} {h : Hp} {Q : Pst} {a0 s1 : Nat} {a1 s0 : Int32} {ls : List Value} : T (d + 1) 29 49 ls [.int a1, .ref a0, .int s0, .ref s1] h Q ↔ T d 122 0 [.ref a0, .int a1] [] h (fun x h2 => T (d + 1) 29 52 ls (rl x [.int s0, .ref s1]) h2 Q) := T_staticR (as := [.ref a0, .int a1]) (r := [.int s0, .ref s1]) m29 m122 c29_49 k2_96 (Or.inr rfl) rfl (by decide) rfl (by simp [wrd, Value.category]) (by simp [stk, Value.category]) rfl
theorem c29_52 : cod 29 52 = some (.iadd, 1) := cod_of b29 dX2_takeNumber_52
theorem t29_52 {d : Nat} {h : Hp} {Q : Pst} {x y : Int32} {ls : List Value} {st : List Value} : T d 29 52 ls (.int y :: .int x :: st) h Q ↔ T d 29 53 ls (.int (x + y) :: st) h Q := T_iadd c29_52
theorem c29_53 : cod 29 53 = some (.bipush 48, 2) := cod_of b29 dX2_takeNumber_53
theorem t29_53 {d : Nat} {h : Hp} {Q : Pst} {ls : List Value} {st : List Value} : T d 29 53 ls st h Q ↔ T d 29 55 ls (.int 48 :: st) h Q := T_bipushV c29_53 (by decide)
theorem c29_55 : cod 29 55 = some (.isub, 1) := cod_of b29 dX2_takeNumber_55
theorem t29_55 {d : Nat} {h : Hp} {Q : Pst} {x y : Int32} {ls : List Value} {st : List Value} : T d 29 55 ls (.int y :: .int x :: st) h Q ↔ T d 29 56 ls (.int (x - y) :: st) h Q := T_isub c29_55
theorem c29_56 : cod 29 56 = some (.putfield 28, 3) := cod_of b29 dX2_takeNumber_56
theorem t29_56 {d : Nat} {h : Hp} {Q : Pst} {a : Nat} {x : Int32} {ls : List Value} {st : List Value} : T d 29 56 ls (.int x :: .ref a :: st) h Q ↔ pF (h.2.2 a) 2 5 (.int x) (fun cell => T d 29 59 ls st (hup h a cell) Q) := T_putfieldR m29 c29_56 f2_28 (by decide +kernel)
theorem c29_59 : cod 29 59 = some (.aload_n 0, 1) := cod_of b29 dX2_takeNumber_59
theorem t29_59 {d : Nat} {h : Hp} {Q : Pst} {x : Nat} {st : List Value} : T d 29 59 [.ref x] st h Q ↔ T d 29 60 [.ref x] (.ref x :: st) h Q := T_aload_n c29_59 rfl
theorem c29_60 : cod 29 60 = some (.dup, 1) := cod_of b29 dX2_takeNumber_60
theorem t29_60 {d : Nat} {h : Hp} {Q : Pst} {x : Nat} {ls : List Value} {st : List Value} : T d 29 60 ls (.ref x :: st) h Q ↔ T d 29 61 ls (.ref x :: .ref x :: st) h Q := T_dup c29_60 rfl
theorem c29_61 : cod 29 61 = some (.getfield 19, 3) := cod_of b29 dX2_takeNumber_61
theorem t29_61 {d : Nat} {h : Hp} {Q : Pst} {a : Nat} {ls : List Value} {st : List Value} : T d 29 61 ls (.ref a :: st) h Q ↔ gF (h.2.2 a) 2 2 (fun v => T d 29 64 ls (v :: st) h Q) := T_getfieldR m29 c29_61 f2_19
theorem c29_64 : cod 29 64 = some (.iconst 1, 1) := cod_of b29 dX2_takeNumber_64
theorem t29_64 {d : Nat} {h : Hp} {Q : Pst} {ls : List Value} {st : List Value} : T d 29 64 ls st h Q ↔ T d 29 65 ls (.int 1 :: st) h Q := T_iconstV c29_64 (by decide)
theorem c29_65 : cod 29 65 = some (.iadd, 1) := cod_of b29 dX2_takeNumber_65
theorem t29_65 {d : Nat} {h : Hp} {Q : Pst} {x y : Int32} {ls : List Value} {st : List Value} : T d 29 65 ls (.int y :: .int x :: st) h Q ↔ T d 29 66 ls (.int (x + y) :: st) h Q := T_iadd c29_65
theorem c29_66 : cod 29 66 = some (.putfield 19, 3) := cod_of b29 dX2_takeNumber_66
theorem t29_66 {d : Nat} {h : Hp} {Q : Pst} {a : Nat} {x : Int32} {ls : List Value} {st : List Value} : T d 29 66 ls (.int x :: .ref a :: st) h Q ↔ pF (h.2.2 a) 2 2 (.int x) (fun cell => T d 29 69 ls st (hup h a cell) Q) := T_putfieldR m29 c29_66 f2_19 (by decide +kernel)
theorem c29_69 : cod 29 69 = some (.goto (-64), 3) := cod_of b29 dX2_takeNumber_69
theorem t29_69 {d : Nat} {h : Hp} {Q : Pst} {ls : List Value} {st : List Value} : T d 29 69 ls st h Q ↔ T d 29 5 ls st h Q := T_goto c29_69 (by decide)
theorem c29_72 : cod 29 72 = some (.aload_n 0, 1) := cod_of b29 dX2_takeNumber_72
theorem t29_72 {d : Nat} {h : Hp} {Q : Pst} {x : Nat} {st : List Value} : T d 29 72 [.ref x] st h Q ↔ T d 29 73 [.ref x] (.ref x :: st) h Q := T_aload_n c29_72 rfl
theorem c29_73 : cod 29 73 = some (.aload_n 0, 1) := cod_of b29 dX2_takeNumber_73
theorem t29_73 {d : Nat} {h : Hp} {Q : Pst} {x : Nat} {st : List Value} : T d 29 73 [.ref x] st h Q ↔ T d 29 74 [.ref x] (.ref x :: st) h Q := T_aload_n c29_73 rfl
theorem c29_74 : cod 29 74 = some (.getfield 19, 3) := cod_of b29 dX2_takeNumber_74
theorem t29_74 {d : Nat} {h : Hp} {Q : Pst} {a : Nat} {ls : List Value} {st : List Value} : T d 29 74 ls (.ref a :: st) h Q ↔ gF (h.2.2 a) 2 2 (fun v => T d 29 77 ls (v :: st) h Q) := T_getfieldR m29 c29_74 f2_19
theorem c29_77 : cod 29 77 = some (.aload_n 0, 1) := cod_of b29 dX2_takeNumber_77
theorem t29_77 {d : Nat} {h : Hp} {Q : Pst} {x : Nat} {st : List Value} : T d 29 77 [.ref x] st h Q ↔ T d 29 78 [.ref x] (.ref x :: st) h Q := T_aload_n c29_77 rfl
theorem c29_78 : cod 29 78 = some (.getfield 22, 3) := cod_of b29 dX2_takeNumber_78
theorem t29_78 {d : Nat} {h : Hp} {Q : Pst} {a : Nat} {ls : List Value} {st : List Value} : T d 29 78 ls (.ref a :: st) h Q ↔ gF (h.2.2 a) 2 3 (fun v => T d 29 81 ls (v :: st) h Q) := T_getfieldR m29 c29_78 f2_22
theorem c29_81 : cod 29 81 = some (.isub, 1) := cod_of b29 dX2_takeNumber_81
theorem t29_81 {d : Nat} {h : Hp} {Q : Pst} {x y : Int32} {ls : List Value} {st : List Value} : T d 29 81 ls (.int y :: .int x :: st) h Q ↔ T d 29 82 ls (.int (x - y) :: st) h Q := T_isub c29_81
theorem c29_82 : cod 29 82 = some (.iconst 2, 1) := cod_of b29 dX2_takeNumber_82
theorem t29_82 {d : Nat} {h : Hp} {Q : Pst} {ls : List Value} {st : List Value} : T d 29 82 ls st h Q ↔ T d 29 83 ls (.int 2 :: st) h Q := T_iconstV c29_82 (by decide)
theorem c29_83 : cod 29 83 = some (.if_icmp .gt 7, 3) := cod_of b29 dX2_takeNumber_83
theorem t29_83 {d : Nat} {h : Hp} {Q : Pst} {x y : Int32} {ls : List Value} {st : List Value} : T d 29 83 ls (.int y :: .int x :: st) h Q ↔ (if y < x then T d 29 90 ls st h Q else T d 29 86 ls st h Q) := T_icmp_gt c29_83 (by decide)
theorem c29_86 : cod 29 86 = some (.iconst 2, 1) := cod_of b29 dX2_takeNumber_86
theorem t29_86 {d : Nat} {h : Hp} {Q : Pst} {ls : List Value} {st : List Value} : T d 29 86 ls st h Q ↔ T d 29 87 ls (.int 2 :: st) h Q := T_iconstV c29_86 (by decide)
theorem c29_87 : cod 29 87 = some (.goto 4, 3) := cod_of b29 dX2_takeNumber_87
theorem t29_87 {d : Nat} {h : Hp} {Q : Pst} {ls : List Value} {st : List Value} : T d 29 87 ls st h Q ↔ T d 29 91 ls st h Q := T_goto c29_87 (by decide)
theorem c29_91 : cod 29 91 = some (.putfield 25, 3) := cod_of b29 dX2_takeNumber_91
theorem t29_91 {d : Nat} {h : Hp} {Q : Pst} {a : Nat} {x : Int32} {ls : List Value} {st : List Value} : T d 29 91 ls (.int x :: .ref a :: st) h Q ↔ pF (h.2.2 a) 2 4 (.int x) (fun cell => T d 29 94 ls st (hup h a cell) Q) := T_putfieldR m29 c29_91 f2_25 (by decide +kernel)
theorem c29_94 : cod 29 94 = some (.return_, 1) := cod_of b29 dX2_takeNumber_94
theorem t29_94 {d : Nat} {h : Hp} {Q : Pst} {ls : List Value} : T d 29 94 ls [] h Q ↔ Q none h := T_retR m29 c29_94 rfl
theorem c29_90 : cod 29 90 = some (.iconst 4, 1) := cod_of b29 dX2_takeNumber_90
theorem t29_90 {d : Nat} {h : Hp} {Q : Pst} {ls : List Value} {st : List Value} : T d 29 90 ls st h Q ↔ T d 29 91 ls (.int 4 :: st) h Q := T_iconstV c29_90 (by decide)
theorem b30 : (mR 30).2.2.1 = cX2_isSpelt := by rw [m30]
theorem c30_0 : cod 30 0 = some (.aload_n 1, 1) := cod_of b30 dX2_isSpelt_0
theorem t30_0 {d : Nat} {h : Hp} {Q : Pst} {l0 l2 : Value} {x : Nat} {st : List Value} : T d 30 0 [l0, .ref x, l2] st h Q ↔ T d 30 1 [l0, .ref x, l2] (.ref x :: st) h Q := T_aload_n c30_0 rfl
theorem c30_1 : cod 30 1 = some (.invokevirtual 121, 3) := cod_of b30 dX2_isSpelt_1
theorem t30_1 {d : Nat} {h : Hp} {Q : Pst} {a : Nat} {ls : List Value} (ho : isO (h.2.2 a) 100) : T (d + 1) 30 1 ls [.ref a] h Q ↔ T d 214 0 [.ref a] [] h (fun x h2 => T (d + 1) 30 4 ls (rl x []) h2 Q) := T_virtualR (as := []) (r := []) m30 m214 c30_1 k2_121  rfl (by decide) rfl (by simp [wrd, Value.category]) (by simp [stk, Value.category]) rfl (by decide +kernel) ho
theorem c30_4 : cod 30 4 = some (.aload_n 0, 1) := cod_of b30 dX2_isSpelt_4
theorem t30_4 {d : Nat} {h : Hp} {Q : Pst} {l1 l2 : Value} {x : Nat} {st : List Value} : T d 30 4 [.ref x, l1, l2] st h Q ↔ T d 30 5 [.ref x, l1, l2] (.ref x :: st) h Q := T_aload_n c30_4 rfl
theorem c30_5 : cod 30 5 = some (.getfield 19, 3) := cod_of b30 dX2_isSpelt_5
theorem t30_5 {d : Nat} {h : Hp} {Q : Pst} {a : Nat} {ls : List Value} {st : List Value} : T d 30 5 ls (.ref a :: st) h Q ↔ gF (h.2.2 a) 2 2 (fun v => T d 30 8 ls (v :: st) h Q) := T_getfieldR m30 c30_5 f2_19
theorem c30_8 : cod 30 8 = some (.aload_n 0, 1) := cod_of b30 dX2_isSpelt_8
theorem t30_8 {d : Nat} {h : Hp} {Q : Pst} {l1 l2 : Value} {x : Nat} {st : List Value} : T d 30 8 [.ref x, l1, l2] st h Q ↔ T d 30 9 [.ref x, l1, l2] (.ref x :: st) h Q := T_aload_n c30_8 rfl
theorem c30_9 : cod 30 9 = some (.getfield 22, 3) := cod_of b30 dX2_isSpelt_9
theorem t30_9 {d : Nat} {h : Hp} {Q : Pst} {a : Nat} {ls : List Value} {st : List Value} : T d 30 9 ls (.ref a :: st) h Q ↔ gF (h.2.2 a) 2 3 (fun v => T d 30 12 ls (v :: st) h Q) := T_getfieldR m30 c30_9 f2_22
theorem c30_12 : cod 30 12 = some (.isub, 1) := cod_of b30 dX2_isSpelt_12
theorem t30_12 {d : Nat} {h : Hp} {Q : Pst} {x y : Int32} {ls : List Value} {st : List Value} : T d 30 12 ls (.int y :: .int x :: st) h Q ↔ T d 30 13 ls (.int (x - y) :: st) h Q := T_isub c30_12
theorem c30_13 : cod 30 13 = some (.if_icmp .eq 5, 3) := cod_of b30 dX2_isSpelt_13
theorem t30_13 {d : Nat} {h : Hp} {Q : Pst} {x y : Int32} {ls : List Value} {st : List Value} : T d 30 13 ls (.int y :: .int x :: st) h Q ↔ (if x = y then T d 30 18 ls st h Q else T d 30 16 ls st h Q) := T_icmp_eq c30_13 (by decide)
theorem c30_16 : cod 30 16 = some (.iconst 0, 1) := cod_of b30 dX2_isSpelt_16
theorem t30_16 {d : Nat} {h : Hp} {Q : Pst} {ls : List Value} {st : List Value} : T d 30 16 ls st h Q ↔ T d 30 17 ls (.int 0 :: st) h Q := T_iconstV c30_16 (by decide)
theorem c30_17 : cod 30 17 = some (.ireturn, 1) := cod_of b30 dX2_isSpelt_17
theorem t30_17 {d : Nat} {h : Hp} {Q : Pst} {x : Int32} {ls : List Value} : T d 30 17 ls [.int x] h Q ↔ (narrow .boolean (.int x) = .int x ∧ Q (some (.int x)) h) := T_zretR m30 c30_17 rfl
theorem c30_18 : cod 30 18 = some (.iconst 0, 1) := cod_of b30 dX2_isSpelt_18
theorem t30_18 {d : Nat} {h : Hp} {Q : Pst} {ls : List Value} {st : List Value} : T d 30 18 ls st h Q ↔ T d 30 19 ls (.int 0 :: st) h Q := T_iconstV c30_18 (by decide)
theorem c30_19 : cod 30 19 = some (.istore_n 2, 1) := cod_of b30 dX2_isSpelt_19
theorem t30_19 {d : Nat} {h : Hp} {Q : Pst} {l0 l1 l2 : Value} {x : Int32} {st : List Value} : T d 30 19 [l0, l1, l2] (.int x :: st) h Q ↔ T d 30 20 [l0, kil l1, .int x] st h Q := T_istore_n c30_19 (Nat.le_of_ble_eq_true rfl)
theorem c30_20 : cod 30 20 = some (.iload_n 2, 1) := cod_of b30 dX2_isSpelt_20
theorem t30_20 {d : Nat} {h : Hp} {Q : Pst} {l0 l1 : Value} {x : Int32} {st : List Value} : T d 30 20 [l0, l1, .int x] st h Q ↔ T d 30 21 [l0, l1, .int x] (.int x :: st) h Q := T_iload_n c30_20 rfl
theorem c30_21 : cod 30 21 = some (.aload_n 1, 1) := cod_of b30 dX2_isSpelt_21
theorem t30_21 {d : Nat} {h : Hp} {Q : Pst} {l0 l2 : Value} {x : Nat} {st : List Value} : T d 30 21 [l0, .ref x, l2] st h Q ↔ T d 30 22 [l0, .ref x, l2] (.ref x :: st) h Q := T_aload_n c30_21 rfl
theorem c30_22 : cod 30 22 = some (.invokevirtual 121, 3) := cod_of b30 dX2_isSpelt_22
theorem t30_22 {d : Nat} {h : Hp} {Q : Pst} {s0 : Int32} {a : Nat} {ls : List Value} (ho : isO (h.2.2 a) 100) : T (d + 1) 30 22 ls [.ref a, .int s0] h Q ↔ T d 214 0 [.ref a] [] h (fun x h2 => T (d + 1) 30 25 ls (rl x [.int s0]) h2 Q) := T_virtualR (as := []) (r := [.int s0]) m30 m214 c30_22 k2_121  rfl (by decide) rfl (by simp [wrd, Value.category]) (by simp [stk, Value.category]) rfl (by decide +kernel) ho
theorem c30_25 : cod 30 25 = some (.if_icmp .ge 32, 3) := cod_of b30 dX2_isSpelt_25
theorem t30_25 {d : Nat} {h : Hp} {Q : Pst} {x y : Int32} {ls : List Value} {st : List Value} : T d 30 25 ls (.int y :: .int x :: st) h Q ↔ (if y ≤ x then T d 30 57 ls st h Q else T d 30 28 ls st h Q) := T_icmp_ge c30_25 (by decide)
theorem c30_28 : cod 30 28 = some (.aload_n 1, 1) := cod_of b30 dX2_isSpelt_28
theorem t30_28 {d : Nat} {h : Hp} {Q : Pst} {l0 l2 : Value} {x : Nat} {st : List Value} : T d 30 28 [l0, .ref x, l2] st h Q ↔ T d 30 29 [l0, .ref x, l2] (.ref x :: st) h Q := T_aload_n c30_28 rfl
theorem c30_29 : cod 30 29 = some (.iload_n 2, 1) := cod_of b30 dX2_isSpelt_29
theorem t30_29 {d : Nat} {h : Hp} {Q : Pst} {l0 l1 : Value} {x : Int32} {st : List Value} : T d 30 29 [l0, l1, .int x] st h Q ↔ T d 30 30 [l0, l1, .int x] (.int x :: st) h Q := T_iload_n c30_29 rfl
theorem c30_30 : cod 30 30 = some (.invokevirtual 126, 3) := cod_of b30 dX2_isSpelt_30
theorem t30_30 {d : Nat} {h : Hp} {Q : Pst} {a0 : Int32} {a : Nat} {ls : List Value} (ho : isO (h.2.2 a) 100) : T (d + 1) 30 30 ls [.int a0, .ref a] h Q ↔ T d 215 0 [.ref a, .int a0] [] h (fun x h2 => T (d + 1) 30 33 ls (rl x []) h2 Q) := T_virtualR (as := [.int a0]) (r := []) m30 m215 c30_30 k2_126  rfl (by decide) rfl (by simp [wrd, Value.category]) (by simp [stk, Value.category]) rfl (by decide +kernel) ho
theorem c30_33 : cod 30 33 = some (.aload_n 0, 1) := cod_of b30 dX2_isSpelt_33
theorem t30_33 {d : Nat} {h : Hp} {Q : Pst} {l1 l2 : Value} {x : Nat} {st : List Value} : T d 30 33 [.ref x, l1, l2] st h Q ↔ T d 30 34 [.ref x, l1, l2] (.ref x :: st) h Q := T_aload_n c30_33 rfl
theorem c30_34 : cod 30 34 = some (.getfield 9, 3) := cod_of b30 dX2_isSpelt_34
theorem t30_34 {d : Nat} {h : Hp} {Q : Pst} {a : Nat} {ls : List Value} {st : List Value} : T d 30 34 ls (.ref a :: st) h Q ↔ gF (h.2.2 a) 2 0 (fun v => T d 30 37 ls (v :: st) h Q) := T_getfieldR m30 c30_34 f2_9
theorem c30_37 : cod 30 37 = some (.aload_n 0, 1) := cod_of b30 dX2_isSpelt_37
theorem t30_37 {d : Nat} {h : Hp} {Q : Pst} {l1 l2 : Value} {x : Nat} {st : List Value} : T d 30 37 [.ref x, l1, l2] st h Q ↔ T d 30 38 [.ref x, l1, l2] (.ref x :: st) h Q := T_aload_n c30_37 rfl
theorem c30_38 : cod 30 38 = some (.getfield 22, 3) := cod_of b30 dX2_isSpelt_38
theorem t30_38 {d : Nat} {h : Hp} {Q : Pst} {a : Nat} {ls : List Value} {st : List Value} : T d 30 38 ls (.ref a :: st) h Q ↔ gF (h.2.2 a) 2 3 (fun v => T d 30 41 ls (v :: st) h Q) := T_getfieldR m30 c30_38 f2_22
theorem c30_41 : cod 30 41 = some (.iload_n 2, 1) := cod_of b30 dX2_isSpelt_41
theorem t30_41 {d : Nat} {h : Hp} {Q : Pst} {l0 l1 : Value} {x : Int32} {st : List Value} : T d 30 41 [l0, l1, .int x] st h Q ↔ T d 30 42 [l0, l1, .int x] (.int x :: st) h Q := T_iload_n c30_41 rfl
theorem c30_42 : cod 30 42 = some (.iadd, 1) := cod_of b30 dX2_isSpelt_42
theorem t30_42 {d : Nat} {h : Hp} {Q : Pst} {x y : Int32} {ls : List Value} {st : List Value} : T d 30 42 ls (.int y :: .int x :: st) h Q ↔ T d 30 43 ls (.int (x + y) :: st) h Q := T_iadd c30_42
theorem c30_43 : cod 30 43 = some (.invokestatic 96, 3) := cod_of b30 dX2_isSpelt_43
theorem t30_43 {d : Nat} {h : Hp} {Q : Pst} {a0 : Nat} {a1 s0 : Int32} {ls : List Value} : T (d + 1) 30 43 ls [.int a1, .ref a0, .int s0] h Q ↔ T d 122 0 [.ref a0, .int a1] [] h (fun x h2 => T (d + 1) 30 46 ls (rl x [.int s0]) h2 Q) := T_staticR (as := [.ref a0, .int a1]) (r := [.int s0]) m30 m122 c30_43 k2_96 (Or.inr rfl) rfl (by decide) rfl (by simp [wrd, Value.category]) (by simp [stk, Value.category]) rfl
theorem c30_46 : cod 30 46 = some (.if_icmp .eq 5, 3) := cod_of b30 dX2_isSpelt_46
theorem t30_46 {d : Nat} {h : Hp} {Q : Pst} {x y : Int32} {ls : List Value} {st : List Value} : T d 30 46 ls (.int y :: .int x :: st) h Q ↔ (if x = y then T d 30 51 ls st h Q else T d 30 49 ls st h Q) := T_icmp_eq c30_46 (by decide)
theorem c30_49 : cod 30 49 = some (.iconst 0, 1) := cod_of b30 dX2_isSpelt_49
theorem t30_49 {d : Nat} {h : Hp} {Q : Pst} {ls : List Value} {st : List Value} : T d 30 49 ls st h Q ↔ T d 30 50 ls (.int 0 :: st) h Q := T_iconstV c30_49 (by decide)
theorem c30_50 : cod 30 50 = some (.ireturn, 1) := cod_of b30 dX2_isSpelt_50
theorem t30_50 {d : Nat} {h : Hp} {Q : Pst} {x : Int32} {ls : List Value} : T d 30 50 ls [.int x] h Q ↔ (narrow .boolean (.int x) = .int x ∧ Q (some (.int x)) h) := T_zretR m30 c30_50 rfl
theorem c30_51 : cod 30 51 = some (.iinc 2 1, 3) := cod_of b30 dX2_isSpelt_51
theorem t30_51 {d : Nat} {h : Hp} {Q : Pst} {l0 l1 : Value} {x : Int32} {st : List Value} : T d 30 51 [l0, l1, .int x] st h Q ↔ T d 30 54 [l0, kil l1, .int (x + 1)] st h Q := T_iincV c30_51 rfl (Nat.le_of_ble_eq_true rfl) (by decide) rfl
theorem c30_54 : cod 30 54 = some (.goto (-34), 3) := cod_of b30 dX2_isSpelt_54
theorem t30_54 {d : Nat} {h : Hp} {Q : Pst} {ls : List Value} {st : List Value} : T d 30 54 ls st h Q ↔ T d 30 20 ls st h Q := T_goto c30_54 (by decide)
theorem c30_57 : cod 30 57 = some (.iconst 1, 1) := cod_of b30 dX2_isSpelt_57
theorem t30_57 {d : Nat} {h : Hp} {Q : Pst} {ls : List Value} {st : List Value} : T d 30 57 ls st h Q ↔ T d 30 58 ls (.int 1 :: st) h Q := T_iconstV c30_57 (by decide)
theorem c30_58 : cod 30 58 = some (.ireturn, 1) := cod_of b30 dX2_isSpelt_58
theorem t30_58 {d : Nat} {h : Hp} {Q : Pst} {x : Int32} {ls : List Value} : T d 30 58 ls [.int x] h Q ↔ (narrow .boolean (.int x) = .int x ∧ Q (some (.int x)) h) := T_zretR m30 c30_58 rfl
theorem b31 : (mR 31).2.2.1 = cX2_spelling := by rw [m31]
theorem c31_0 : cod 31 0 = some (.iload_n 0, 1) := cod_of b31 dX2_spelling_0
theorem t31_0 {d : Nat} {h : Hp} {Q : Pst} {x : Int32} {st : List Value} : T d 31 0 [.int x] st h Q ↔ T d 31 1 [.int x] (.int x :: st) h Q := T_iload_n c31_0 rfl
theorem c31_1 : cod 31 1 = some (.tableswitch 50 0 4 #[35, 38, 41, 44, 47], 35) := cod_of b31 dX2_spelling_1
theorem t31_1 {d : Nat} {h : Hp} {Q : Pst} {x : Int32} {ls : List Value} {st : List Value} : T d 31 1 ls (.int x :: st) h Q ↔ swT (fun t => T d 31 t ls st h Q) x.toInt 0 [36, 39, 42, 45, 48] 51 := T_tsw c31_1 (by decide) (by decide) (by decide)
theorem c31_51 : cod 31 51 = some (.ldc 140, 2) := cod_of b31 dX2_spelling_51
theorem t31_51 {d : Nat} {h : Hp} {Q : Pst} {ls : List Value} {st : List Value} : T d 31 51 ls st h Q ↔ T d 31 53 ls (.ref 6 :: st) h Q := T_ldcsR (i := 5) m31 c31_51 (by decide +kernel) (by decide +kernel)
theorem c31_53 : cod 31 53 = some (.areturn, 1) := cod_of b31 dX2_spelling_53
theorem t31_53 {d : Nat} {h : Hp} {Q : Pst} {x : Nat} {ls : List Value} : T d 31 53 ls [.ref x] h Q ↔ Q (some (.ref x)) h := T_aretR m31 c31_53 rfl
theorem c31_48 : cod 31 48 = some (.ldc 138, 2) := cod_of b31 dX2_spelling_48
theorem t31_48 {d : Nat} {h : Hp} {Q : Pst} {ls : List Value} {st : List Value} : T d 31 48 ls st h Q ↔ T d 31 50 ls (.ref 5 :: st) h Q := T_ldcsR (i := 4) m31 c31_48 (by decide +kernel) (by decide +kernel)
theorem c31_50 : cod 31 50 = some (.areturn, 1) := cod_of b31 dX2_spelling_50
theorem t31_50 {d : Nat} {h : Hp} {Q : Pst} {x : Nat} {ls : List Value} : T d 31 50 ls [.ref x] h Q ↔ Q (some (.ref x)) h := T_aretR m31 c31_50 rfl
theorem c31_45 : cod 31 45 = some (.ldc 136, 2) := cod_of b31 dX2_spelling_45
theorem t31_45 {d : Nat} {h : Hp} {Q : Pst} {ls : List Value} {st : List Value} : T d 31 45 ls st h Q ↔ T d 31 47 ls (.ref 4 :: st) h Q := T_ldcsR (i := 3) m31 c31_45 (by decide +kernel) (by decide +kernel)
theorem c31_47 : cod 31 47 = some (.areturn, 1) := cod_of b31 dX2_spelling_47
theorem t31_47 {d : Nat} {h : Hp} {Q : Pst} {x : Nat} {ls : List Value} : T d 31 47 ls [.ref x] h Q ↔ Q (some (.ref x)) h := T_aretR m31 c31_47 rfl
theorem c31_42 : cod 31 42 = some (.ldc 134, 2) := cod_of b31 dX2_spelling_42
theorem t31_42 {d : Nat} {h : Hp} {Q : Pst} {ls : List Value} {st : List Value} : T d 31 42 ls st h Q ↔ T d 31 44 ls (.ref 3 :: st) h Q := T_ldcsR (i := 2) m31 c31_42 (by decide +kernel) (by decide +kernel)
theorem c31_44 : cod 31 44 = some (.areturn, 1) := cod_of b31 dX2_spelling_44
theorem t31_44 {d : Nat} {h : Hp} {Q : Pst} {x : Nat} {ls : List Value} : T d 31 44 ls [.ref x] h Q ↔ Q (some (.ref x)) h := T_aretR m31 c31_44 rfl
theorem c31_39 : cod 31 39 = some (.ldc 132, 2) := cod_of b31 dX2_spelling_39
theorem t31_39 {d : Nat} {h : Hp} {Q : Pst} {ls : List Value} {st : List Value} : T d 31 39 ls st h Q ↔ T d 31 41 ls (.ref 2 :: st) h Q := T_ldcsR (i := 1) m31 c31_39 (by decide +kernel) (by decide +kernel)
theorem c31_41 : cod 31 41 = some (.areturn, 1) := cod_of b31 dX2_spelling_41
theorem t31_41 {d : Nat} {h : Hp} {Q : Pst} {x : Nat} {ls : List Value} : T d 31 41 ls [.ref x] h Q ↔ Q (some (.ref x)) h := T_aretR m31 c31_41 rfl
theorem c31_36 : cod 31 36 = some (.ldc 130, 2) := cod_of b31 dX2_spelling_36
theorem t31_36 {d : Nat} {h : Hp} {Q : Pst} {ls : List Value} {st : List Value} : T d 31 36 ls st h Q ↔ T d 31 38 ls (.ref 1 :: st) h Q := T_ldcsR (i := 0) m31 c31_36 (by decide +kernel) (by decide +kernel)
theorem c31_38 : cod 31 38 = some (.areturn, 1) := cod_of b31 dX2_spelling_38
theorem t31_38 {d : Nat} {h : Hp} {Q : Pst} {x : Nat} {ls : List Value} : T d 31 38 ls [.ref x] h Q ↔ Q (some (.ref x)) h := T_aretR m31 c31_38 rfl
theorem b32 : (mR 32).2.2.1 = cX2_isLetter := by rw [m32]
theorem c32_0 : cod 32 0 = some (.iload_n 0, 1) := cod_of b32 dX2_isLetter_0
theorem t32_0 {d : Nat} {h : Hp} {Q : Pst} {x : Int32} {st : List Value} : T d 32 0 [.int x] st h Q ↔ T d 32 1 [.int x] (.int x :: st) h Q := T_iload_n c32_0 rfl
theorem c32_1 : cod 32 1 = some (.bipush 97, 2) := cod_of b32 dX2_isLetter_1
theorem t32_1 {d : Nat} {h : Hp} {Q : Pst} {ls : List Value} {st : List Value} : T d 32 1 ls st h Q ↔ T d 32 3 ls (.int 97 :: st) h Q := T_bipushV c32_1 (by decide)
theorem c32_3 : cod 32 3 = some (.bipush 122, 2) := cod_of b32 dX2_isLetter_3
theorem t32_3 {d : Nat} {h : Hp} {Q : Pst} {ls : List Value} {st : List Value} : T d 32 3 ls st h Q ↔ T d 32 5 ls (.int 122 :: st) h Q := T_bipushV c32_3 (by decide)
theorem c32_5 : cod 32 5 = some (.invokestatic 75, 3) := cod_of b32 dX2_isLetter_5
theorem t32_5 {d : Nat} {h : Hp} {Q : Pst} {a0 a1 a2 : Int32} {ls : List Value} : T (d + 1) 32 5 ls [.int a2, .int a1, .int a0] h Q ↔ T d 118 0 [.int a0, .int a1, .int a2] [] h (fun x h2 => T (d + 1) 32 8 ls (rl x []) h2 Q) := T_staticR (as := [.int a0, .int a1, .int a2]) (r := []) m32 m118 c32_5 k2_75 (Or.inr rfl) rfl (by decide) rfl (by simp [wrd, Value.category]) (by simp [stk, Value.category]) rfl
theorem c32_8 : cod 32 8 = some (.ireturn, 1) := cod_of b32 dX2_isLetter_8
theorem t32_8 {d : Nat} {h : Hp} {Q : Pst} {x : Int32} {ls : List Value} : T d 32 8 ls [.int x] h Q ↔ (narrow .boolean (.int x) = .int x ∧ Q (some (.int x)) h) := T_zretR m32 c32_8 rfl
theorem b33 : (mR 33).2.2.1 = cX2_isFigure := by rw [m33]
theorem c33_0 : cod 33 0 = some (.iload_n 0, 1) := cod_of b33 dX2_isFigure_0
theorem t33_0 {d : Nat} {h : Hp} {Q : Pst} {x : Int32} {st : List Value} : T d 33 0 [.int x] st h Q ↔ T d 33 1 [.int x] (.int x :: st) h Q := T_iload_n c33_0 rfl
theorem c33_1 : cod 33 1 = some (.bipush 48, 2) := cod_of b33 dX2_isFigure_1
theorem t33_1 {d : Nat} {h : Hp} {Q : Pst} {ls : List Value} {st : List Value} : T d 33 1 ls st h Q ↔ T d 33 3 ls (.int 48 :: st) h Q := T_bipushV c33_1 (by decide)
theorem c33_3 : cod 33 3 = some (.bipush 57, 2) := cod_of b33 dX2_isFigure_3
theorem t33_3 {d : Nat} {h : Hp} {Q : Pst} {ls : List Value} {st : List Value} : T d 33 3 ls st h Q ↔ T d 33 5 ls (.int 57 :: st) h Q := T_bipushV c33_3 (by decide)
theorem c33_5 : cod 33 5 = some (.invokestatic 75, 3) := cod_of b33 dX2_isFigure_5
theorem t33_5 {d : Nat} {h : Hp} {Q : Pst} {a0 a1 a2 : Int32} {ls : List Value} : T (d + 1) 33 5 ls [.int a2, .int a1, .int a0] h Q ↔ T d 118 0 [.int a0, .int a1, .int a2] [] h (fun x h2 => T (d + 1) 33 8 ls (rl x []) h2 Q) := T_staticR (as := [.int a0, .int a1, .int a2]) (r := []) m33 m118 c33_5 k2_75 (Or.inr rfl) rfl (by decide) rfl (by simp [wrd, Value.category]) (by simp [stk, Value.category]) rfl
theorem c33_8 : cod 33 8 = some (.ireturn, 1) := cod_of b33 dX2_isFigure_8
theorem t33_8 {d : Nat} {h : Hp} {Q : Pst} {x : Int32} {ls : List Value} : T d 33 8 ls [.int x] h Q ↔ (narrow .boolean (.int x) = .int x ∧ Q (some (.int x)) h) := T_zretR m33 c33_8 rfl
theorem b34 : (mR 34).2.2.1 = cX3_init := by rw [m34]
theorem c34_0 : cod 34 0 = some (.aload_n 0, 1) := cod_of b34 dX3_init_0
theorem t34_0 {d : Nat} {h : Hp} {Q : Pst} {l1 l2 : Value} {x : Nat} {st : List Value} : T d 34 0 [.ref x, l1, l2] st h Q ↔ T d 34 1 [.ref x, l1, l2] (.ref x :: st) h Q := T_aload_n c34_0 rfl
theorem c34_1 : cod 34 1 = some (.invokespecial 1, 3) := cod_of b34 dX3_init_1
theorem t34_1 {d : Nat} {h : Hp} {Q : Pst} {a : Nat} {ls : List Value} : T (d + 1) 34 1 ls [.ref a] h Q ↔ T (d + 1) 34 4 ls [] h Q := T_objinitR m34 c34_1 k3_1 (by simp [stk, Value.category])
theorem c34_4 : cod 34 4 = some (.aload_n 0, 1) := cod_of b34 dX3_init_4
theorem t34_4 {d : Nat} {h : Hp} {Q : Pst} {l1 l2 : Value} {x : Nat} {st : List Value} : T d 34 4 [.ref x, l1, l2] st h Q ↔ T d 34 5 [.ref x, l1, l2] (.ref x :: st) h Q := T_aload_n c34_4 rfl
theorem c34_5 : cod 34 5 = some (.iconst 0, 1) := cod_of b34 dX3_init_5
theorem t34_5 {d : Nat} {h : Hp} {Q : Pst} {ls : List Value} {st : List Value} : T d 34 5 ls st h Q ↔ T d 34 6 ls (.int 0 :: st) h Q := T_iconstV c34_5 (by decide)
theorem c34_6 : cod 34 6 = some (.putfield 7, 3) := cod_of b34 dX3_init_6
theorem t34_6 {d : Nat} {h : Hp} {Q : Pst} {a : Nat} {x : Int32} {ls : List Value} {st : List Value} : T d 34 6 ls (.int x :: .ref a :: st) h Q ↔ pF (h.2.2 a) 3 3 (.int x) (fun cell => T d 34 9 ls st (hup h a cell) Q) := T_putfieldR m34 c34_6 f3_7 (by decide +kernel)
theorem c34_9 : cod 34 9 = some (.aload_n 0, 1) := cod_of b34 dX3_init_9
theorem t34_9 {d : Nat} {h : Hp} {Q : Pst} {l1 l2 : Value} {x : Nat} {st : List Value} : T d 34 9 [.ref x, l1, l2] st h Q ↔ T d 34 10 [.ref x, l1, l2] (.ref x :: st) h Q := T_aload_n c34_9 rfl
theorem c34_10 : cod 34 10 = some (.iconst 1, 1) := cod_of b34 dX3_init_10
theorem t34_10 {d : Nat} {h : Hp} {Q : Pst} {ls : List Value} {st : List Value} : T d 34 10 ls st h Q ↔ T d 34 11 ls (.int 1 :: st) h Q := T_iconstV c34_10 (by decide)
theorem c34_11 : cod 34 11 = some (.iload_n 1, 1) := cod_of b34 dX3_init_11
theorem t34_11 {d : Nat} {h : Hp} {Q : Pst} {l0 l2 : Value} {x : Int32} {st : List Value} : T d 34 11 [l0, .int x, l2] st h Q ↔ T d 34 12 [l0, .int x, l2] (.int x :: st) h Q := T_iload_n c34_11 rfl
theorem c34_12 : cod 34 12 = some (.invokestatic 13, 3) := cod_of b34 dX3_init_12
theorem t34_12 {d : Nat} {h : Hp} {Q : Pst} {x y : Int32} {s0 : Nat} {ls : List Value} : T (d + 1) 34 12 ls [.int y, .int x, .ref s0] h Q ↔ T (d + 1) 34 15 ls [.int (if x < y then y else x), .ref s0] h Q := T_maxR m34 c34_12 k3_13 (by simp [stk, Value.category])
theorem c34_15 : cod 34 15 = some (.putfield 19, 3) := cod_of b34 dX3_init_15
theorem t34_15 {d : Nat} {h : Hp} {Q : Pst} {a : Nat} {x : Int32} {ls : List Value} {st : List Value} : T d 34 15 ls (.int x :: .ref a :: st) h Q ↔ pF (h.2.2 a) 3 0 (.int x) (fun cell => T d 34 18 ls st (hup h a cell) Q) := T_putfieldR m34 c34_15 f3_19 (by decide +kernel)
theorem c34_18 : cod 34 18 = some (.aload_n 0, 1) := cod_of b34 dX3_init_18
theorem t34_18 {d : Nat} {h : Hp} {Q : Pst} {l1 l2 : Value} {x : Nat} {st : List Value} : T d 34 18 [.ref x, l1, l2] st h Q ↔ T d 34 19 [.ref x, l1, l2] (.ref x :: st) h Q := T_aload_n c34_18 rfl
theorem c34_19 : cod 34 19 = some (.iconst 1, 1) := cod_of b34 dX3_init_19
theorem t34_19 {d : Nat} {h : Hp} {Q : Pst} {ls : List Value} {st : List Value} : T d 34 19 ls st h Q ↔ T d 34 20 ls (.int 1 :: st) h Q := T_iconstV c34_19 (by decide)
theorem c34_20 : cod 34 20 = some (.iload_n 2, 1) := cod_of b34 dX3_init_20
theorem t34_20 {d : Nat} {h : Hp} {Q : Pst} {l0 l1 : Value} {x : Int32} {st : List Value} : T d 34 20 [l0, l1, .int x] st h Q ↔ T d 34 21 [l0, l1, .int x] (.int x :: st) h Q := T_iload_n c34_20 rfl
theorem c34_21 : cod 34 21 = some (.invokestatic 13, 3) := cod_of b34 dX3_init_21
theorem t34_21 {d : Nat} {h : Hp} {Q : Pst} {x y : Int32} {s0 : Nat} {ls : List Value} : T (d + 1) 34 21 ls [.int y, .int x, .ref s0] h Q ↔ T (d + 1) 34 24 ls [.int (if x < y then y else x), .ref s0] h Q := T_maxR m34 c34_21 k3_13 (by simp [stk, Value.category])
theorem c34_24 : cod 34 24 = some (.putfield 22, 3) := cod_of b34 dX3_init_24
theorem t34_24 {d : Nat} {h : Hp} {Q : Pst} {a : Nat} {x : Int32} {ls : List Value} {st : List Value} : T d 34 24 ls (.int x :: .ref a :: st) h Q ↔ pF (h.2.2 a) 3 1 (.int x) (fun cell => T d 34 27 ls st (hup h a cell) Q) := T_putfieldR m34 c34_24 f3_22 (by decide +kernel)
theorem c34_27 : cod 34 27 = some (.aload_n 0, 1) := cod_of b34 dX3_init_27
theorem t34_27 {d : Nat} {h : Hp} {Q : Pst} {l1 l2 : Value} {x : Nat} {st : List Value} : T d 34 27 [.ref x, l1, l2] st h Q ↔ T d 34 28 [.ref x, l1, l2] (.ref x :: st) h Q := T_aload_n c34_27 rfl
theorem c34_28 : cod 34 28 = some (.aload_n 0, 1) := cod_of b34 dX3_init_28
theorem t34_28 {d : Nat} {h : Hp} {Q : Pst} {l1 l2 : Value} {x : Nat} {st : List Value} : T d 34 28 [.ref x, l1, l2] st h Q ↔ T d 34 29 [.ref x, l1, l2] (.ref x :: st) h Q := T_aload_n c34_28 rfl
theorem c34_29 : cod 34 29 = some (.getfield 19, 3) := cod_of b34 dX3_init_29
theorem t34_29 {d : Nat} {h : Hp} {Q : Pst} {a : Nat} {ls : List Value} {st : List Value} : T d 34 29 ls (.ref a :: st) h Q ↔ gF (h.2.2 a) 3 0 (fun v => T d 34 32 ls (v :: st) h Q) := T_getfieldR m34 c34_29 f3_19
theorem c34_32 : cod 34 32 = some (.aload_n 0, 1) := cod_of b34 dX3_init_32
theorem t34_32 {d : Nat} {h : Hp} {Q : Pst} {l1 l2 : Value} {x : Nat} {st : List Value} : T d 34 32 [.ref x, l1, l2] st h Q ↔ T d 34 33 [.ref x, l1, l2] (.ref x :: st) h Q := T_aload_n c34_32 rfl
theorem c34_33 : cod 34 33 = some (.getfield 22, 3) := cod_of b34 dX3_init_33
theorem t34_33 {d : Nat} {h : Hp} {Q : Pst} {a : Nat} {ls : List Value} {st : List Value} : T d 34 33 ls (.ref a :: st) h Q ↔ gF (h.2.2 a) 3 1 (fun v => T d 34 36 ls (v :: st) h Q) := T_getfieldR m34 c34_33 f3_22
theorem c34_36 : cod 34 36 = some (.imul, 1) := cod_of b34 dX3_init_36
theorem t34_36 {d : Nat} {h : Hp} {Q : Pst} {x y : Int32} {ls : List Value} {st : List Value} : T d 34 36 ls (.int y :: .int x :: st) h Q ↔ T d 34 37 ls (.int (x * y) :: st) h Q := T_imul c34_36
theorem c34_37 : cod 34 37 = some (.newarray .int, 2) := cod_of b34 dX3_init_37
theorem t34_37 {d : Nat} {h : Hp} {Q : Pst} {x : Int32} {ls : List Value} {st : List Value} : T d 34 37 ls (.int x :: st) h Q ↔ ((0 ≤ x.toInt ∧ x.toInt ≤ 100000) ∧ T d 34 39 ls (.ref h.1 :: st) (hnew h x.toNatClampNeg (oI x.toNatClampNeg fun _ => 0)) Q) := T_newi c34_37
theorem c34_39 : cod 34 39 = some (.putfield 25, 3) := cod_of b34 dX3_init_39
theorem t34_39 {d : Nat} {h : Hp} {Q : Pst} {a x : Nat} {ls : List Value} {st : List Value} : T d 34 39 ls (.ref x :: .ref a :: st) h Q ↔ pF (h.2.2 a) 3 2 (.ref x) (fun cell => T d 34 42 ls st (hup h a cell) Q) := T_putfieldR m34 c34_39 f3_25 (by decide +kernel)
theorem c34_42 : cod 34 42 = some (.return_, 1) := cod_of b34 dX3_init_42
theorem t34_42 {d : Nat} {h : Hp} {Q : Pst} {ls : List Value} : T d 34 42 ls [] h Q ↔ Q none h := T_retR m34 c34_42 rfl
theorem b35 : (mR 35).2.2.1 = cX3_isFull := by rw [m35]
theorem c35_0 : cod 35 0 = some (.aload_n 0, 1) := cod_of b35 dX3_isFull_0
theorem t35_0 {d : Nat} {h : Hp} {Q : Pst} {x : Nat} {st : List Value} : T d 35 0 [.ref x] st h Q ↔ T d 35 1 [.ref x] (.ref x :: st) h Q := T_aload_n c35_0 rfl
theorem c35_1 : cod 35 1 = some (.getfield 7, 3) := cod_of b35 dX3_isFull_1
theorem t35_1 {d : Nat} {h : Hp} {Q : Pst} {a : Nat} {ls : List Value} {st : List Value} : T d 35 1 ls (.ref a :: st) h Q ↔ gF (h.2.2 a) 3 3 (fun v => T d 35 4 ls (v :: st) h Q) := T_getfieldR m35 c35_1 f3_7
theorem c35_4 : cod 35 4 = some (.aload_n 0, 1) := cod_of b35 dX3_isFull_4
theorem t35_4 {d : Nat} {h : Hp} {Q : Pst} {x : Nat} {st : List Value} : T d 35 4 [.ref x] st h Q ↔ T d 35 5 [.ref x] (.ref x :: st) h Q := T_aload_n c35_4 rfl
theorem c35_5 : cod 35 5 = some (.getfield 19, 3) := cod_of b35 dX3_isFull_5
theorem t35_5 {d : Nat} {h : Hp} {Q : Pst} {a : Nat} {ls : List Value} {st : List Value} : T d 35 5 ls (.ref a :: st) h Q ↔ gF (h.2.2 a) 3 0 (fun v => T d 35 8 ls (v :: st) h Q) := T_getfieldR m35 c35_5 f3_19
theorem c35_8 : cod 35 8 = some (.if_icmp .lt 7, 3) := cod_of b35 dX3_isFull_8
theorem t35_8 {d : Nat} {h : Hp} {Q : Pst} {x y : Int32} {ls : List Value} {st : List Value} : T d 35 8 ls (.int y :: .int x :: st) h Q ↔ (if x < y then T d 35 15 ls st h Q else T d 35 11 ls st h Q) := T_icmp_lt c35_8 (by decide)
theorem c35_11 : cod 35 11 = some (.iconst 1, 1) := cod_of b35 dX3_isFull_11
theorem t35_11 {d : Nat} {h : Hp} {Q : Pst} {ls : List Value} {st : List Value} : T d 35 11 ls st h Q ↔ T d 35 12 ls (.int 1 :: st) h Q := T_iconstV c35_11 (by decide)
theorem c35_12 : cod 35 12 = some (.goto 4, 3) := cod_of b35 dX3_isFull_12
theorem t35_12 {d : Nat} {h : Hp} {Q : Pst} {ls : List Value} {st : List Value} : T d 35 12 ls st h Q ↔ T d 35 16 ls st h Q := T_goto c35_12 (by decide)
theorem c35_16 : cod 35 16 = some (.ireturn, 1) := cod_of b35 dX3_isFull_16
theorem t35_16 {d : Nat} {h : Hp} {Q : Pst} {x : Int32} {ls : List Value} : T d 35 16 ls [.int x] h Q ↔ (narrow .boolean (.int x) = .int x ∧ Q (some (.int x)) h) := T_zretR m35 c35_16 rfl
theorem c35_15 : cod 35 15 = some (.iconst 0, 1) := cod_of b35 dX3_isFull_15
theorem t35_15 {d : Nat} {h : Hp} {Q : Pst} {ls : List Value} {st : List Value} : T d 35 15 ls st h Q ↔ T d 35 16 ls (.int 0 :: st) h Q := T_iconstV c35_15 (by decide)
theorem b36 : (mR 36).2.2.1 = cX3_open := by rw [m36]
theorem c36_0 : cod 36 0 = some (.aload_n 0, 1) := cod_of b36 dX3_open_0
theorem t36_0 {d : Nat} {h : Hp} {Q : Pst} {x : Nat} {st : List Value} : T d 36 0 [.ref x] st h Q ↔ T d 36 1 [.ref x] (.ref x :: st) h Q := T_aload_n c36_0 rfl
theorem c36_1 : cod 36 1 = some (.invokevirtual 29, 3) := cod_of b36 dX3_open_1
theorem t36_1 {d : Nat} {h : Hp} {Q : Pst} {a : Nat} {ls : List Value} (ho : isO (h.2.2 a) 3) : T (d + 1) 36 1 ls [.ref a] h Q ↔ T d 35 0 [.ref a] [] h (fun x h2 => T (d + 1) 36 4 ls (rl x []) h2 Q) := T_virtualR (as := []) (r := []) m36 m35 c36_1 k3_29  rfl (by decide) rfl (by simp [wrd, Value.category]) (by simp [stk, Value.category]) rfl (by decide +kernel) ho
theorem c36_4 : cod 36 4 = some (.ifCond .eq 39, 3) := cod_of b36 dX3_open_4
theorem t36_4 {d : Nat} {h : Hp} {Q : Pst} {x : Int32} {ls : List Value} {st : List Value} : T d 36 4 ls (.int x :: st) h Q ↔ (if x = 0 then T d 36 43 ls st h Q else T d 36 7 ls st h Q) := T_if_eq c36_4 (by decide)
theorem c36_7 : cod 36 7 = some (.aload_n 0, 1) := cod_of b36 dX3_open_7
theorem t36_7 {d : Nat} {h : Hp} {Q : Pst} {x : Nat} {st : List Value} : T d 36 7 [.ref x] st h Q ↔ T d 36 8 [.ref x] (.ref x :: st) h Q := T_aload_n c36_7 rfl
theorem c36_8 : cod 36 8 = some (.getfield 25, 3) := cod_of b36 dX3_open_8
theorem t36_8 {d : Nat} {h : Hp} {Q : Pst} {a : Nat} {ls : List Value} {st : List Value} : T d 36 8 ls (.ref a :: st) h Q ↔ gF (h.2.2 a) 3 2 (fun v => T d 36 11 ls (v :: st) h Q) := T_getfieldR m36 c36_8 f3_25
theorem c36_11 : cod 36 11 = some (.aload_n 0, 1) := cod_of b36 dX3_open_11
theorem t36_11 {d : Nat} {h : Hp} {Q : Pst} {x : Nat} {st : List Value} : T d 36 11 [.ref x] st h Q ↔ T d 36 12 [.ref x] (.ref x :: st) h Q := T_aload_n c36_11 rfl
theorem c36_12 : cod 36 12 = some (.getfield 22, 3) := cod_of b36 dX3_open_12
theorem t36_12 {d : Nat} {h : Hp} {Q : Pst} {a : Nat} {ls : List Value} {st : List Value} : T d 36 12 ls (.ref a :: st) h Q ↔ gF (h.2.2 a) 3 1 (fun v => T d 36 15 ls (v :: st) h Q) := T_getfieldR m36 c36_12 f3_22
theorem c36_15 : cod 36 15 = some (.aload_n 0, 1) := cod_of b36 dX3_open_15
theorem t36_15 {d : Nat} {h : Hp} {Q : Pst} {x : Nat} {st : List Value} : T d 36 15 [.ref x] st h Q ↔ T d 36 16 [.ref x] (.ref x :: st) h Q := T_aload_n c36_15 rfl
theorem c36_16 : cod 36 16 = some (.getfield 25, 3) := cod_of b36 dX3_open_16
theorem t36_16 {d : Nat} {h : Hp} {Q : Pst} {a : Nat} {ls : List Value} {st : List Value} : T d 36 16 ls (.ref a :: st) h Q ↔ gF (h.2.2 a) 3 2 (fun v => T d 36 19 ls (v :: st) h Q) := T_getfieldR m36 c36_16 f3_25
theorem c36_19 : cod 36 19 = some (.iconst 0, 1) := cod_of b36 dX3_open_19
theorem t36_19 {d : Nat} {h : Hp} {Q : Pst} {ls : List Value} {st : List Value} : T d 36 19 ls st h Q ↔ T d 36 20 ls (.int 0 :: st) h Q := T_iconstV c36_19 (by decide)
theorem c36_20 : cod 36 20 = some (.aload_n 0, 1) := cod_of b36 dX3_open_20
theorem t36_20 {d : Nat} {h : Hp} {Q : Pst} {x : Nat} {st : List Value} : T d 36 20 [.ref x] st h Q ↔ T d 36 21 [.ref x] (.ref x :: st) h Q := T_aload_n c36_20 rfl
theorem c36_21 : cod 36 21 = some (.getfield 25, 3) := cod_of b36 dX3_open_21
theorem t36_21 {d : Nat} {h : Hp} {Q : Pst} {a : Nat} {ls : List Value} {st : List Value} : T d 36 21 ls (.ref a :: st) h Q ↔ gF (h.2.2 a) 3 2 (fun v => T d 36 24 ls (v :: st) h Q) := T_getfieldR m36 c36_21 f3_25
theorem c36_24 : cod 36 24 = some (.arraylength, 1) := cod_of b36 dX3_open_24
theorem t36_24 {d : Nat} {h : Hp} {Q : Pst} {a : Nat} {ls : List Value} {st : List Value} : T d 36 24 ls (.ref a :: st) h Q ↔ cN (h.2.2 a) (fun n => T d 36 25 ls (.int (Int32.ofNat n) :: st) h Q) := T_alen c36_24
theorem c36_25 : cod 36 25 = some (.aload_n 0, 1) := cod_of b36 dX3_open_25
theorem t36_25 {d : Nat} {h : Hp} {Q : Pst} {x : Nat} {st : List Value} : T d 36 25 [.ref x] st h Q ↔ T d 36 26 [.ref x] (.ref x :: st) h Q := T_aload_n c36_25 rfl
theorem c36_26 : cod 36 26 = some (.getfield 22, 3) := cod_of b36 dX3_open_26
theorem t36_26 {d : Nat} {h : Hp} {Q : Pst} {a : Nat} {ls : List Value} {st : List Value} : T d 36 26 ls (.ref a :: st) h Q ↔ gF (h.2.2 a) 3 1 (fun v => T d 36 29 ls (v :: st) h Q) := T_getfieldR m36 c36_26 f3_22
theorem c36_29 : cod 36 29 = some (.isub, 1) := cod_of b36 dX3_open_29
theorem t36_29 {d : Nat} {h : Hp} {Q : Pst} {x y : Int32} {ls : List Value} {st : List Value} : T d 36 29 ls (.int y :: .int x :: st) h Q ↔ T d 36 30 ls (.int (x - y) :: st) h Q := T_isub c36_29
theorem c36_30 : cod 36 30 = some (.invokestatic 33, 3) := cod_of b36 dX3_open_30
theorem t36_30 {d : Nat} {h : Hp} {Q : Pst} {n dp sp : Int32} {a0 a1 : Nat} {ls : List Value} : T (d + 1) 36 30 ls [.int n, .int dp, .ref a1, .int sp, .ref a0] h Q ↔ cpO (h.2.2 a0) (h.2.2 a1) sp dp n (fun cell => T (d + 1) 36 33 ls [] (hup h a1 cell) Q) := T_arcR m36 c36_30 k3_33 (by simp [stk, Value.category])
theorem c36_33 : cod 36 33 = some (.aload_n 0, 1) := cod_of b36 dX3_open_33
theorem t36_33 {d : Nat} {h : Hp} {Q : Pst} {x : Nat} {st : List Value} : T d 36 33 [.ref x] st h Q ↔ T d 36 34 [.ref x] (.ref x :: st) h Q := T_aload_n c36_33 rfl
theorem c36_34 : cod 36 34 = some (.aload_n 0, 1) := cod_of b36 dX3_open_34
theorem t36_34 {d : Nat} {h : Hp} {Q : Pst} {x : Nat} {st : List Value} : T d 36 34 [.ref x] st h Q ↔ T d 36 35 [.ref x] (.ref x :: st) h Q := T_aload_n c36_34 rfl
theorem c36_35 : cod 36 35 = some (.getfield 19, 3) := cod_of b36 dX3_open_35
theorem t36_35 {d : Nat} {h : Hp} {Q : Pst} {a : Nat} {ls : List Value} {st : List Value} : T d 36 35 ls (.ref a :: st) h Q ↔ gF (h.2.2 a) 3 0 (fun v => T d 36 38 ls (v :: st) h Q) := T_getfieldR m36 c36_35 f3_19
theorem c36_38 : cod 36 38 = some (.iconst 1, 1) := cod_of b36 dX3_open_38
theorem t36_38 {d : Nat} {h : Hp} {Q : Pst} {ls : List Value} {st : List Value} : T d 36 38 ls st h Q ↔ T d 36 39 ls (.int 1 :: st) h Q := T_iconstV c36_38 (by decide)
theorem c36_39 : cod 36 39 = some (.isub, 1) := cod_of b36 dX3_open_39
theorem t36_39 {d : Nat} {h : Hp} {Q : Pst} {x y : Int32} {ls : List Value} {st : List Value} : T d 36 39 ls (.int y :: .int x :: st) h Q ↔ T d 36 40 ls (.int (x - y) :: st) h Q := T_isub c36_39
theorem c36_40 : cod 36 40 = some (.putfield 7, 3) := cod_of b36 dX3_open_40
theorem t36_40 {d : Nat} {h : Hp} {Q : Pst} {a : Nat} {x : Int32} {ls : List Value} {st : List Value} : T d 36 40 ls (.int x :: .ref a :: st) h Q ↔ pF (h.2.2 a) 3 3 (.int x) (fun cell => T d 36 43 ls st (hup h a cell) Q) := T_putfieldR m36 c36_40 f3_7 (by decide +kernel)
theorem c36_43 : cod 36 43 = some (.aload_n 0, 1) := cod_of b36 dX3_open_43
theorem t36_43 {d : Nat} {h : Hp} {Q : Pst} {x : Nat} {st : List Value} : T d 36 43 [.ref x] st h Q ↔ T d 36 44 [.ref x] (.ref x :: st) h Q := T_aload_n c36_43 rfl
theorem c36_44 : cod 36 44 = some (.dup, 1) := cod_of b36 dX3_open_44
theorem t36_44 {d : Nat} {h : Hp} {Q : Pst} {x : Nat} {ls : List Value} {st : List Value} : T d 36 44 ls (.ref x :: st) h Q ↔ T d 36 45 ls (.ref x :: .ref x :: st) h Q := T_dup c36_44 rfl
theorem c36_45 : cod 36 45 = some (.getfield 7, 3) := cod_of b36 dX3_open_45
theorem t36_45 {d : Nat} {h : Hp} {Q : Pst} {a : Nat} {ls : List Value} {st : List Value} : T d 36 45 ls (.ref a :: st) h Q ↔ gF (h.2.2 a) 3 3 (fun v => T d 36 48 ls (v :: st) h Q) := T_getfieldR m36 c36_45 f3_7
theorem c36_48 : cod 36 48 = some (.iconst 1, 1) := cod_of b36 dX3_open_48
theorem t36_48 {d : Nat} {h : Hp} {Q : Pst} {ls : List Value} {st : List Value} : T d 36 48 ls st h Q ↔ T d 36 49 ls (.int 1 :: st) h Q := T_iconstV c36_48 (by decide)
theorem c36_49 : cod 36 49 = some (.iadd, 1) := cod_of b36 dX3_open_49
theorem t36_49 {d : Nat} {h : Hp} {Q : Pst} {x y : Int32} {ls : List Value} {st : List Value} : T d 36 49 ls (.int y :: .int x :: st) h Q ↔ T d 36 50 ls (.int (x + y) :: st) h Q := T_iadd c36_49
theorem c36_50 : cod 36 50 = some (.putfield 7, 3) := cod_of b36 dX3_open_50
theorem t36_50 {d : Nat} {h : Hp} {Q : Pst} {a : Nat} {x : Int32} {ls : List Value} {st : List Value} : T d 36 50 ls (.int x :: .ref a :: st) h Q ↔ pF (h.2.2 a) 3 3 (.int x) (fun cell => T d 36 53 ls st (hup h a cell) Q) := T_putfieldR m36 c36_50 f3_7 (by decide +kernel)
theorem c36_53 : cod 36 53 = some (.return_, 1) := cod_of b36 dX3_open_53
theorem t36_53 {d : Nat} {h : Hp} {Q : Pst} {ls : List Value} : T d 36 53 ls [] h Q ↔ Q none h := T_retR m36 c36_53 rfl
theorem b37 : (mR 37).2.2.1 = cX3_set := by rw [m37]
theorem c37_0 : cod 37 0 = some (.aload_n 0, 1) := cod_of b37 dX3_set_0
theorem t37_0 {d : Nat} {h : Hp} {Q : Pst} {l1 l2 : Value} {x : Nat} {st : List Value} : T d 37 0 [.ref x, l1, l2] st h Q ↔ T d 37 1 [.ref x, l1, l2] (.ref x :: st) h Q := T_aload_n c37_0 rfl
theorem c37_1 : cod 37 1 = some (.getfield 25, 3) := cod_of b37 dX3_set_1
theorem t37_1 {d : Nat} {h : Hp} {Q : Pst} {a : Nat} {ls : List Value} {st : List Value} : T d 37 1 ls (.ref a :: st) h Q ↔ gF (h.2.2 a) 3 2 (fun v => T d 37 4 ls (v :: st) h Q) := T_getfieldR m37 c37_1 f3_25
theorem c37_4 : cod 37 4 = some (.aload_n 0, 1) := cod_of b37 dX3_set_4
theorem t37_4 {d : Nat} {h : Hp} {Q : Pst} {l1 l2 : Value} {x : Nat} {st : List Value} : T d 37 4 [.ref x, l1, l2] st h Q ↔ T d 37 5 [.ref x, l1, l2] (.ref x :: st) h Q := T_aload_n c37_4 rfl
theorem c37_5 : cod 37 5 = some (.getfield 7, 3) := cod_of b37 dX3_set_5
theorem t37_5 {d : Nat} {h : Hp} {Q : Pst} {a : Nat} {ls : List Value} {st : List Value} : T d 37 5 ls (.ref a :: st) h Q ↔ gF (h.2.2 a) 3 3 (fun v => T d 37 8 ls (v :: st) h Q) := T_getfieldR m37 c37_5 f3_7
theorem c37_8 : cod 37 8 = some (.iconst 1, 1) := cod_of b37 dX3_set_8
theorem t37_8 {d : Nat} {h : Hp} {Q : Pst} {ls : List Value} {st : List Value} : T d 37 8 ls st h Q ↔ T d 37 9 ls (.int 1 :: st) h Q := T_iconstV c37_8 (by decide)
theorem c37_9 : cod 37 9 = some (.isub, 1) := cod_of b37 dX3_set_9
theorem t37_9 {d : Nat} {h : Hp} {Q : Pst} {x y : Int32} {ls : List Value} {st : List Value} : T d 37 9 ls (.int y :: .int x :: st) h Q ↔ T d 37 10 ls (.int (x - y) :: st) h Q := T_isub c37_9
theorem c37_10 : cod 37 10 = some (.aload_n 0, 1) := cod_of b37 dX3_set_10
theorem t37_10 {d : Nat} {h : Hp} {Q : Pst} {l1 l2 : Value} {x : Nat} {st : List Value} : T d 37 10 [.ref x, l1, l2] st h Q ↔ T d 37 11 [.ref x, l1, l2] (.ref x :: st) h Q := T_aload_n c37_10 rfl
theorem c37_11 : cod 37 11 = some (.getfield 22, 3) := cod_of b37 dX3_set_11
theorem t37_11 {d : Nat} {h : Hp} {Q : Pst} {a : Nat} {ls : List Value} {st : List Value} : T d 37 11 ls (.ref a :: st) h Q ↔ gF (h.2.2 a) 3 1 (fun v => T d 37 14 ls (v :: st) h Q) := T_getfieldR m37 c37_11 f3_22
theorem c37_14 : cod 37 14 = some (.imul, 1) := cod_of b37 dX3_set_14
theorem t37_14 {d : Nat} {h : Hp} {Q : Pst} {x y : Int32} {ls : List Value} {st : List Value} : T d 37 14 ls (.int y :: .int x :: st) h Q ↔ T d 37 15 ls (.int (x * y) :: st) h Q := T_imul c37_14
theorem c37_15 : cod 37 15 = some (.iload_n 1, 1) := cod_of b37 dX3_set_15
theorem t37_15 {d : Nat} {h : Hp} {Q : Pst} {l0 l2 : Value} {x : Int32} {st : List Value} : T d 37 15 [l0, .int x, l2] st h Q ↔ T d 37 16 [l0, .int x, l2] (.int x :: st) h Q := T_iload_n c37_15 rfl
theorem c37_16 : cod 37 16 = some (.iadd, 1) := cod_of b37 dX3_set_16
theorem t37_16 {d : Nat} {h : Hp} {Q : Pst} {x y : Int32} {ls : List Value} {st : List Value} : T d 37 16 ls (.int y :: .int x :: st) h Q ↔ T d 37 17 ls (.int (x + y) :: st) h Q := T_iadd c37_16
theorem c37_17 : cod 37 17 = some (.iload_n 2, 1) := cod_of b37 dX3_set_17
theorem t37_17 {d : Nat} {h : Hp} {Q : Pst} {l0 l1 : Value} {x : Int32} {st : List Value} : T d 37 17 [l0, l1, .int x] st h Q ↔ T d 37 18 [l0, l1, .int x] (.int x :: st) h Q := T_iload_n c37_17 rfl
theorem c37_18 : cod 37 18 = some (.invokestatic 39, 3) := cod_of b37 dX3_set_18
theorem t37_18 {d : Nat} {h : Hp} {Q : Pst} {a0 : Nat} {a1 a2 : Int32} {ls : List Value} : T (d + 1) 37 18 ls [.int a2, .int a1, .ref a0] h Q ↔ T d 123 0 [.ref a0, .int a1, .int a2] [] h (fun x h2 => T (d + 1) 37 21 ls (rl x []) h2 Q) := T_staticR (as := [.ref a0, .int a1, .int a2]) (r := []) m37 m123 c37_18 k3_39 (Or.inr rfl) rfl (by decide) rfl (by simp [wrd, Value.category]) (by simp [stk, Value.category]) rfl
theorem c37_21 : cod 37 21 = some (.return_, 1) := cod_of b37 dX3_set_21
theorem t37_21 {d : Nat} {h : Hp} {Q : Pst} {ls : List Value} : T d 37 21 ls [] h Q ↔ Q none h := T_retR m37 c37_21 rfl
theorem b38 : (mR 38).2.2.1 = cX3_fill := by rw [m38]
theorem c38_0 : cod 38 0 = some (.aload_n 0, 1) := cod_of b38 dX3_fill_0
theorem t38_0 {d : Nat} {h : Hp} {Q : Pst} {l1 l2 l3 l4 : Value} {x : Nat} {st : List Value} : T d 38 0 [.ref x, l1, l2, l3, l4] st h Q ↔ T d 38 1 [.ref x, l1, l2, l3, l4] (.ref x :: st) h Q := T_aload_n c38_0 rfl
theorem c38_1 : cod 38 1 = some (.iconst 0, 1) := cod_of b38 dX3_fill_1
theorem t38_1 {d : Nat} {h : Hp} {Q : Pst} {ls : List Value} {st : List Value} : T d 38 1 ls st h Q ↔ T d 38 2 ls (.int 0 :: st) h Q := T_iconstV c38_1 (by decide)
theorem c38_2 : cod 38 2 = some (.iload_n 1, 1) := cod_of b38 dX3_fill_2
theorem t38_2 {d : Nat} {h : Hp} {Q : Pst} {l0 l2 l3 l4 : Value} {x : Int32} {st : List Value} : T d 38 2 [l0, .int x, l2, l3, l4] st h Q ↔ T d 38 3 [l0, .int x, l2, l3, l4] (.int x :: st) h Q := T_iload_n c38_2 rfl
theorem c38_3 : cod 38 3 = some (.invokevirtual 45, 3) := cod_of b38 dX3_fill_3
theorem t38_3 {d : Nat} {h : Hp} {Q : Pst} {a0 a1 : Int32} {a : Nat} {ls : List Value} (ho : isO (h.2.2 a) 3) : T (d + 1) 38 3 ls [.int a1, .int a0, .ref a] h Q ↔ T d 37 0 [.ref a, .int a0, .int a1] [] h (fun x h2 => T (d + 1) 38 6 ls (rl x []) h2 Q) := T_virtualR (as := [.int a0, .int a1]) (r := []) m38 m37 c38_3 k3_45  rfl (by decide) rfl (by simp [wrd, Value.category]) (by simp [stk, Value.category]) rfl (by decide +kernel) ho
theorem c38_6 : cod 38 6 = some (.aload_n 0, 1) := cod_of b38 dX3_fill_6
theorem t38_6 {d : Nat} {h : Hp} {Q : Pst} {l1 l2 l3 l4 : Value} {x : Nat} {st : List Value} : T d 38 6 [.ref x, l1, l2, l3, l4] st h Q ↔ T d 38 7 [.ref x, l1, l2, l3, l4] (.ref x :: st) h Q := T_aload_n c38_6 rfl
theorem c38_7 : cod 38 7 = some (.iconst 1, 1) := cod_of b38 dX3_fill_7
theorem t38_7 {d : Nat} {h : Hp} {Q : Pst} {ls : List Value} {st : List Value} : T d 38 7 ls st h Q ↔ T d 38 8 ls (.int 1 :: st) h Q := T_iconstV c38_7 (by decide)
theorem c38_8 : cod 38 8 = some (.iload_n 2, 1) := cod_of b38 dX3_fill_8
theorem t38_8 {d : Nat} {h : Hp} {Q : Pst} {l0 l1 l3 l4 : Value} {x : Int32} {st : List Value} : T d 38 8 [l0, l1, .int x, l3, l4] st h Q ↔ T d 38 9 [l0, l1, .int x, l3, l4] (.int x :: st) h Q := T_iload_n c38_8 rfl
theorem c38_9 : cod 38 9 = some (.invokevirtual 45, 3) := cod_of b38 dX3_fill_9
theorem t38_9 {d : Nat} {h : Hp} {Q : Pst} {a0 a1 : Int32} {a : Nat} {ls : List Value} (ho : isO (h.2.2 a) 3) : T (d + 1) 38 9 ls [.int a1, .int a0, .ref a] h Q ↔ T d 37 0 [.ref a, .int a0, .int a1] [] h (fun x h2 => T (d + 1) 38 12 ls (rl x []) h2 Q) := T_virtualR (as := [.int a0, .int a1]) (r := []) m38 m37 c38_9 k3_45  rfl (by decide) rfl (by simp [wrd, Value.category]) (by simp [stk, Value.category]) rfl (by decide +kernel) ho
theorem c38_12 : cod 38 12 = some (.aload_n 0, 1) := cod_of b38 dX3_fill_12
theorem t38_12 {d : Nat} {h : Hp} {Q : Pst} {l1 l2 l3 l4 : Value} {x : Nat} {st : List Value} : T d 38 12 [.ref x, l1, l2, l3, l4] st h Q ↔ T d 38 13 [.ref x, l1, l2, l3, l4] (.ref x :: st) h Q := T_aload_n c38_12 rfl
theorem c38_13 : cod 38 13 = some (.iconst 2, 1) := cod_of b38 dX3_fill_13
theorem t38_13 {d : Nat} {h : Hp} {Q : Pst} {ls : List Value} {st : List Value} : T d 38 13 ls st h Q ↔ T d 38 14 ls (.int 2 :: st) h Q := T_iconstV c38_13 (by decide)
theorem c38_14 : cod 38 14 = some (.iload_n 3, 1) := cod_of b38 dX3_fill_14
theorem t38_14 {d : Nat} {h : Hp} {Q : Pst} {l0 l1 l2 l4 : Value} {x : Int32} {st : List Value} : T d 38 14 [l0, l1, l2, .int x, l4] st h Q ↔ T d 38 15 [l0, l1, l2, .int x, l4] (.int x :: st) h Q := T_iload_n c38_14 rfl
theorem c38_15 : cod 38 15 = some (.invokevirtual 45, 3) := cod_of b38 dX3_fill_15
theorem t38_15 {d : Nat} {h : Hp} {Q : Pst} {a0 a1 : Int32} {a : Nat} {ls : List Value} (ho : isO (h.2.2 a) 3) : T (d + 1) 38 15 ls [.int a1, .int a0, .ref a] h Q ↔ T d 37 0 [.ref a, .int a0, .int a1] [] h (fun x h2 => T (d + 1) 38 18 ls (rl x []) h2 Q) := T_virtualR (as := [.int a0, .int a1]) (r := []) m38 m37 c38_15 k3_45  rfl (by decide) rfl (by simp [wrd, Value.category]) (by simp [stk, Value.category]) rfl (by decide +kernel) ho
theorem c38_18 : cod 38 18 = some (.aload_n 0, 1) := cod_of b38 dX3_fill_18
theorem t38_18 {d : Nat} {h : Hp} {Q : Pst} {l1 l2 l3 l4 : Value} {x : Nat} {st : List Value} : T d 38 18 [.ref x, l1, l2, l3, l4] st h Q ↔ T d 38 19 [.ref x, l1, l2, l3, l4] (.ref x :: st) h Q := T_aload_n c38_18 rfl
theorem c38_19 : cod 38 19 = some (.iconst 3, 1) := cod_of b38 dX3_fill_19
theorem t38_19 {d : Nat} {h : Hp} {Q : Pst} {ls : List Value} {st : List Value} : T d 38 19 ls st h Q ↔ T d 38 20 ls (.int 3 :: st) h Q := T_iconstV c38_19 (by decide)
theorem c38_20 : cod 38 20 = some (.iload 4, 2) := cod_of b38 dX3_fill_20
theorem t38_20 {d : Nat} {h : Hp} {Q : Pst} {l0 l1 l2 l3 : Value} {x : Int32} {st : List Value} : T d 38 20 [l0, l1, l2, l3, .int x] st h Q ↔ T d 38 22 [l0, l1, l2, l3, .int x] (.int x :: st) h Q := T_iload c38_20 rfl
theorem c38_22 : cod 38 22 = some (.invokevirtual 45, 3) := cod_of b38 dX3_fill_22
theorem t38_22 {d : Nat} {h : Hp} {Q : Pst} {a0 a1 : Int32} {a : Nat} {ls : List Value} (ho : isO (h.2.2 a) 3) : T (d + 1) 38 22 ls [.int a1, .int a0, .ref a] h Q ↔ T d 37 0 [.ref a, .int a0, .int a1] [] h (fun x h2 => T (d + 1) 38 25 ls (rl x []) h2 Q) := T_virtualR (as := [.int a0, .int a1]) (r := []) m38 m37 c38_22 k3_45  rfl (by decide) rfl (by simp [wrd, Value.category]) (by simp [stk, Value.category]) rfl (by decide +kernel) ho
theorem c38_25 : cod 38 25 = some (.return_, 1) := cod_of b38 dX3_fill_25
theorem t38_25 {d : Nat} {h : Hp} {Q : Pst} {ls : List Value} : T d 38 25 ls [] h Q ↔ Q none h := T_retR m38 c38_25 rfl
theorem b39 : (mR 39).2.2.1 = cX3_cell := by rw [m39]
theorem c39_0 : cod 39 0 = some (.aload_n 0, 1) := cod_of b39 dX3_cell_0
theorem t39_0 {d : Nat} {h : Hp} {Q : Pst} {l1 l2 : Value} {x : Nat} {st : List Value} : T d 39 0 [.ref x, l1, l2] st h Q ↔ T d 39 1 [.ref x, l1, l2] (.ref x :: st) h Q := T_aload_n c39_0 rfl
theorem c39_1 : cod 39 1 = some (.getfield 25, 3) := cod_of b39 dX3_cell_1
theorem t39_1 {d : Nat} {h : Hp} {Q : Pst} {a : Nat} {ls : List Value} {st : List Value} : T d 39 1 ls (.ref a :: st) h Q ↔ gF (h.2.2 a) 3 2 (fun v => T d 39 4 ls (v :: st) h Q) := T_getfieldR m39 c39_1 f3_25
theorem c39_4 : cod 39 4 = some (.iload_n 1, 1) := cod_of b39 dX3_cell_4
theorem t39_4 {d : Nat} {h : Hp} {Q : Pst} {l0 l2 : Value} {x : Int32} {st : List Value} : T d 39 4 [l0, .int x, l2] st h Q ↔ T d 39 5 [l0, .int x, l2] (.int x :: st) h Q := T_iload_n c39_4 rfl
theorem c39_5 : cod 39 5 = some (.aload_n 0, 1) := cod_of b39 dX3_cell_5
theorem t39_5 {d : Nat} {h : Hp} {Q : Pst} {l1 l2 : Value} {x : Nat} {st : List Value} : T d 39 5 [.ref x, l1, l2] st h Q ↔ T d 39 6 [.ref x, l1, l2] (.ref x :: st) h Q := T_aload_n c39_5 rfl
theorem c39_6 : cod 39 6 = some (.getfield 22, 3) := cod_of b39 dX3_cell_6
theorem t39_6 {d : Nat} {h : Hp} {Q : Pst} {a : Nat} {ls : List Value} {st : List Value} : T d 39 6 ls (.ref a :: st) h Q ↔ gF (h.2.2 a) 3 1 (fun v => T d 39 9 ls (v :: st) h Q) := T_getfieldR m39 c39_6 f3_22
theorem c39_9 : cod 39 9 = some (.imul, 1) := cod_of b39 dX3_cell_9
theorem t39_9 {d : Nat} {h : Hp} {Q : Pst} {x y : Int32} {ls : List Value} {st : List Value} : T d 39 9 ls (.int y :: .int x :: st) h Q ↔ T d 39 10 ls (.int (x * y) :: st) h Q := T_imul c39_9
theorem c39_10 : cod 39 10 = some (.iload_n 2, 1) := cod_of b39 dX3_cell_10
theorem t39_10 {d : Nat} {h : Hp} {Q : Pst} {l0 l1 : Value} {x : Int32} {st : List Value} : T d 39 10 [l0, l1, .int x] st h Q ↔ T d 39 11 [l0, l1, .int x] (.int x :: st) h Q := T_iload_n c39_10 rfl
theorem c39_11 : cod 39 11 = some (.iadd, 1) := cod_of b39 dX3_cell_11
theorem t39_11 {d : Nat} {h : Hp} {Q : Pst} {x y : Int32} {ls : List Value} {st : List Value} : T d 39 11 ls (.int y :: .int x :: st) h Q ↔ T d 39 12 ls (.int (x + y) :: st) h Q := T_iadd c39_11
theorem c39_12 : cod 39 12 = some (.invokestatic 49, 3) := cod_of b39 dX3_cell_12
theorem t39_12 {d : Nat} {h : Hp} {Q : Pst} {a0 : Nat} {a1 : Int32} {ls : List Value} : T (d + 1) 39 12 ls [.int a1, .ref a0] h Q ↔ T d 122 0 [.ref a0, .int a1] [] h (fun x h2 => T (d + 1) 39 15 ls (rl x []) h2 Q) := T_staticR (as := [.ref a0, .int a1]) (r := []) m39 m122 c39_12 k3_49 (Or.inr rfl) rfl (by decide) rfl (by simp [wrd, Value.category]) (by simp [stk, Value.category]) rfl
theorem c39_15 : cod 39 15 = some (.ireturn, 1) := cod_of b39 dX3_cell_15
theorem t39_15 {d : Nat} {h : Hp} {Q : Pst} {x : Int32} {ls : List Value} : T d 39 15 ls [.int x] h Q ↔ Q (some (.int x)) h := T_iretR m39 c39_15 rfl
theorem b40 : (mR 40).2.2.1 = cX3_last := by rw [m40]
theorem c40_0 : cod 40 0 = some (.aload_n 0, 1) := cod_of b40 dX3_last_0
theorem t40_0 {d : Nat} {h : Hp} {Q : Pst} {l1 : Value} {x : Nat} {st : List Value} : T d 40 0 [.ref x, l1] st h Q ↔ T d 40 1 [.ref x, l1] (.ref x :: st) h Q := T_aload_n c40_0 rfl
theorem c40_1 : cod 40 1 = some (.aload_n 0, 1) := cod_of b40 dX3_last_1
theorem t40_1 {d : Nat} {h : Hp} {Q : Pst} {l1 : Value} {x : Nat} {st : List Value} : T d 40 1 [.ref x, l1] st h Q ↔ T d 40 2 [.ref x, l1] (.ref x :: st) h Q := T_aload_n c40_1 rfl
theorem c40_2 : cod 40 2 = some (.getfield 7, 3) := cod_of b40 dX3_last_2
theorem t40_2 {d : Nat} {h : Hp} {Q : Pst} {a : Nat} {ls : List Value} {st : List Value} : T d 40 2 ls (.ref a :: st) h Q ↔ gF (h.2.2 a) 3 3 (fun v => T d 40 5 ls (v :: st) h Q) := T_getfieldR m40 c40_2 f3_7
theorem c40_5 : cod 40 5 = some (.iconst 1, 1) := cod_of b40 dX3_last_5
theorem t40_5 {d : Nat} {h : Hp} {Q : Pst} {ls : List Value} {st : List Value} : T d 40 5 ls st h Q ↔ T d 40 6 ls (.int 1 :: st) h Q := T_iconstV c40_5 (by decide)
theorem c40_6 : cod 40 6 = some (.isub, 1) := cod_of b40 dX3_last_6
theorem t40_6 {d : Nat} {h : Hp} {Q : Pst} {x y : Int32} {ls : List Value} {st : List Value} : T d 40 6 ls (.int y :: .int x :: st) h Q ↔ T d 40 7 ls (.int (x - y) :: st) h Q := T_isub c40_6
theorem c40_7 : cod 40 7 = some (.iload_n 1, 1) := cod_of b40 dX3_last_7
theorem t40_7 {d : Nat} {h : Hp} {Q : Pst} {l0 : Value} {x : Int32} {st : List Value} : T d 40 7 [l0, .int x] st h Q ↔ T d 40 8 [l0, .int x] (.int x :: st) h Q := T_iload_n c40_7 rfl
theorem c40_8 : cod 40 8 = some (.invokevirtual 53, 3) := cod_of b40 dX3_last_8
theorem t40_8 {d : Nat} {h : Hp} {Q : Pst} {a0 a1 : Int32} {a : Nat} {ls : List Value} (ho : isO (h.2.2 a) 3) : T (d + 1) 40 8 ls [.int a1, .int a0, .ref a] h Q ↔ T d 39 0 [.ref a, .int a0, .int a1] [] h (fun x h2 => T (d + 1) 40 11 ls (rl x []) h2 Q) := T_virtualR (as := [.int a0, .int a1]) (r := []) m40 m39 c40_8 k3_53  rfl (by decide) rfl (by simp [wrd, Value.category]) (by simp [stk, Value.category]) rfl (by decide +kernel) ho
theorem c40_11 : cod 40 11 = some (.ireturn, 1) := cod_of b40 dX3_last_11
theorem t40_11 {d : Nat} {h : Hp} {Q : Pst} {x : Int32} {ls : List Value} : T d 40 11 ls [.int x] h Q ↔ Q (some (.int x)) h := T_iretR m40 c40_11 rfl
theorem b41 : (mR 41).2.2.1 = cX3_closeLast := by rw [m41]
theorem c41_0 : cod 41 0 = some (.aload_n 0, 1) := cod_of b41 dX3_closeLast_0
theorem t41_0 {d : Nat} {h : Hp} {Q : Pst} {x : Nat} {st : List Value} : T d 41 0 [.ref x] st h Q ↔ T d 41 1 [.ref x] (.ref x :: st) h Q := T_aload_n c41_0 rfl
theorem c41_1 : cod 41 1 = some (.iconst 0, 1) := cod_of b41 dX3_closeLast_1
theorem t41_1 {d : Nat} {h : Hp} {Q : Pst} {ls : List Value} {st : List Value} : T d 41 1 ls st h Q ↔ T d 41 2 ls (.int 0 :: st) h Q := T_iconstV c41_1 (by decide)
theorem c41_2 : cod 41 2 = some (.aload_n 0, 1) := cod_of b41 dX3_closeLast_2
theorem t41_2 {d : Nat} {h : Hp} {Q : Pst} {x : Nat} {st : List Value} : T d 41 2 [.ref x] st h Q ↔ T d 41 3 [.ref x] (.ref x :: st) h Q := T_aload_n c41_2 rfl
theorem c41_3 : cod 41 3 = some (.getfield 7, 3) := cod_of b41 dX3_closeLast_3
theorem t41_3 {d : Nat} {h : Hp} {Q : Pst} {a : Nat} {ls : List Value} {st : List Value} : T d 41 3 ls (.ref a :: st) h Q ↔ gF (h.2.2 a) 3 3 (fun v => T d 41 6 ls (v :: st) h Q) := T_getfieldR m41 c41_3 f3_7
theorem c41_6 : cod 41 6 = some (.iconst 1, 1) := cod_of b41 dX3_closeLast_6
theorem t41_6 {d : Nat} {h : Hp} {Q : Pst} {ls : List Value} {st : List Value} : T d 41 6 ls st h Q ↔ T d 41 7 ls (.int 1 :: st) h Q := T_iconstV c41_6 (by decide)
theorem c41_7 : cod 41 7 = some (.isub, 1) := cod_of b41 dX3_closeLast_7
theorem t41_7 {d : Nat} {h : Hp} {Q : Pst} {x y : Int32} {ls : List Value} {st : List Value} : T d 41 7 ls (.int y :: .int x :: st) h Q ↔ T d 41 8 ls (.int (x - y) :: st) h Q := T_isub c41_7
theorem c41_8 : cod 41 8 = some (.invokestatic 13, 3) := cod_of b41 dX3_closeLast_8
theorem t41_8 {d : Nat} {h : Hp} {Q : Pst} {x y : Int32} {s0 : Nat} {ls : List Value} : T (d + 1) 41 8 ls [.int y, .int x, .ref s0] h Q ↔ T (d + 1) 41 11 ls [.int (if x < y then y else x), .ref s0] h Q := T_maxR m41 c41_8 k3_13 (by simp [stk, Value.category])
theorem c41_11 : cod 41 11 = some (.putfield 7, 3) := cod_of b41 dX3_closeLast_11
theorem t41_11 {d : Nat} {h : Hp} {Q : Pst} {a : Nat} {x : Int32} {ls : List Value} {st : List Value} : T d 41 11 ls (.int x :: .ref a :: st) h Q ↔ pF (h.2.2 a) 3 3 (.int x) (fun cell => T d 41 14 ls st (hup h a cell) Q) := T_putfieldR m41 c41_11 f3_7 (by decide +kernel)
theorem c41_14 : cod 41 14 = some (.return_, 1) := cod_of b41 dX3_closeLast_14
theorem t41_14 {d : Nat} {h : Hp} {Q : Pst} {ls : List Value} : T d 41 14 ls [] h Q ↔ Q none h := T_retR m41 c41_14 rfl
theorem b42 : (mR 42).2.2.1 = cX3_drop := by rw [m42]
theorem c42_0 : cod 42 0 = some (.aload_n 0, 1) := cod_of b42 dX3_drop_0
theorem t42_0 {d : Nat} {h : Hp} {Q : Pst} {l1 : Value} {x : Nat} {st : List Value} : T d 42 0 [.ref x, l1] st h Q ↔ T d 42 1 [.ref x, l1] (.ref x :: st) h Q := T_aload_n c42_0 rfl
theorem c42_1 : cod 42 1 = some (.getfield 7, 3) := cod_of b42 dX3_drop_1
theorem t42_1 {d : Nat} {h : Hp} {Q : Pst} {a : Nat} {ls : List Value} {st : List Value} : T d 42 1 ls (.ref a :: st) h Q ↔ gF (h.2.2 a) 3 3 (fun v => T d 42 4 ls (v :: st) h Q) := T_getfieldR m42 c42_1 f3_7
theorem c42_4 : cod 42 4 = some (.istore_n 1, 1) := cod_of b42 dX3_drop_4
theorem t42_4 {d : Nat} {h : Hp} {Q : Pst} {l0 l1 : Value} {x : Int32} {st : List Value} : T d 42 4 [l0, l1] (.int x :: st) h Q ↔ T d 42 5 [kil l0, .int x] st h Q := T_istore_n c42_4 (Nat.le_of_ble_eq_true rfl)
theorem c42_5 : cod 42 5 = some (.aload_n 0, 1) := cod_of b42 dX3_drop_5
theorem t42_5 {d : Nat} {h : Hp} {Q : Pst} {l1 : Value} {x : Nat} {st : List Value} : T d 42 5 [.ref x, l1] st h Q ↔ T d 42 6 [.ref x, l1] (.ref x :: st) h Q := T_aload_n c42_5 rfl
theorem c42_6 : cod 42 6 = some (.iconst 0, 1) := cod_of b42 dX3_drop_6
theorem t42_6 {d : Nat} {h : Hp} {Q : Pst} {ls : List Value} {st : List Value} : T d 42 6 ls st h Q ↔ T d 42 7 ls (.int 0 :: st) h Q := T_iconstV c42_6 (by decide)
theorem c42_7 : cod 42 7 = some (.putfield 7, 3) := cod_of b42 dX3_drop_7
theorem t42_7 {d : Nat} {h : Hp} {Q : Pst} {a : Nat} {x : Int32} {ls : List Value} {st : List Value} : T d 42 7 ls (.int x :: .ref a :: st) h Q ↔ pF (h.2.2 a) 3 3 (.int x) (fun cell => T d 42 10 ls st (hup h a cell) Q) := T_putfieldR m42 c42_7 f3_7 (by decide +kernel)
theorem c42_10 : cod 42 10 = some (.iload_n 1, 1) := cod_of b42 dX3_drop_10
theorem t42_10 {d : Nat} {h : Hp} {Q : Pst} {l0 : Value} {x : Int32} {st : List Value} : T d 42 10 [l0, .int x] st h Q ↔ T d 42 11 [l0, .int x] (.int x :: st) h Q := T_iload_n c42_10 rfl
theorem c42_11 : cod 42 11 = some (.ireturn, 1) := cod_of b42 dX3_drop_11
theorem t42_11 {d : Nat} {h : Hp} {Q : Pst} {x : Int32} {ls : List Value} : T d 42 11 ls [.int x] h Q ↔ Q (some (.int x)) h := T_iretR m42 c42_11 rfl
theorem b43 : (mR 43).2.2.1 = cX3_takeFrom := by rw [m43]
theorem c43_0 : cod 43 0 = some (.aload_n 0, 1) := cod_of b43 dX3_takeFrom_0
theorem t43_0 {d : Nat} {h : Hp} {Q : Pst} {l1 : Value} {x : Nat} {st : List Value} : T d 43 0 [.ref x, l1] st h Q ↔ T d 43 1 [.ref x, l1] (.ref x :: st) h Q := T_aload_n c43_0 rfl
theorem c43_1 : cod 43 1 = some (.aload_n 1, 1) := cod_of b43 dX3_takeFrom_1
theorem t43_1 {d : Nat} {h : Hp} {Q : Pst} {l0 : Value} {x : Nat} {st : List Value} : T d 43 1 [l0, .ref x] st h Q ↔ T d 43 2 [l0, .ref x] (.ref x :: st) h Q := T_aload_n c43_1 rfl
theorem c43_2 : cod 43 2 = some (.getfield 7, 3) := cod_of b43 dX3_takeFrom_2
theorem t43_2 {d : Nat} {h : Hp} {Q : Pst} {a : Nat} {ls : List Value} {st : List Value} : T d 43 2 ls (.ref a :: st) h Q ↔ gF (h.2.2 a) 3 3 (fun v => T d 43 5 ls (v :: st) h Q) := T_getfieldR m43 c43_2 f3_7
theorem c43_5 : cod 43 5 = some (.aload_n 0, 1) := cod_of b43 dX3_takeFrom_5
theorem t43_5 {d : Nat} {h : Hp} {Q : Pst} {l1 : Value} {x : Nat} {st : List Value} : T d 43 5 [.ref x, l1] st h Q ↔ T d 43 6 [.ref x, l1] (.ref x :: st) h Q := T_aload_n c43_5 rfl
theorem c43_6 : cod 43 6 = some (.getfield 19, 3) := cod_of b43 dX3_takeFrom_6
theorem t43_6 {d : Nat} {h : Hp} {Q : Pst} {a : Nat} {ls : List Value} {st : List Value} : T d 43 6 ls (.ref a :: st) h Q ↔ gF (h.2.2 a) 3 0 (fun v => T d 43 9 ls (v :: st) h Q) := T_getfieldR m43 c43_6 f3_19
theorem c43_9 : cod 43 9 = some (.invokestatic 56, 3) := cod_of b43 dX3_takeFrom_9
theorem t43_9 {d : Nat} {h : Hp} {Q : Pst} {x y : Int32} {s0 : Nat} {ls : List Value} : T (d + 1) 43 9 ls [.int y, .int x, .ref s0] h Q ↔ T (d + 1) 43 12 ls [.int (if y < x then y else x), .ref s0] h Q := T_minR m43 c43_9 k3_56 (by simp [stk, Value.category])
theorem c43_12 : cod 43 12 = some (.putfield 7, 3) := cod_of b43 dX3_takeFrom_12
theorem t43_12 {d : Nat} {h : Hp} {Q : Pst} {a : Nat} {x : Int32} {ls : List Value} {st : List Value} : T d 43 12 ls (.int x :: .ref a :: st) h Q ↔ pF (h.2.2 a) 3 3 (.int x) (fun cell => T d 43 15 ls st (hup h a cell) Q) := T_putfieldR m43 c43_12 f3_7 (by decide +kernel)
theorem c43_15 : cod 43 15 = some (.aload_n 1, 1) := cod_of b43 dX3_takeFrom_15
theorem t43_15 {d : Nat} {h : Hp} {Q : Pst} {l0 : Value} {x : Nat} {st : List Value} : T d 43 15 [l0, .ref x] st h Q ↔ T d 43 16 [l0, .ref x] (.ref x :: st) h Q := T_aload_n c43_15 rfl
theorem c43_16 : cod 43 16 = some (.getfield 25, 3) := cod_of b43 dX3_takeFrom_16
theorem t43_16 {d : Nat} {h : Hp} {Q : Pst} {a : Nat} {ls : List Value} {st : List Value} : T d 43 16 ls (.ref a :: st) h Q ↔ gF (h.2.2 a) 3 2 (fun v => T d 43 19 ls (v :: st) h Q) := T_getfieldR m43 c43_16 f3_25
theorem c43_19 : cod 43 19 = some (.aload_n 0, 1) := cod_of b43 dX3_takeFrom_19
theorem t43_19 {d : Nat} {h : Hp} {Q : Pst} {l1 : Value} {x : Nat} {st : List Value} : T d 43 19 [.ref x, l1] st h Q ↔ T d 43 20 [.ref x, l1] (.ref x :: st) h Q := T_aload_n c43_19 rfl
theorem c43_20 : cod 43 20 = some (.getfield 25, 3) := cod_of b43 dX3_takeFrom_20
theorem t43_20 {d : Nat} {h : Hp} {Q : Pst} {a : Nat} {ls : List Value} {st : List Value} : T d 43 20 ls (.ref a :: st) h Q ↔ gF (h.2.2 a) 3 2 (fun v => T d 43 23 ls (v :: st) h Q) := T_getfieldR m43 c43_20 f3_25
theorem c43_23 : cod 43 23 = some (.invokestatic 59, 3) := cod_of b43 dX3_takeFrom_23
theorem t43_23 {d : Nat} {h : Hp} {Q : Pst} {a0 a1 : Nat} {ls : List Value} : T (d + 1) 43 23 ls [.ref a1, .ref a0] h Q ↔ T d 124 0 [.ref a0, .ref a1] [] h (fun x h2 => T (d + 1) 43 26 ls (rl x []) h2 Q) := T_staticR (as := [.ref a0, .ref a1]) (r := []) m43 m124 c43_23 k3_59 (Or.inr rfl) rfl (by decide) rfl (by simp [wrd, Value.category]) (by simp [stk, Value.category]) rfl
theorem c43_26 : cod 43 26 = some (.return_, 1) := cod_of b43 dX3_takeFrom_26
theorem t43_26 {d : Nat} {h : Hp} {Q : Pst} {ls : List Value} : T d 43 26 ls [] h Q ↔ Q none h := T_retR m43 c43_26 rfl
theorem b44 : (mR 44).2.2.1 = cX3_mixInto := by rw [m44]
theorem c44_0 : cod 44 0 = some (.lload_n 1, 1) := cod_of b44 dX3_mixInto_0
theorem t44_0 {d : Nat} {h : Hp} {Q : Pst} {l0 l2 l3 l4 l5 : Value} {x : Int64} {st : List Value} : T d 44 0 [l0, .long x, l2, l3, l4, l5] st h Q ↔ T d 44 1 [l0, .long x, l2, l3, l4, l5] (.long x :: st) h Q := T_lload_n c44_0 rfl
theorem c44_1 : cod 44 1 = some (.lstore_n 3, 1) := cod_of b44 dX3_mixInto_1
theorem t44_1 {d : Nat} {h : Hp} {Q : Pst} {l0 l1 l2 l3 l4 l5 : Value} {x : Int64} {st : List Value} : T d 44 1 [l0, l1, l2, l3, l4, l5] (.long x :: st) h Q ↔ T d 44 2 [l0, l1, kil l2, .long x, un, l5] st h Q := T_lstore_n c44_1 (Nat.le_of_ble_eq_true rfl)
theorem c44_2 : cod 44 2 = some (.iconst 0, 1) := cod_of b44 dX3_mixInto_2
theorem t44_2 {d : Nat} {h : Hp} {Q : Pst} {ls : List Value} {st : List Value} : T d 44 2 ls st h Q ↔ T d 44 3 ls (.int 0 :: st) h Q := T_iconstV c44_2 (by decide)
theorem c44_3 : cod 44 3 = some (.istore 5, 2) := cod_of b44 dX3_mixInto_3
theorem t44_3 {d : Nat} {h : Hp} {Q : Pst} {l0 l1 l2 l3 l4 l5 : Value} {x : Int32} {st : List Value} : T d 44 3 [l0, l1, l2, l3, l4, l5] (.int x :: st) h Q ↔ T d 44 5 [l0, l1, l2, l3, kil l4, .int x] st h Q := T_istore c44_3 (Nat.le_of_ble_eq_true rfl)
theorem c44_5 : cod 44 5 = some (.iload 5, 2) := cod_of b44 dX3_mixInto_5
theorem t44_5 {d : Nat} {h : Hp} {Q : Pst} {l0 l1 l2 l3 l4 : Value} {x : Int32} {st : List Value} : T d 44 5 [l0, l1, l2, l3, l4, .int x] st h Q ↔ T d 44 7 [l0, l1, l2, l3, l4, .int x] (.int x :: st) h Q := T_iload c44_5 rfl
theorem c44_7 : cod 44 7 = some (.aload_n 0, 1) := cod_of b44 dX3_mixInto_7
theorem t44_7 {d : Nat} {h : Hp} {Q : Pst} {l1 l2 l3 l4 l5 : Value} {x : Nat} {st : List Value} : T d 44 7 [.ref x, l1, l2, l3, l4, l5] st h Q ↔ T d 44 8 [.ref x, l1, l2, l3, l4, l5] (.ref x :: st) h Q := T_aload_n c44_7 rfl
theorem c44_8 : cod 44 8 = some (.getfield 7, 3) := cod_of b44 dX3_mixInto_8
theorem t44_8 {d : Nat} {h : Hp} {Q : Pst} {a : Nat} {ls : List Value} {st : List Value} : T d 44 8 ls (.ref a :: st) h Q ↔ gF (h.2.2 a) 3 3 (fun v => T d 44 11 ls (v :: st) h Q) := T_getfieldR m44 c44_8 f3_7
theorem c44_11 : cod 44 11 = some (.aload_n 0, 1) := cod_of b44 dX3_mixInto_11
theorem t44_11 {d : Nat} {h : Hp} {Q : Pst} {l1 l2 l3 l4 l5 : Value} {x : Nat} {st : List Value} : T d 44 11 [.ref x, l1, l2, l3, l4, l5] st h Q ↔ T d 44 12 [.ref x, l1, l2, l3, l4, l5] (.ref x :: st) h Q := T_aload_n c44_11 rfl
theorem c44_12 : cod 44 12 = some (.getfield 22, 3) := cod_of b44 dX3_mixInto_12
theorem t44_12 {d : Nat} {h : Hp} {Q : Pst} {a : Nat} {ls : List Value} {st : List Value} : T d 44 12 ls (.ref a :: st) h Q ↔ gF (h.2.2 a) 3 1 (fun v => T d 44 15 ls (v :: st) h Q) := T_getfieldR m44 c44_12 f3_22
theorem c44_15 : cod 44 15 = some (.imul, 1) := cod_of b44 dX3_mixInto_15
theorem t44_15 {d : Nat} {h : Hp} {Q : Pst} {x y : Int32} {ls : List Value} {st : List Value} : T d 44 15 ls (.int y :: .int x :: st) h Q ↔ T d 44 16 ls (.int (x * y) :: st) h Q := T_imul c44_15
theorem c44_16 : cod 44 16 = some (.if_icmp .ge 26, 3) := cod_of b44 dX3_mixInto_16
theorem t44_16 {d : Nat} {h : Hp} {Q : Pst} {x y : Int32} {ls : List Value} {st : List Value} : T d 44 16 ls (.int y :: .int x :: st) h Q ↔ (if y ≤ x then T d 44 42 ls st h Q else T d 44 19 ls st h Q) := T_icmp_ge c44_16 (by decide)
theorem c44_19 : cod 44 19 = some (.ldc2_w 63, 3) := cod_of b44 dX3_mixInto_19
theorem t44_19 {d : Nat} {h : Hp} {Q : Pst} {ls : List Value} {st : List Value} : T d 44 19 ls st h Q ↔ T d 44 22 ls (.long 31 :: st) h Q := T_ldc2_wR m44 c44_19 (by decide +kernel)
theorem c44_22 : cod 44 22 = some (.lload_n 3, 1) := cod_of b44 dX3_mixInto_22
theorem t44_22 {d : Nat} {h : Hp} {Q : Pst} {l0 l1 l2 l4 l5 : Value} {x : Int64} {st : List Value} : T d 44 22 [l0, l1, l2, .long x, l4, l5] st h Q ↔ T d 44 23 [l0, l1, l2, .long x, l4, l5] (.long x :: st) h Q := T_lload_n c44_22 rfl
theorem c44_23 : cod 44 23 = some (.lmul, 1) := cod_of b44 dX3_mixInto_23
theorem t44_23 {d : Nat} {h : Hp} {Q : Pst} {x y : Int64} {ls : List Value} {st : List Value} : T d 44 23 ls (.long y :: .long x :: st) h Q ↔ T d 44 24 ls (.long (x * y) :: st) h Q := T_lmul c44_23
theorem c44_24 : cod 44 24 = some (.aload_n 0, 1) := cod_of b44 dX3_mixInto_24
theorem t44_24 {d : Nat} {h : Hp} {Q : Pst} {l1 l2 l3 l4 l5 : Value} {x : Nat} {st : List Value} : T d 44 24 [.ref x, l1, l2, l3, l4, l5] st h Q ↔ T d 44 25 [.ref x, l1, l2, l3, l4, l5] (.ref x :: st) h Q := T_aload_n c44_24 rfl
theorem c44_25 : cod 44 25 = some (.getfield 25, 3) := cod_of b44 dX3_mixInto_25
theorem t44_25 {d : Nat} {h : Hp} {Q : Pst} {a : Nat} {ls : List Value} {st : List Value} : T d 44 25 ls (.ref a :: st) h Q ↔ gF (h.2.2 a) 3 2 (fun v => T d 44 28 ls (v :: st) h Q) := T_getfieldR m44 c44_25 f3_25
theorem c44_28 : cod 44 28 = some (.iload 5, 2) := cod_of b44 dX3_mixInto_28
theorem t44_28 {d : Nat} {h : Hp} {Q : Pst} {l0 l1 l2 l3 l4 : Value} {x : Int32} {st : List Value} : T d 44 28 [l0, l1, l2, l3, l4, .int x] st h Q ↔ T d 44 30 [l0, l1, l2, l3, l4, .int x] (.int x :: st) h Q := T_iload c44_28 rfl
theorem c44_30 : cod 44 30 = some (.invokestatic 49, 3) := cod_of b44 dX3_mixInto_30
theorem t44_30 {d : Nat} {h : Hp} {Q : Pst} {a0 : Nat} {a1 : Int32} {s0 : Int64} {ls : List Value} : T (d + 1) 44 30 ls [.int a1, .ref a0, .long s0] h Q ↔ T d 122 0 [.ref a0, .int a1] [] h (fun x h2 => T (d + 1) 44 33 ls (rl x [.long s0]) h2 Q) := T_staticR (as := [.ref a0, .int a1]) (r := [.long s0]) m44 m122 c44_30 k3_49 (Or.inr rfl) rfl (by decide) rfl (by simp [wrd, Value.category]) (by simp [stk, Value.category]) rfl
theorem c44_33 : cod 44 33 = some (.i2l, 1) := cod_of b44 dX3_mixInto_33
theorem t44_33 {d : Nat} {h : Hp} {Q : Pst} {x : Int32} {ls : List Value} {st : List Value} : T d 44 33 ls (.int x :: st) h Q ↔ T d 44 34 ls (.long x.toInt64 :: st) h Q := T_i2l c44_33
theorem c44_34 : cod 44 34 = some (.ladd, 1) := cod_of b44 dX3_mixInto_34
theorem t44_34 {d : Nat} {h : Hp} {Q : Pst} {x y : Int64} {ls : List Value} {st : List Value} : T d 44 34 ls (.long y :: .long x :: st) h Q ↔ T d 44 35 ls (.long (x + y) :: st) h Q := T_ladd c44_34
theorem c44_35 : cod 44 35 = some (.lstore_n 3, 1) := cod_of b44 dX3_mixInto_35
theorem t44_35 {d : Nat} {h : Hp} {Q : Pst} {l0 l1 l2 l3 l4 l5 : Value} {x : Int64} {st : List Value} : T d 44 35 [l0, l1, l2, l3, l4, l5] (.long x :: st) h Q ↔ T d 44 36 [l0, l1, kil l2, .long x, un, l5] st h Q := T_lstore_n c44_35 (Nat.le_of_ble_eq_true rfl)
theorem c44_36 : cod 44 36 = some (.iinc 5 1, 3) := cod_of b44 dX3_mixInto_36
theorem t44_36 {d : Nat} {h : Hp} {Q : Pst} {l0 l1 l2 l3 l4 : Value} {x : Int32} {st : List Value} : T d 44 36 [l0, l1, l2, l3, l4, .int x] st h Q ↔ T d 44 39 [l0, l1, l2, l3, kil l4, .int (x + 1)] st h Q := T_iincV c44_36 rfl (Nat.le_of_ble_eq_true rfl) (by decide) rfl
theorem c44_39 : cod 44 39 = some (.goto (-34), 3) := cod_of b44 dX3_mixInto_39
theorem t44_39 {d : Nat} {h : Hp} {Q : Pst} {ls : List Value} {st : List Value} : T d 44 39 ls st h Q ↔ T d 44 5 ls st h Q := T_goto c44_39 (by decide)
theorem c44_42 : cod 44 42 = some (.lload_n 3, 1) := cod_of b44 dX3_mixInto_42
theorem t44_42 {d : Nat} {h : Hp} {Q : Pst} {l0 l1 l2 l4 l5 : Value} {x : Int64} {st : List Value} : T d 44 42 [l0, l1, l2, .long x, l4, l5] st h Q ↔ T d 44 43 [l0, l1, l2, .long x, l4, l5] (.long x :: st) h Q := T_lload_n c44_42 rfl
theorem c44_43 : cod 44 43 = some (.lreturn, 1) := cod_of b44 dX3_mixInto_43
theorem t44_43 {d : Nat} {h : Hp} {Q : Pst} {x : Int64} {ls : List Value} : T d 44 43 ls [.long x] h Q ↔ Q (some (.long x)) h := T_lretR m44 c44_43 rfl
theorem b45 : (mR 45).2.2.1 = cX4_init := by rw [m45]
theorem c45_0 : cod 45 0 = some (.aload_n 0, 1) := cod_of b45 dX4_init_0
theorem t45_0 {d : Nat} {h : Hp} {Q : Pst} {x : Nat} {st : List Value} : T d 45 0 [.ref x] st h Q ↔ T d 45 1 [.ref x] (.ref x :: st) h Q := T_aload_n c45_0 rfl
theorem c45_1 : cod 45 1 = some (.invokespecial 3, 3) := cod_of b45 dX4_init_1
theorem t45_1 {d : Nat} {h : Hp} {Q : Pst} {a : Nat} {ls : List Value} : T (d + 1) 45 1 ls [.ref a] h Q ↔ T (d + 1) 45 4 ls [] h Q := T_objinitR m45 c45_1 k4_3 (by simp [stk, Value.category])
theorem c45_4 : cod 45 4 = some (.aload_n 0, 1) := cod_of b45 dX4_init_4
theorem t45_4 {d : Nat} {h : Hp} {Q : Pst} {x : Nat} {st : List Value} : T d 45 4 [.ref x] st h Q ↔ T d 45 5 [.ref x] (.ref x :: st) h Q := T_aload_n c45_4 rfl
theorem c45_5 : cod 45 5 = some (.bipush 24, 2) := cod_of b45 dX4_init_5
theorem t45_5 {d : Nat} {h : Hp} {Q : Pst} {ls : List Value} {st : List Value} : T d 45 5 ls st h Q ↔ T d 45 7 ls (.int 24 :: st) h Q := T_bipushV c45_5 (by decide)
theorem c45_7 : cod 45 7 = some (.newarray .int, 2) := cod_of b45 dX4_init_7
theorem t45_7 {d : Nat} {h : Hp} {Q : Pst} {x : Int32} {ls : List Value} {st : List Value} : T d 45 7 ls (.int x :: st) h Q ↔ ((0 ≤ x.toInt ∧ x.toInt ≤ 100000) ∧ T d 45 9 ls (.ref h.1 :: st) (hnew h x.toNatClampNeg (oI x.toNatClampNeg fun _ => 0)) Q) := T_newi c45_7
theorem c45_9 : cod 45 9 = some (.putfield 9, 3) := cod_of b45 dX4_init_9
theorem t45_9 {d : Nat} {h : Hp} {Q : Pst} {a x : Nat} {ls : List Value} {st : List Value} : T d 45 9 ls (.ref x :: .ref a :: st) h Q ↔ pF (h.2.2 a) 4 0 (.ref x) (fun cell => T d 45 12 ls st (hup h a cell) Q) := T_putfieldR m45 c45_9 f4_9 (by decide +kernel)
theorem c45_12 : cod 45 12 = some (.aload_n 0, 1) := cod_of b45 dX4_init_12
theorem t45_12 {d : Nat} {h : Hp} {Q : Pst} {x : Nat} {st : List Value} : T d 45 12 [.ref x] st h Q ↔ T d 45 13 [.ref x] (.ref x :: st) h Q := T_aload_n c45_12 rfl
theorem c45_13 : cod 45 13 = some (.iconst 4, 1) := cod_of b45 dX4_init_13
theorem t45_13 {d : Nat} {h : Hp} {Q : Pst} {ls : List Value} {st : List Value} : T d 45 13 ls st h Q ↔ T d 45 14 ls (.int 4 :: st) h Q := T_iconstV c45_13 (by decide)
theorem c45_14 : cod 45 14 = some (.newarray .int, 2) := cod_of b45 dX4_init_14
theorem t45_14 {d : Nat} {h : Hp} {Q : Pst} {x : Int32} {ls : List Value} {st : List Value} : T d 45 14 ls (.int x :: st) h Q ↔ ((0 ≤ x.toInt ∧ x.toInt ≤ 100000) ∧ T d 45 16 ls (.ref h.1 :: st) (hnew h x.toNatClampNeg (oI x.toNatClampNeg fun _ => 0)) Q) := T_newi c45_14
theorem c45_16 : cod 45 16 = some (.putfield 15, 3) := cod_of b45 dX4_init_16
theorem t45_16 {d : Nat} {h : Hp} {Q : Pst} {a x : Nat} {ls : List Value} {st : List Value} : T d 45 16 ls (.ref x :: .ref a :: st) h Q ↔ pF (h.2.2 a) 4 1 (.ref x) (fun cell => T d 45 19 ls st (hup h a cell) Q) := T_putfieldR m45 c45_16 f4_15 (by decide +kernel)
theorem c45_19 : cod 45 19 = some (.aload_n 0, 1) := cod_of b45 dX4_init_19
theorem t45_19 {d : Nat} {h : Hp} {Q : Pst} {x : Nat} {st : List Value} : T d 45 19 [.ref x] st h Q ↔ T d 45 20 [.ref x] (.ref x :: st) h Q := T_aload_n c45_19 rfl
theorem c45_20 : cod 45 20 = some (.bipush 6, 2) := cod_of b45 dX4_init_20
theorem t45_20 {d : Nat} {h : Hp} {Q : Pst} {ls : List Value} {st : List Value} : T d 45 20 ls st h Q ↔ T d 45 22 ls (.int 6 :: st) h Q := T_bipushV c45_20 (by decide)
theorem c45_22 : cod 45 22 = some (.newarray .int, 2) := cod_of b45 dX4_init_22
theorem t45_22 {d : Nat} {h : Hp} {Q : Pst} {x : Int32} {ls : List Value} {st : List Value} : T d 45 22 ls (.int x :: st) h Q ↔ ((0 ≤ x.toInt ∧ x.toInt ≤ 100000) ∧ T d 45 24 ls (.ref h.1 :: st) (hnew h x.toNatClampNeg (oI x.toNatClampNeg fun _ => 0)) Q) := T_newi c45_22
theorem c45_24 : cod 45 24 = some (.putfield 18, 3) := cod_of b45 dX4_init_24
theorem t45_24 {d : Nat} {h : Hp} {Q : Pst} {a x : Nat} {ls : List Value} {st : List Value} : T d 45 24 ls (.ref x :: .ref a :: st) h Q ↔ pF (h.2.2 a) 4 2 (.ref x) (fun cell => T d 45 27 ls st (hup h a cell) Q) := T_putfieldR m45 c45_24 f4_18 (by decide +kernel)
theorem c45_27 : cod 45 27 = some (.aload_n 0, 1) := cod_of b45 dX4_init_27
theorem t45_27 {d : Nat} {h : Hp} {Q : Pst} {x : Nat} {st : List Value} : T d 45 27 [.ref x] st h Q ↔ T d 45 28 [.ref x] (.ref x :: st) h Q := T_aload_n c45_27 rfl
theorem c45_28 : cod 45 28 = some (.bipush 6, 2) := cod_of b45 dX4_init_28
theorem t45_28 {d : Nat} {h : Hp} {Q : Pst} {ls : List Value} {st : List Value} : T d 45 28 ls st h Q ↔ T d 45 30 ls (.int 6 :: st) h Q := T_bipushV c45_28 (by decide)
theorem c45_30 : cod 45 30 = some (.newarray .int, 2) := cod_of b45 dX4_init_30
theorem t45_30 {d : Nat} {h : Hp} {Q : Pst} {x : Int32} {ls : List Value} {st : List Value} : T d 45 30 ls (.int x :: st) h Q ↔ ((0 ≤ x.toInt ∧ x.toInt ≤ 100000) ∧ T d 45 32 ls (.ref h.1 :: st) (hnew h x.toNatClampNeg (oI x.toNatClampNeg fun _ => 0)) Q) := T_newi c45_30
theorem c45_32 : cod 45 32 = some (.putfield 21, 3) := cod_of b45 dX4_init_32
theorem t45_32 {d : Nat} {h : Hp} {Q : Pst} {a x : Nat} {ls : List Value} {st : List Value} : T d 45 32 ls (.ref x :: .ref a :: st) h Q ↔ pF (h.2.2 a) 4 3 (.ref x) (fun cell => T d 45 35 ls st (hup h a cell) Q) := T_putfieldR m45 c45_32 f4_21 (by decide +kernel)
theorem c45_35 : cod 45 35 = some (.aload_n 0, 1) := cod_of b45 dX4_init_35
theorem t45_35 {d : Nat} {h : Hp} {Q : Pst} {x : Nat} {st : List Value} : T d 45 35 [.ref x] st h Q ↔ T d 45 36 [.ref x] (.ref x :: st) h Q := T_aload_n c45_35 rfl
theorem c45_36 : cod 45 36 = some (.iconst 0, 1) := cod_of b45 dX4_init_36
theorem t45_36 {d : Nat} {h : Hp} {Q : Pst} {ls : List Value} {st : List Value} : T d 45 36 ls st h Q ↔ T d 45 37 ls (.int 0 :: st) h Q := T_iconstV c45_36 (by decide)
theorem c45_37 : cod 45 37 = some (.putfield 24, 3) := cod_of b45 dX4_init_37
theorem t45_37 {d : Nat} {h : Hp} {Q : Pst} {a : Nat} {x : Int32} {ls : List Value} {st : List Value} : T d 45 37 ls (.int x :: .ref a :: st) h Q ↔ pF (h.2.2 a) 4 4 (.int x) (fun cell => T d 45 40 ls st (hup h a cell) Q) := T_putfieldR m45 c45_37 f4_24 (by decide +kernel)
theorem c45_40 : cod 45 40 = some (.aload_n 0, 1) := cod_of b45 dX4_init_40
theorem t45_40 {d : Nat} {h : Hp} {Q : Pst} {x : Nat} {st : List Value} : T d 45 40 [.ref x] st h Q ↔ T d 45 41 [.ref x] (.ref x :: st) h Q := T_aload_n c45_40 rfl
theorem c45_41 : cod 45 41 = some (.iconst 0, 1) := cod_of b45 dX4_init_41
theorem t45_41 {d : Nat} {h : Hp} {Q : Pst} {ls : List Value} {st : List Value} : T d 45 41 ls st h Q ↔ T d 45 42 ls (.int 0 :: st) h Q := T_iconstV c45_41 (by decide)
theorem c45_42 : cod 45 42 = some (.putfield 28, 3) := cod_of b45 dX4_init_42
theorem t45_42 {d : Nat} {h : Hp} {Q : Pst} {a : Nat} {x : Int32} {ls : List Value} {st : List Value} : T d 45 42 ls (.int x :: .ref a :: st) h Q ↔ pF (h.2.2 a) 4 5 (.int x) (fun cell => T d 45 45 ls st (hup h a cell) Q) := T_putfieldR m45 c45_42 f4_28 (by decide +kernel)
theorem c45_45 : cod 45 45 = some (.aload_n 0, 1) := cod_of b45 dX4_init_45
theorem t45_45 {d : Nat} {h : Hp} {Q : Pst} {x : Nat} {st : List Value} : T d 45 45 [.ref x] st h Q ↔ T d 45 46 [.ref x] (.ref x :: st) h Q := T_aload_n c45_45 rfl
theorem c45_46 : cod 45 46 = some (.iconst 0, 1) := cod_of b45 dX4_init_46
theorem t45_46 {d : Nat} {h : Hp} {Q : Pst} {ls : List Value} {st : List Value} : T d 45 46 ls st h Q ↔ T d 45 47 ls (.int 0 :: st) h Q := T_iconstV c45_46 (by decide)
theorem c45_47 : cod 45 47 = some (.putfield 31, 3) := cod_of b45 dX4_init_47
theorem t45_47 {d : Nat} {h : Hp} {Q : Pst} {a : Nat} {x : Int32} {ls : List Value} {st : List Value} : T d 45 47 ls (.int x :: .ref a :: st) h Q ↔ pF (h.2.2 a) 4 6 (.int x) (fun cell => T d 45 50 ls st (hup h a cell) Q) := T_putfieldR m45 c45_47 f4_31 (by decide +kernel)
theorem c45_50 : cod 45 50 = some (.return_, 1) := cod_of b45 dX4_init_50
theorem t45_50 {d : Nat} {h : Hp} {Q : Pst} {ls : List Value} : T d 45 50 ls [] h Q ↔ Q none h := T_retR m45 c45_50 rfl
theorem b46 : (mR 46).2.2.1 = cX4_findBest := by rw [m46]
theorem c46_0 : cod 46 0 = some (.aload_n 0, 1) := cod_of b46 dX4_findBest_0
theorem t46_0 {d : Nat} {h : Hp} {Q : Pst} {l1 l2 l3 : Value} {x : Nat} {st : List Value} : T d 46 0 [.ref x, l1, l2, l3] st h Q ↔ T d 46 1 [.ref x, l1, l2, l3] (.ref x :: st) h Q := T_aload_n c46_0 rfl
theorem c46_1 : cod 46 1 = some (.aload_n 1, 1) := cod_of b46 dX4_findBest_1
theorem t46_1 {d : Nat} {h : Hp} {Q : Pst} {l0 l2 l3 : Value} {x : Nat} {st : List Value} : T d 46 1 [l0, .ref x, l2, l3] st h Q ↔ T d 46 2 [l0, .ref x, l2, l3] (.ref x :: st) h Q := T_aload_n c46_1 rfl
theorem c46_2 : cod 46 2 = some (.getfield 34, 3) := cod_of b46 dX4_findBest_2
theorem t46_2 {d : Nat} {h : Hp} {Q : Pst} {a : Nat} {ls : List Value} {st : List Value} : T d 46 2 ls (.ref a :: st) h Q ↔ gF (h.2.2 a) 5 10 (fun v => T d 46 5 ls (v :: st) h Q) := T_getfieldR m46 c46_2 f4_34
theorem c46_5 : cod 46 5 = some (.putfield 24, 3) := cod_of b46 dX4_findBest_5
theorem t46_5 {d : Nat} {h : Hp} {Q : Pst} {a : Nat} {x : Int32} {ls : List Value} {st : List Value} : T d 46 5 ls (.int x :: .ref a :: st) h Q ↔ pF (h.2.2 a) 4 4 (.int x) (fun cell => T d 46 8 ls st (hup h a cell) Q) := T_putfieldR m46 c46_5 f4_24 (by decide +kernel)
theorem c46_8 : cod 46 8 = some (.aload_n 0, 1) := cod_of b46 dX4_findBest_8
theorem t46_8 {d : Nat} {h : Hp} {Q : Pst} {l1 l2 l3 : Value} {x : Nat} {st : List Value} : T d 46 8 [.ref x, l1, l2, l3] st h Q ↔ T d 46 9 [.ref x, l1, l2, l3] (.ref x :: st) h Q := T_aload_n c46_8 rfl
theorem c46_9 : cod 46 9 = some (.aload_n 1, 1) := cod_of b46 dX4_findBest_9
theorem t46_9 {d : Nat} {h : Hp} {Q : Pst} {l0 l2 l3 : Value} {x : Nat} {st : List Value} : T d 46 9 [l0, .ref x, l2, l3] st h Q ↔ T d 46 10 [l0, .ref x, l2, l3] (.ref x :: st) h Q := T_aload_n c46_9 rfl
theorem c46_10 : cod 46 10 = some (.getfield 37, 3) := cod_of b46 dX4_findBest_10
theorem t46_10 {d : Nat} {h : Hp} {Q : Pst} {a : Nat} {ls : List Value} {st : List Value} : T d 46 10 ls (.ref a :: st) h Q ↔ gF (h.2.2 a) 5 11 (fun v => T d 46 13 ls (v :: st) h Q) := T_getfieldR m46 c46_10 f4_37
theorem c46_13 : cod 46 13 = some (.putfield 28, 3) := cod_of b46 dX4_findBest_13
theorem t46_13 {d : Nat} {h : Hp} {Q : Pst} {a : Nat} {x : Int32} {ls : List Value} {st : List Value} : T d 46 13 ls (.int x :: .ref a :: st) h Q ↔ pF (h.2.2 a) 4 5 (.int x) (fun cell => T d 46 16 ls st (hup h a cell) Q) := T_putfieldR m46 c46_13 f4_28 (by decide +kernel)
theorem c46_16 : cod 46 16 = some (.aload_n 0, 1) := cod_of b46 dX4_findBest_16
theorem t46_16 {d : Nat} {h : Hp} {Q : Pst} {l1 l2 l3 : Value} {x : Nat} {st : List Value} : T d 46 16 [.ref x, l1, l2, l3] st h Q ↔ T d 46 17 [.ref x, l1, l2, l3] (.ref x :: st) h Q := T_aload_n c46_16 rfl
theorem c46_17 : cod 46 17 = some (.iconst (-1), 1) := cod_of b46 dX4_findBest_17
theorem t46_17 {d : Nat} {h : Hp} {Q : Pst} {ls : List Value} {st : List Value} : T d 46 17 ls st h Q ↔ T d 46 18 ls (.int (-1) :: st) h Q := T_iconstV c46_17 (by decide)
theorem c46_18 : cod 46 18 = some (.putfield 31, 3) := cod_of b46 dX4_findBest_18
theorem t46_18 {d : Nat} {h : Hp} {Q : Pst} {a : Nat} {x : Int32} {ls : List Value} {st : List Value} : T d 46 18 ls (.int x :: .ref a :: st) h Q ↔ pF (h.2.2 a) 4 6 (.int x) (fun cell => T d 46 21 ls st (hup h a cell) Q) := T_putfieldR m46 c46_18 f4_31 (by decide +kernel)
theorem c46_21 : cod 46 21 = some (.iconst 0, 1) := cod_of b46 dX4_findBest_21
theorem t46_21 {d : Nat} {h : Hp} {Q : Pst} {ls : List Value} {st : List Value} : T d 46 21 ls st h Q ↔ T d 46 22 ls (.int 0 :: st) h Q := T_iconstV c46_21 (by decide)
theorem c46_22 : cod 46 22 = some (.istore_n 2, 1) := cod_of b46 dX4_findBest_22
theorem t46_22 {d : Nat} {h : Hp} {Q : Pst} {l0 l1 l2 l3 : Value} {x : Int32} {st : List Value} : T d 46 22 [l0, l1, l2, l3] (.int x :: st) h Q ↔ T d 46 23 [l0, kil l1, .int x, l3] st h Q := T_istore_n c46_22 (Nat.le_of_ble_eq_true rfl)
theorem c46_23 : cod 46 23 = some (.iload_n 2, 1) := cod_of b46 dX4_findBest_23
theorem t46_23 {d : Nat} {h : Hp} {Q : Pst} {l0 l1 l3 : Value} {x : Int32} {st : List Value} : T d 46 23 [l0, l1, .int x, l3] st h Q ↔ T d 46 24 [l0, l1, .int x, l3] (.int x :: st) h Q := T_iload_n c46_23 rfl
theorem c46_24 : cod 46 24 = some (.aload_n 0, 1) := cod_of b46 dX4_findBest_24
theorem t46_24 {d : Nat} {h : Hp} {Q : Pst} {l1 l2 l3 : Value} {x : Nat} {st : List Value} : T d 46 24 [.ref x, l1, l2, l3] st h Q ↔ T d 46 25 [.ref x, l1, l2, l3] (.ref x :: st) h Q := T_aload_n c46_24 rfl
theorem c46_25 : cod 46 25 = some (.getfield 24, 3) := cod_of b46 dX4_findBest_25
theorem t46_25 {d : Nat} {h : Hp} {Q : Pst} {a : Nat} {ls : List Value} {st : List Value} : T d 46 25 ls (.ref a :: st) h Q ↔ gF (h.2.2 a) 4 4 (fun v => T d 46 28 ls (v :: st) h Q) := T_getfieldR m46 c46_25 f4_24
theorem c46_28 : cod 46 28 = some (.if_icmp .ge 43, 3) := cod_of b46 dX4_findBest_28
theorem t46_28 {d : Nat} {h : Hp} {Q : Pst} {x y : Int32} {ls : List Value} {st : List Value} : T d 46 28 ls (.int y :: .int x :: st) h Q ↔ (if y ≤ x then T d 46 71 ls st h Q else T d 46 31 ls st h Q) := T_icmp_ge c46_28 (by decide)
theorem c46_31 : cod 46 31 = some (.iconst 0, 1) := cod_of b46 dX4_findBest_31
theorem t46_31 {d : Nat} {h : Hp} {Q : Pst} {ls : List Value} {st : List Value} : T d 46 31 ls st h Q ↔ T d 46 32 ls (.int 0 :: st) h Q := T_iconstV c46_31 (by decide)
theorem c46_32 : cod 46 32 = some (.istore_n 3, 1) := cod_of b46 dX4_findBest_32
theorem t46_32 {d : Nat} {h : Hp} {Q : Pst} {l0 l1 l2 l3 : Value} {x : Int32} {st : List Value} : T d 46 32 [l0, l1, l2, l3] (.int x :: st) h Q ↔ T d 46 33 [l0, l1, kil l2, .int x] st h Q := T_istore_n c46_32 (Nat.le_of_ble_eq_true rfl)
theorem c46_33 : cod 46 33 = some (.iload_n 3, 1) := cod_of b46 dX4_findBest_33
theorem t46_33 {d : Nat} {h : Hp} {Q : Pst} {l0 l1 l2 : Value} {x : Int32} {st : List Value} : T d 46 33 [l0, l1, l2, .int x] st h Q ↔ T d 46 34 [l0, l1, l2, .int x] (.int x :: st) h Q := T_iload_n c46_33 rfl
theorem c46_34 : cod 46 34 = some (.aload_n 0, 1) := cod_of b46 dX4_findBest_34
theorem t46_34 {d : Nat} {h : Hp} {Q : Pst} {l1 l2 l3 : Value} {x : Nat} {st : List Value} : T d 46 34 [.ref x, l1, l2, l3] st h Q ↔ T d 46 35 [.ref x, l1, l2, l3] (.ref x :: st) h Q := T_aload_n c46_34 rfl
theorem c46_35 : cod 46 35 = some (.getfield 28, 3) := cod_of b46 dX4_findBest_35
theorem t46_35 {d : Nat} {h : Hp} {Q : Pst} {a : Nat} {ls : List Value} {st : List Value} : T d 46 35 ls (.ref a :: st) h Q ↔ gF (h.2.2 a) 4 5 (fun v => T d 46 38 ls (v :: st) h Q) := T_getfieldR m46 c46_35 f4_28
theorem c46_38 : cod 46 38 = some (.if_icmp .ge 27, 3) := cod_of b46 dX4_findBest_38
theorem t46_38 {d : Nat} {h : Hp} {Q : Pst} {x y : Int32} {ls : List Value} {st : List Value} : T d 46 38 ls (.int y :: .int x :: st) h Q ↔ (if y ≤ x then T d 46 65 ls st h Q else T d 46 41 ls st h Q) := T_icmp_ge c46_38 (by decide)
theorem c46_41 : cod 46 41 = some (.aload_n 0, 1) := cod_of b46 dX4_findBest_41
theorem t46_41 {d : Nat} {h : Hp} {Q : Pst} {l1 l2 l3 : Value} {x : Nat} {st : List Value} : T d 46 41 [.ref x, l1, l2, l3] st h Q ↔ T d 46 42 [.ref x, l1, l2, l3] (.ref x :: st) h Q := T_aload_n c46_41 rfl
theorem c46_42 : cod 46 42 = some (.getfield 9, 3) := cod_of b46 dX4_findBest_42
theorem t46_42 {d : Nat} {h : Hp} {Q : Pst} {a : Nat} {ls : List Value} {st : List Value} : T d 46 42 ls (.ref a :: st) h Q ↔ gF (h.2.2 a) 4 0 (fun v => T d 46 45 ls (v :: st) h Q) := T_getfieldR m46 c46_42 f4_9
theorem c46_45 : cod 46 45 = some (.iload_n 2, 1) := cod_of b46 dX4_findBest_45
theorem t46_45 {d : Nat} {h : Hp} {Q : Pst} {l0 l1 l3 : Value} {x : Int32} {st : List Value} : T d 46 45 [l0, l1, .int x, l3] st h Q ↔ T d 46 46 [l0, l1, .int x, l3] (.int x :: st) h Q := T_iload_n c46_45 rfl
theorem c46_46 : cod 46 46 = some (.iconst 4, 1) := cod_of b46 dX4_findBest_46
theorem t46_46 {d : Nat} {h : Hp} {Q : Pst} {ls : List Value} {st : List Value} : T d 46 46 ls st h Q ↔ T d 46 47 ls (.int 4 :: st) h Q := T_iconstV c46_46 (by decide)
theorem c46_47 : cod 46 47 = some (.imul, 1) := cod_of b46 dX4_findBest_47
theorem t46_47 {d : Nat} {h : Hp} {Q : Pst} {x y : Int32} {ls : List Value} {st : List Value} : T d 46 47 ls (.int y :: .int x :: st) h Q ↔ T d 46 48 ls (.int (x * y) :: st) h Q := T_imul c46_47
theorem c46_48 : cod 46 48 = some (.iload_n 3, 1) := cod_of b46 dX4_findBest_48
theorem t46_48 {d : Nat} {h : Hp} {Q : Pst} {l0 l1 l2 : Value} {x : Int32} {st : List Value} : T d 46 48 [l0, l1, l2, .int x] st h Q ↔ T d 46 49 [l0, l1, l2, .int x] (.int x :: st) h Q := T_iload_n c46_48 rfl
theorem c46_49 : cod 46 49 = some (.iadd, 1) := cod_of b46 dX4_findBest_49
theorem t46_49 {d : Nat} {h : Hp} {Q : Pst} {x y : Int32} {ls : List Value} {st : List Value} : T d 46 49 ls (.int y :: .int x :: st) h Q ↔ T d 46 50 ls (.int (x + y) :: st) h Q := T_iadd c46_49
theorem c46_50 : cod 46 50 = some (.aload_n 1, 1) := cod_of b46 dX4_findBest_50
theorem t46_50 {d : Nat} {h : Hp} {Q : Pst} {l0 l2 l3 : Value} {x : Nat} {st : List Value} : T d 46 50 [l0, .ref x, l2, l3] st h Q ↔ T d 46 51 [l0, .ref x, l2, l3] (.ref x :: st) h Q := T_aload_n c46_50 rfl
theorem c46_51 : cod 46 51 = some (.iload_n 2, 1) := cod_of b46 dX4_findBest_51
theorem t46_51 {d : Nat} {h : Hp} {Q : Pst} {l0 l1 l3 : Value} {x : Int32} {st : List Value} : T d 46 51 [l0, l1, .int x, l3] st h Q ↔ T d 46 52 [l0, l1, .int x, l3] (.int x :: st) h Q := T_iload_n c46_51 rfl
theorem c46_52 : cod 46 52 = some (.iload_n 3, 1) := cod_of b46 dX4_findBest_52
theorem t46_52 {d : Nat} {h : Hp} {Q : Pst} {l0 l1 l2 : Value} {x : Int32} {st : List Value} : T d 46 52 [l0, l1, l2, .int x] st h Q ↔ T d 46 53 [l0, l1, l2, .int x] (.int x :: st) h Q := T_iload_n c46_52 rfl
theorem c46_53 : cod 46 53 = some (.invokevirtual 38, 3) := cod_of b46 dX4_findBest_53
theorem t46_53 {d : Nat} {h : Hp} {Q : Pst} {a0 a1 s0 : Int32} {s1 a : Nat} {ls : List Value} (ho : isO (h.2.2 a) 5) : T (d + 1) 46 53 ls [.int a1, .int a0, .ref a, .int s0, .ref s1] h Q ↔ T d 63 0 [.ref a, .int a0, .int a1] [] h (fun x h2 => T (d + 1) 46 56 ls (rl x [.int s0, .ref s1]) h2 Q) := T_virtualR (as := [.int a0, .int a1]) (r := [.int s0, .ref s1]) m46 m63 c46_53 k4_38  rfl (by decide) rfl (by simp [wrd, Value.category]) (by simp [stk, Value.category]) rfl (by decide +kernel) ho
theorem c46_56 : cod 46 56 = some (.invokestatic 42, 3) := cod_of b46 dX4_findBest_56
theorem t46_56 {d : Nat} {h : Hp} {Q : Pst} {a0 : Nat} {a1 a2 : Int32} {ls : List Value} : T (d + 1) 46 56 ls [.int a2, .int a1, .ref a0] h Q ↔ T d 123 0 [.ref a0, .int a1, .int a2] [] h (fun x h2 => T (d + 1) 46 59 ls (rl x []) h2 Q) := T_staticR (as := [.ref a0, .int a1, .int a2]) (r := []) m46 m123 c46_56 k4_42 (Or.inr rfl) rfl (by decide) rfl (by simp [wrd, Value.category]) (by simp [stk, Value.category]) rfl
theorem c46_59 : cod 46 59 = some (.iinc 3 1, 3) := cod_of b46 dX4_findBest_59
theorem t46_59 {d : Nat} {h : Hp} {Q : Pst} {l0 l1 l2 : Value} {x : Int32} {st : List Value} : T d 46 59 [l0, l1, l2, .int x] st h Q ↔ T d 46 62 [l0, l1, kil l2, .int (x + 1)] st h Q := T_iincV c46_59 rfl (Nat.le_of_ble_eq_true rfl) (by decide) rfl
theorem c46_62 : cod 46 62 = some (.goto (-29), 3) := cod_of b46 dX4_findBest_62
theorem t46_62 {d : Nat} {h : Hp} {Q : Pst} {ls : List Value} {st : List Value} : T d 46 62 ls st h Q ↔ T d 46 33 ls st h Q := T_goto c46_62 (by decide)
theorem c46_65 : cod 46 65 = some (.iinc 2 1, 3) := cod_of b46 dX4_findBest_65
theorem t46_65 {d : Nat} {h : Hp} {Q : Pst} {l0 l1 l3 : Value} {x : Int32} {st : List Value} : T d 46 65 [l0, l1, .int x, l3] st h Q ↔ T d 46 68 [l0, kil l1, .int (x + 1), l3] st h Q := T_iincV c46_65 rfl (Nat.le_of_ble_eq_true rfl) (by decide) rfl
theorem c46_68 : cod 46 68 = some (.goto (-45), 3) := cod_of b46 dX4_findBest_68
theorem t46_68 {d : Nat} {h : Hp} {Q : Pst} {ls : List Value} {st : List Value} : T d 46 68 ls st h Q ↔ T d 46 23 ls st h Q := T_goto c46_68 (by decide)
theorem c46_71 : cod 46 71 = some (.iconst 0, 1) := cod_of b46 dX4_findBest_71
theorem t46_71 {d : Nat} {h : Hp} {Q : Pst} {ls : List Value} {st : List Value} : T d 46 71 ls st h Q ↔ T d 46 72 ls (.int 0 :: st) h Q := T_iconstV c46_71 (by decide)
theorem c46_72 : cod 46 72 = some (.istore_n 2, 1) := cod_of b46 dX4_findBest_72
theorem t46_72 {d : Nat} {h : Hp} {Q : Pst} {l0 l1 l2 l3 : Value} {x : Int32} {st : List Value} : T d 46 72 [l0, l1, l2, l3] (.int x :: st) h Q ↔ T d 46 73 [l0, kil l1, .int x, l3] st h Q := T_istore_n c46_72 (Nat.le_of_ble_eq_true rfl)
theorem c46_73 : cod 46 73 = some (.iload_n 2, 1) := cod_of b46 dX4_findBest_73
theorem t46_73 {d : Nat} {h : Hp} {Q : Pst} {l0 l1 l3 : Value} {x : Int32} {st : List Value} : T d 46 73 [l0, l1, .int x, l3] st h Q ↔ T d 46 74 [l0, l1, .int x, l3] (.int x :: st) h Q := T_iload_n c46_73 rfl
theorem c46_74 : cod 46 74 = some (.aload_n 0, 1) := cod_of b46 dX4_findBest_74
theorem t46_74 {d : Nat} {h : Hp} {Q : Pst} {l1 l2 l3 : Value} {x : Nat} {st : List Value} : T d 46 74 [.ref x, l1, l2, l3] st h Q ↔ T d 46 75 [.ref x, l1, l2, l3] (.ref x :: st) h Q := T_aload_n c46_74 rfl
theorem c46_75 : cod 46 75 = some (.getfield 28, 3) := cod_of b46 dX4_findBest_75
theorem t46_75 {d : Nat} {h : Hp} {Q : Pst} {a : Nat} {ls : List Value} {st : List Value} : T d 46 75 ls (.ref a :: st) h Q ↔ gF (h.2.2 a) 4 5 (fun v => T d 46 78 ls (v :: st) h Q) := T_getfieldR m46 c46_75 f4_28
theorem c46_78 : cod 46 78 = some (.if_icmp .ge 18, 3) := cod_of b46 dX4_findBest_78
theorem t46_78 {d : Nat} {h : Hp} {Q : Pst} {x y : Int32} {ls : List Value} {st : List Value} : T d 46 78 ls (.int y :: .int x :: st) h Q ↔ (if y ≤ x then T d 46 96 ls st h Q else T d 46 81 ls st h Q) := T_icmp_ge c46_78 (by decide)
theorem c46_81 : cod 46 81 = some (.aload_n 0, 1) := cod_of b46 dX4_findBest_81
theorem t46_81 {d : Nat} {h : Hp} {Q : Pst} {l1 l2 l3 : Value} {x : Nat} {st : List Value} : T d 46 81 [.ref x, l1, l2, l3] st h Q ↔ T d 46 82 [.ref x, l1, l2, l3] (.ref x :: st) h Q := T_aload_n c46_81 rfl
theorem c46_82 : cod 46 82 = some (.getfield 15, 3) := cod_of b46 dX4_findBest_82
theorem t46_82 {d : Nat} {h : Hp} {Q : Pst} {a : Nat} {ls : List Value} {st : List Value} : T d 46 82 ls (.ref a :: st) h Q ↔ gF (h.2.2 a) 4 1 (fun v => T d 46 85 ls (v :: st) h Q) := T_getfieldR m46 c46_82 f4_15
theorem c46_85 : cod 46 85 = some (.iload_n 2, 1) := cod_of b46 dX4_findBest_85
theorem t46_85 {d : Nat} {h : Hp} {Q : Pst} {l0 l1 l3 : Value} {x : Int32} {st : List Value} : T d 46 85 [l0, l1, .int x, l3] st h Q ↔ T d 46 86 [l0, l1, .int x, l3] (.int x :: st) h Q := T_iload_n c46_85 rfl
theorem c46_86 : cod 46 86 = some (.iconst 0, 1) := cod_of b46 dX4_findBest_86
theorem t46_86 {d : Nat} {h : Hp} {Q : Pst} {ls : List Value} {st : List Value} : T d 46 86 ls st h Q ↔ T d 46 87 ls (.int 0 :: st) h Q := T_iconstV c46_86 (by decide)
theorem c46_87 : cod 46 87 = some (.invokestatic 42, 3) := cod_of b46 dX4_findBest_87
theorem t46_87 {d : Nat} {h : Hp} {Q : Pst} {a0 : Nat} {a1 a2 : Int32} {ls : List Value} : T (d + 1) 46 87 ls [.int a2, .int a1, .ref a0] h Q ↔ T d 123 0 [.ref a0, .int a1, .int a2] [] h (fun x h2 => T (d + 1) 46 90 ls (rl x []) h2 Q) := T_staticR (as := [.ref a0, .int a1, .int a2]) (r := []) m46 m123 c46_87 k4_42 (Or.inr rfl) rfl (by decide) rfl (by simp [wrd, Value.category]) (by simp [stk, Value.category]) rfl
theorem c46_90 : cod 46 90 = some (.iinc 2 1, 3) := cod_of b46 dX4_findBest_90
theorem t46_90 {d : Nat} {h : Hp} {Q : Pst} {l0 l1 l3 : Value} {x : Int32} {st : List Value} : T d 46 90 [l0, l1, .int x, l3] st h Q ↔ T d 46 93 [l0, kil l1, .int (x + 1), l3] st h Q := T_iincV c46_90 rfl (Nat.le_of_ble_eq_true rfl) (by decide) rfl
theorem c46_93 : cod 46 93 = some (.goto (-20), 3) := cod_of b46 dX4_findBest_93
theorem t46_93 {d : Nat} {h : Hp} {Q : Pst} {ls : List Value} {st : List Value} : T d 46 93 ls st h Q ↔ T d 46 73 ls st h Q := T_goto c46_93 (by decide)
theorem c46_96 : cod 46 96 = some (.aload_n 0, 1) := cod_of b46 dX4_findBest_96
theorem t46_96 {d : Nat} {h : Hp} {Q : Pst} {l1 l2 l3 : Value} {x : Nat} {st : List Value} : T d 46 96 [.ref x, l1, l2, l3] st h Q ↔ T d 46 97 [.ref x, l1, l2, l3] (.ref x :: st) h Q := T_aload_n c46_96 rfl
theorem c46_97 : cod 46 97 = some (.iconst 0, 1) := cod_of b46 dX4_findBest_97
theorem t46_97 {d : Nat} {h : Hp} {Q : Pst} {ls : List Value} {st : List Value} : T d 46 97 ls st h Q ↔ T d 46 98 ls (.int 0 :: st) h Q := T_iconstV c46_97 (by decide)
theorem c46_98 : cod 46 98 = some (.iconst 0, 1) := cod_of b46 dX4_findBest_98
theorem t46_98 {d : Nat} {h : Hp} {Q : Pst} {ls : List Value} {st : List Value} : T d 46 98 ls st h Q ↔ T d 46 99 ls (.int 0 :: st) h Q := T_iconstV c46_98 (by decide)
theorem c46_99 : cod 46 99 = some (.invokestatic 46, 3) := cod_of b46 dX4_findBest_99
theorem t46_99 {d : Nat} {h : Hp} {Q : Pst} {a0 : Nat} {a1 a2 : Int32} {ls : List Value} : T (d + 1) 46 99 ls [.int a2, .int a1, .ref a0] h Q ↔ T d 47 0 [.ref a0, .int a1, .int a2, un, un, un, un] [] h (fun x h2 => T (d + 1) 46 102 ls (rl x []) h2 Q) := T_staticR (as := [.ref a0, .int a1, .int a2]) (r := []) m46 m47 c46_99 k4_46 (Or.inl rfl) rfl (by decide) rfl (by simp [wrd, Value.category]) (by simp [stk, Value.category]) rfl
theorem c46_102 : cod 46 102 = some (.return_, 1) := cod_of b46 dX4_findBest_102
theorem t46_102 {d : Nat} {h : Hp} {Q : Pst} {ls : List Value} : T d 46 102 ls [] h Q ↔ Q none h := T_retR m46 c46_102 rfl
theorem b47 : (mR 47).2.2.1 = cX4_settle := by rw [m47]
theorem c47_0 : cod 47 0 = some (.iload_n 1, 1) := cod_of b47 dX4_settle_0
theorem t47_0 {d : Nat} {h : Hp} {Q : Pst} {l0 l2 l3 l4 l5 l6 : Value} {x : Int32} {st : List Value} : T d 47 0 [l0, .int x, l2, l3, l4, l5, l6] st h Q ↔ T d 47 1 [l0, .int x, l2, l3, l4, l5, l6] (.int x :: st) h Q := T_iload_n c47_0 rfl
theorem c47_1 : cod 47 1 = some (.aload_n 0, 1) := cod_of b47 dX4_settle_1
theorem t47_1 {d : Nat} {h : Hp} {Q : Pst} {l1 l2 l3 l4 l5 l6 : Value} {x : Nat} {st : List Value} : T d 47 1 [.ref x, l1, l2, l3, l4, l5, l6] st h Q ↔ T d 47 2 [.ref x, l1, l2, l3, l4, l5, l6] (.ref x :: st) h Q := T_aload_n c47_1 rfl
theorem c47_2 : cod 47 2 = some (.getfield 24, 3) := cod_of b47 dX4_settle_2
theorem t47_2 {d : Nat} {h : Hp} {Q : Pst} {a : Nat} {ls : List Value} {st : List Value} : T d 47 2 ls (.ref a :: st) h Q ↔ gF (h.2.2 a) 4 4 (fun v => T d 47 5 ls (v :: st) h Q) := T_getfieldR m47 c47_2 f4_24
theorem c47_5 : cod 47 5 = some (.if_icmp .ge 9, 3) := cod_of b47 dX4_settle_5
theorem t47_5 {d : Nat} {h : Hp} {Q : Pst} {x y : Int32} {ls : List Value} {st : List Value} : T d 47 5 ls (.int y :: .int x :: st) h Q ↔ (if y ≤ x then T d 47 14 ls st h Q else T d 47 8 ls st h Q) := T_icmp_ge c47_5 (by decide)
theorem c47_8 : cod 47 8 = some (.iload_n 1, 1) := cod_of b47 dX4_settle_8
theorem t47_8 {d : Nat} {h : Hp} {Q : Pst} {l0 l2 l3 l4 l5 l6 : Value} {x : Int32} {st : List Value} : T d 47 8 [l0, .int x, l2, l3, l4, l5, l6] st h Q ↔ T d 47 9 [l0, .int x, l2, l3, l4, l5, l6] (.int x :: st) h Q := T_iload_n c47_8 rfl
theorem c47_9 : cod 47 9 = some (.bipush 6, 2) := cod_of b47 dX4_settle_9
theorem t47_9 {d : Nat} {h : Hp} {Q : Pst} {ls : List Value} {st : List Value} : T d 47 9 ls st h Q ↔ T d 47 11 ls (.int 6 :: st) h Q := T_bipushV c47_9 (by decide)
theorem c47_11 : cod 47 11 = some (.if_icmp .lt 9, 3) := cod_of b47 dX4_settle_11
theorem t47_11 {d : Nat} {h : Hp} {Q : Pst} {x y : Int32} {ls : List Value} {st : List Value} : T d 47 11 ls (.int y :: .int x :: st) h Q ↔ (if x < y then T d 47 20 ls st h Q else T d 47 14 ls st h Q) := T_icmp_lt c47_11 (by decide)
theorem c47_20 : cod 47 20 = some (.iconst 0, 1) := cod_of b47 dX4_settle_20
theorem t47_20 {d : Nat} {h : Hp} {Q : Pst} {ls : List Value} {st : List Value} : T d 47 20 ls st h Q ↔ T d 47 21 ls (.int 0 :: st) h Q := T_iconstV c47_20 (by decide)
theorem c47_21 : cod 47 21 = some (.istore_n 3, 1) := cod_of b47 dX4_settle_21
theorem t47_21 {d : Nat} {h : Hp} {Q : Pst} {l0 l1 l2 l3 l4 l5 l6 : Value} {x : Int32} {st : List Value} : T d 47 21 [l0, l1, l2, l3, l4, l5, l6] (.int x :: st) h Q ↔ T d 47 22 [l0, l1, kil l2, .int x, l4, l5, l6] st h Q := T_istore_n c47_21 (Nat.le_of_ble_eq_true rfl)
theorem c47_22 : cod 47 22 = some (.iconst 0, 1) := cod_of b47 dX4_settle_22
theorem t47_22 {d : Nat} {h : Hp} {Q : Pst} {ls : List Value} {st : List Value} : T d 47 22 ls st h Q ↔ T d 47 23 ls (.int 0 :: st) h Q := T_iconstV c47_22 (by decide)
theorem c47_23 : cod 47 23 = some (.istore 4, 2) := cod_of b47 dX4_settle_23
theorem t47_23 {d : Nat} {h : Hp} {Q : Pst} {l0 l1 l2 l3 l4 l5 l6 : Value} {x : Int32} {st : List Value} : T d 47 23 [l0, l1, l2, l3, l4, l5, l6] (.int x :: st) h Q ↔ T d 47 25 [l0, l1, l2, kil l3, .int x, l5, l6] st h Q := T_istore c47_23 (Nat.le_of_ble_eq_true rfl)
theorem c47_25 : cod 47 25 = some (.iload 4, 2) := cod_of b47 dX4_settle_25
theorem t47_25 {d : Nat} {h : Hp} {Q : Pst} {l0 l1 l2 l3 l5 l6 : Value} {x : Int32} {st : List Value} : T d 47 25 [l0, l1, l2, l3, .int x, l5, l6] st h Q ↔ T d 47 27 [l0, l1, l2, l3, .int x, l5, l6] (.int x :: st) h Q := T_iload c47_25 rfl
theorem c47_27 : cod 47 27 = some (.aload_n 0, 1) := cod_of b47 dX4_settle_27
theorem t47_27 {d : Nat} {h : Hp} {Q : Pst} {l1 l2 l3 l4 l5 l6 : Value} {x : Nat} {st : List Value} : T d 47 27 [.ref x, l1, l2, l3, l4, l5, l6] st h Q ↔ T d 47 28 [.ref x, l1, l2, l3, l4, l5, l6] (.ref x :: st) h Q := T_aload_n c47_27 rfl
theorem c47_28 : cod 47 28 = some (.getfield 28, 3) := cod_of b47 dX4_settle_28
theorem t47_28 {d : Nat} {h : Hp} {Q : Pst} {a : Nat} {ls : List Value} {st : List Value} : T d 47 28 ls (.ref a :: st) h Q ↔ gF (h.2.2 a) 4 5 (fun v => T d 47 31 ls (v :: st) h Q) := T_getfieldR m47 c47_28 f4_28
theorem c47_31 : cod 47 31 = some (.if_icmp .ge 92, 3) := cod_of b47 dX4_settle_31
theorem t47_31 {d : Nat} {h : Hp} {Q : Pst} {x y : Int32} {ls : List Value} {st : List Value} : T d 47 31 ls (.int y :: .int x :: st) h Q ↔ (if y ≤ x then T d 47 123 ls st h Q else T d 47 34 ls st h Q) := T_icmp_ge c47_31 (by decide)
theorem c47_34 : cod 47 34 = some (.aload_n 0, 1) := cod_of b47 dX4_settle_34
theorem t47_34 {d : Nat} {h : Hp} {Q : Pst} {l1 l2 l3 l4 l5 l6 : Value} {x : Nat} {st : List Value} : T d 47 34 [.ref x, l1, l2, l3, l4, l5, l6] st h Q ↔ T d 47 35 [.ref x, l1, l2, l3, l4, l5, l6] (.ref x :: st) h Q := T_aload_n c47_34 rfl
theorem c47_35 : cod 47 35 = some (.getfield 9, 3) := cod_of b47 dX4_settle_35
theorem t47_35 {d : Nat} {h : Hp} {Q : Pst} {a : Nat} {ls : List Value} {st : List Value} : T d 47 35 ls (.ref a :: st) h Q ↔ gF (h.2.2 a) 4 0 (fun v => T d 47 38 ls (v :: st) h Q) := T_getfieldR m47 c47_35 f4_9
theorem c47_38 : cod 47 38 = some (.iload_n 1, 1) := cod_of b47 dX4_settle_38
theorem t47_38 {d : Nat} {h : Hp} {Q : Pst} {l0 l2 l3 l4 l5 l6 : Value} {x : Int32} {st : List Value} : T d 47 38 [l0, .int x, l2, l3, l4, l5, l6] st h Q ↔ T d 47 39 [l0, .int x, l2, l3, l4, l5, l6] (.int x :: st) h Q := T_iload_n c47_38 rfl
theorem c47_39 : cod 47 39 = some (.iconst 4, 1) := cod_of b47 dX4_settle_39
theorem t47_39 {d : Nat} {h : Hp} {Q : Pst} {ls : List Value} {st : List Value} : T d 47 39 ls st h Q ↔ T d 47 40 ls (.int 4 :: st) h Q := T_iconstV c47_39 (by decide)
theorem c47_40 : cod 47 40 = some (.imul, 1) := cod_of b47 dX4_settle_40
theorem t47_40 {d : Nat} {h : Hp} {Q : Pst} {x y : Int32} {ls : List Value} {st : List Value} : T d 47 40 ls (.int y :: .int x :: st) h Q ↔ T d 47 41 ls (.int (x * y) :: st) h Q := T_imul c47_40
theorem c47_41 : cod 47 41 = some (.iload 4, 2) := cod_of b47 dX4_settle_41
theorem t47_41 {d : Nat} {h : Hp} {Q : Pst} {l0 l1 l2 l3 l5 l6 : Value} {x : Int32} {st : List Value} : T d 47 41 [l0, l1, l2, l3, .int x, l5, l6] st h Q ↔ T d 47 43 [l0, l1, l2, l3, .int x, l5, l6] (.int x :: st) h Q := T_iload c47_41 rfl
theorem c47_43 : cod 47 43 = some (.iadd, 1) := cod_of b47 dX4_settle_43
theorem t47_43 {d : Nat} {h : Hp} {Q : Pst} {x y : Int32} {ls : List Value} {st : List Value} : T d 47 43 ls (.int y :: .int x :: st) h Q ↔ T d 47 44 ls (.int (x + y) :: st) h Q := T_iadd c47_43
theorem c47_44 : cod 47 44 = some (.invokestatic 54, 3) := cod_of b47 dX4_settle_44
theorem t47_44 {d : Nat} {h : Hp} {Q : Pst} {a0 : Nat} {a1 : Int32} {ls : List Value} : T (d + 1) 47 44 ls [.int a1, .ref a0] h Q ↔ T d 122 0 [.ref a0, .int a1] [] h (fun x h2 => T (d + 1) 47 47 ls (rl x []) h2 Q) := T_staticR (as := [.ref a0, .int a1]) (r := []) m47 m122 c47_44 k4_54 (Or.inr rfl) rfl (by decide) rfl (by simp [wrd, Value.category]) (by simp [stk, Value.category]) rfl
theorem c47_47 : cod 47 47 = some (.istore 5, 2) := cod_of b47 dX4_settle_47
theorem t47_47 {d : Nat} {h : Hp} {Q : Pst} {l0 l1 l2 l3 l4 l5 l6 : Value} {x : Int32} {st : List Value} : T d 47 47 [l0, l1, l2, l3, l4, l5, l6] (.int x :: st) h Q ↔ T d 47 49 [l0, l1, l2, l3, kil l4, .int x, l6] st h Q := T_istore c47_47 (Nat.le_of_ble_eq_true rfl)
theorem c47_49 : cod 47 49 = some (.iload 5, 2) := cod_of b47 dX4_settle_49
theorem t47_49 {d : Nat} {h : Hp} {Q : Pst} {l0 l1 l2 l3 l4 l6 : Value} {x : Int32} {st : List Value} : T d 47 49 [l0, l1, l2, l3, l4, .int x, l6] st h Q ↔ T d 47 51 [l0, l1, l2, l3, l4, .int x, l6] (.int x :: st) h Q := T_iload c47_49 rfl
theorem c47_51 : cod 47 51 = some (.ifCond .le 66, 3) := cod_of b47 dX4_settle_51
theorem t47_51 {d : Nat} {h : Hp} {Q : Pst} {x : Int32} {ls : List Value} {st : List Value} : T d 47 51 ls (.int x :: st) h Q ↔ (if x ≤ 0 then T d 47 117 ls st h Q else T d 47 54 ls st h Q) := T_if_le c47_51 (by decide)
theorem c47_54 : cod 47 54 = some (.aload_n 0, 1) := cod_of b47 dX4_settle_54
theorem t47_54 {d : Nat} {h : Hp} {Q : Pst} {l1 l2 l3 l4 l5 l6 : Value} {x : Nat} {st : List Value} : T d 47 54 [.ref x, l1, l2, l3, l4, l5, l6] st h Q ↔ T d 47 55 [.ref x, l1, l2, l3, l4, l5, l6] (.ref x :: st) h Q := T_aload_n c47_54 rfl
theorem c47_55 : cod 47 55 = some (.getfield 15, 3) := cod_of b47 dX4_settle_55
theorem t47_55 {d : Nat} {h : Hp} {Q : Pst} {a : Nat} {ls : List Value} {st : List Value} : T d 47 55 ls (.ref a :: st) h Q ↔ gF (h.2.2 a) 4 1 (fun v => T d 47 58 ls (v :: st) h Q) := T_getfieldR m47 c47_55 f4_15
theorem c47_58 : cod 47 58 = some (.iload 4, 2) := cod_of b47 dX4_settle_58
theorem t47_58 {d : Nat} {h : Hp} {Q : Pst} {l0 l1 l2 l3 l5 l6 : Value} {x : Int32} {st : List Value} : T d 47 58 [l0, l1, l2, l3, .int x, l5, l6] st h Q ↔ T d 47 60 [l0, l1, l2, l3, .int x, l5, l6] (.int x :: st) h Q := T_iload c47_58 rfl
theorem c47_60 : cod 47 60 = some (.invokestatic 54, 3) := cod_of b47 dX4_settle_60
theorem t47_60 {d : Nat} {h : Hp} {Q : Pst} {a0 : Nat} {a1 : Int32} {ls : List Value} : T (d + 1) 47 60 ls [.int a1, .ref a0] h Q ↔ T d 122 0 [.ref a0, .int a1] [] h (fun x h2 => T (d + 1) 47 63 ls (rl x []) h2 Q) := T_staticR (as := [.ref a0, .int a1]) (r := []) m47 m122 c47_60 k4_54 (Or.inr rfl) rfl (by decide) rfl (by simp [wrd, Value.category]) (by simp [stk, Value.category]) rfl
theorem c47_63 : cod 47 63 = some (.istore 6, 2) := cod_of b47 dX4_settle_63
theorem t47_63 {d : Nat} {h : Hp} {Q : Pst} {l0 l1 l2 l3 l4 l5 l6 : Value} {x : Int32} {st : List Value} : T d 47 63 [l0, l1, l2, l3, l4, l5, l6] (.int x :: st) h Q ↔ T d 47 65 [l0, l1, l2, l3, l4, kil l5, .int x] st h Q := T_istore c47_63 (Nat.le_of_ble_eq_true rfl)
theorem c47_65 : cod 47 65 = some (.iconst 1, 1) := cod_of b47 dX4_settle_65
theorem t47_65 {d : Nat} {h : Hp} {Q : Pst} {ls : List Value} {st : List Value} : T d 47 65 ls st h Q ↔ T d 47 66 ls (.int 1 :: st) h Q := T_iconstV c47_65 (by decide)
theorem c47_66 : cod 47 66 = some (.istore_n 3, 1) := cod_of b47 dX4_settle_66
theorem t47_66 {d : Nat} {h : Hp} {Q : Pst} {l0 l1 l2 l3 l4 l5 l6 : Value} {x : Int32} {st : List Value} : T d 47 66 [l0, l1, l2, l3, l4, l5, l6] (.int x :: st) h Q ↔ T d 47 67 [l0, l1, kil l2, .int x, l4, l5, l6] st h Q := T_istore_n c47_66 (Nat.le_of_ble_eq_true rfl)
theorem c47_67 : cod 47 67 = some (.aload_n 0, 1) := cod_of b47 dX4_settle_67
theorem t47_67 {d : Nat} {h : Hp} {Q : Pst} {l1 l2 l3 l4 l5 l6 : Value} {x : Nat} {st : List Value} : T d 47 67 [.ref x, l1, l2, l3, l4, l5, l6] st h Q ↔ T d 47 68 [.ref x, l1, l2, l3, l4, l5, l6] (.ref x :: st) h Q := T_aload_n c47_67 rfl
theorem c47_68 : cod 47 68 = some (.getfield 18, 3) := cod_of b47 dX4_settle_68
theorem t47_68 {d : Nat} {h : Hp} {Q : Pst} {a : Nat} {ls : List Value} {st : List Value} : T d 47 68 ls (.ref a :: st) h Q ↔ gF (h.2.2 a) 4 2 (fun v => T d 47 71 ls (v :: st) h Q) := T_getfieldR m47 c47_68 f4_18
theorem c47_71 : cod 47 71 = some (.iload_n 1, 1) := cod_of b47 dX4_settle_71
theorem t47_71 {d : Nat} {h : Hp} {Q : Pst} {l0 l2 l3 l4 l5 l6 : Value} {x : Int32} {st : List Value} : T d 47 71 [l0, .int x, l2, l3, l4, l5, l6] st h Q ↔ T d 47 72 [l0, .int x, l2, l3, l4, l5, l6] (.int x :: st) h Q := T_iload_n c47_71 rfl
theorem c47_72 : cod 47 72 = some (.iload 4, 2) := cod_of b47 dX4_settle_72
theorem t47_72 {d : Nat} {h : Hp} {Q : Pst} {l0 l1 l2 l3 l5 l6 : Value} {x : Int32} {st : List Value} : T d 47 72 [l0, l1, l2, l3, .int x, l5, l6] st h Q ↔ T d 47 74 [l0, l1, l2, l3, .int x, l5, l6] (.int x :: st) h Q := T_iload c47_72 rfl
theorem c47_74 : cod 47 74 = some (.invokestatic 42, 3) := cod_of b47 dX4_settle_74
theorem t47_74 {d : Nat} {h : Hp} {Q : Pst} {a0 : Nat} {a1 a2 : Int32} {ls : List Value} : T (d + 1) 47 74 ls [.int a2, .int a1, .ref a0] h Q ↔ T d 123 0 [.ref a0, .int a1, .int a2] [] h (fun x h2 => T (d + 1) 47 77 ls (rl x []) h2 Q) := T_staticR (as := [.ref a0, .int a1, .int a2]) (r := []) m47 m123 c47_74 k4_42 (Or.inr rfl) rfl (by decide) rfl (by simp [wrd, Value.category]) (by simp [stk, Value.category]) rfl
theorem c47_77 : cod 47 77 = some (.aload_n 0, 1) := cod_of b47 dX4_settle_77
theorem t47_77 {d : Nat} {h : Hp} {Q : Pst} {l1 l2 l3 l4 l5 l6 : Value} {x : Nat} {st : List Value} : T d 47 77 [.ref x, l1, l2, l3, l4, l5, l6] st h Q ↔ T d 47 78 [.ref x, l1, l2, l3, l4, l5, l6] (.ref x :: st) h Q := T_aload_n c47_77 rfl
theorem c47_78 : cod 47 78 = some (.getfield 15, 3) := cod_of b47 dX4_settle_78
theorem t47_78 {d : Nat} {h : Hp} {Q : Pst} {a : Nat} {ls : List Value} {st : List Value} : T d 47 78 ls (.ref a :: st) h Q ↔ gF (h.2.2 a) 4 1 (fun v => T d 47 81 ls (v :: st) h Q) := T_getfieldR m47 c47_78 f4_15
theorem c47_81 : cod 47 81 = some (.iload 4, 2) := cod_of b47 dX4_settle_81
theorem t47_81 {d : Nat} {h : Hp} {Q : Pst} {l0 l1 l2 l3 l5 l6 : Value} {x : Int32} {st : List Value} : T d 47 81 [l0, l1, l2, l3, .int x, l5, l6] st h Q ↔ T d 47 83 [l0, l1, l2, l3, .int x, l5, l6] (.int x :: st) h Q := T_iload c47_81 rfl
theorem c47_83 : cod 47 83 = some (.iload 6, 2) := cod_of b47 dX4_settle_83
theorem t47_83 {d : Nat} {h : Hp} {Q : Pst} {l0 l1 l2 l3 l4 l5 : Value} {x : Int32} {st : List Value} : T d 47 83 [l0, l1, l2, l3, l4, l5, .int x] st h Q ↔ T d 47 85 [l0, l1, l2, l3, l4, l5, .int x] (.int x :: st) h Q := T_iload c47_83 rfl
theorem c47_85 : cod 47 85 = some (.iconst 1, 1) := cod_of b47 dX4_settle_85
theorem t47_85 {d : Nat} {h : Hp} {Q : Pst} {ls : List Value} {st : List Value} : T d 47 85 ls st h Q ↔ T d 47 86 ls (.int 1 :: st) h Q := T_iconstV c47_85 (by decide)
theorem c47_86 : cod 47 86 = some (.iadd, 1) := cod_of b47 dX4_settle_86
theorem t47_86 {d : Nat} {h : Hp} {Q : Pst} {x y : Int32} {ls : List Value} {st : List Value} : T d 47 86 ls (.int y :: .int x :: st) h Q ↔ T d 47 87 ls (.int (x + y) :: st) h Q := T_iadd c47_86
theorem c47_87 : cod 47 87 = some (.invokestatic 42, 3) := cod_of b47 dX4_settle_87
theorem t47_87 {d : Nat} {h : Hp} {Q : Pst} {a0 : Nat} {a1 a2 : Int32} {ls : List Value} : T (d + 1) 47 87 ls [.int a2, .int a1, .ref a0] h Q ↔ T d 123 0 [.ref a0, .int a1, .int a2] [] h (fun x h2 => T (d + 1) 47 90 ls (rl x []) h2 Q) := T_staticR (as := [.ref a0, .int a1, .int a2]) (r := []) m47 m123 c47_87 k4_42 (Or.inr rfl) rfl (by decide) rfl (by simp [wrd, Value.category]) (by simp [stk, Value.category]) rfl
theorem c47_90 : cod 47 90 = some (.aload_n 0, 1) := cod_of b47 dX4_settle_90
theorem t47_90 {d : Nat} {h : Hp} {Q : Pst} {l1 l2 l3 l4 l5 l6 : Value} {x : Nat} {st : List Value} : T d 47 90 [.ref x, l1, l2, l3, l4, l5, l6] st h Q ↔ T d 47 91 [.ref x, l1, l2, l3, l4, l5, l6] (.ref x :: st) h Q := T_aload_n c47_90 rfl
theorem c47_91 : cod 47 91 = some (.iload_n 1, 1) := cod_of b47 dX4_settle_91
theorem t47_91 {d : Nat} {h : Hp} {Q : Pst} {l0 l2 l3 l4 l5 l6 : Value} {x : Int32} {st : List Value} : T d 47 91 [l0, .int x, l2, l3, l4, l5, l6] st h Q ↔ T d 47 92 [l0, .int x, l2, l3, l4, l5, l6] (.int x :: st) h Q := T_iload_n c47_91 rfl
theorem c47_92 : cod 47 92 = some (.iconst 1, 1) := cod_of b47 dX4_settle_92
theorem t47_92 {d : Nat} {h : Hp} {Q : Pst} {ls : List Value} {st : List Value} : T d 47 92 ls st h Q ↔ T d 47 93 ls (.int 1 :: st) h Q := T_iconstV c47_92 (by decide)
theorem c47_93 : cod 47 93 = some (.iadd, 1) := cod_of b47 dX4_settle_93
theorem t47_93 {d : Nat} {h : Hp} {Q : Pst} {x y : Int32} {ls : List Value} {st : List Value} : T d 47 93 ls (.int y :: .int x :: st) h Q ↔ T d 47 94 ls (.int (x + y) :: st) h Q := T_iadd c47_93
theorem c47_94 : cod 47 94 = some (.iload_n 2, 1) := cod_of b47 dX4_settle_94
theorem t47_94 {d : Nat} {h : Hp} {Q : Pst} {l0 l1 l3 l4 l5 l6 : Value} {x : Int32} {st : List Value} : T d 47 94 [l0, l1, .int x, l3, l4, l5, l6] st h Q ↔ T d 47 95 [l0, l1, .int x, l3, l4, l5, l6] (.int x :: st) h Q := T_iload_n c47_94 rfl
theorem c47_95 : cod 47 95 = some (.iload 5, 2) := cod_of b47 dX4_settle_95
theorem t47_95 {d : Nat} {h : Hp} {Q : Pst} {l0 l1 l2 l3 l4 l6 : Value} {x : Int32} {st : List Value} : T d 47 95 [l0, l1, l2, l3, l4, .int x, l6] st h Q ↔ T d 47 97 [l0, l1, l2, l3, l4, .int x, l6] (.int x :: st) h Q := T_iload c47_95 rfl
theorem c47_97 : cod 47 97 = some (.iadd, 1) := cod_of b47 dX4_settle_97
theorem t47_97 {d : Nat} {h : Hp} {Q : Pst} {x y : Int32} {ls : List Value} {st : List Value} : T d 47 97 ls (.int y :: .int x :: st) h Q ↔ T d 47 98 ls (.int (x + y) :: st) h Q := T_iadd c47_97
theorem c47_98 : cod 47 98 = some (.iconst 2, 1) := cod_of b47 dX4_settle_98
theorem t47_98 {d : Nat} {h : Hp} {Q : Pst} {ls : List Value} {st : List Value} : T d 47 98 ls st h Q ↔ T d 47 99 ls (.int 2 :: st) h Q := T_iconstV c47_98 (by decide)
theorem c47_99 : cod 47 99 = some (.iload 6, 2) := cod_of b47 dX4_settle_99
theorem t47_99 {d : Nat} {h : Hp} {Q : Pst} {l0 l1 l2 l3 l4 l5 : Value} {x : Int32} {st : List Value} : T d 47 99 [l0, l1, l2, l3, l4, l5, .int x] st h Q ↔ T d 47 101 [l0, l1, l2, l3, l4, l5, .int x] (.int x :: st) h Q := T_iload c47_99 rfl
theorem c47_101 : cod 47 101 = some (.imul, 1) := cod_of b47 dX4_settle_101
theorem t47_101 {d : Nat} {h : Hp} {Q : Pst} {x y : Int32} {ls : List Value} {st : List Value} : T d 47 101 ls (.int y :: .int x :: st) h Q ↔ T d 47 102 ls (.int (x * y) :: st) h Q := T_imul c47_101
theorem c47_102 : cod 47 102 = some (.iadd, 1) := cod_of b47 dX4_settle_102
theorem t47_102 {d : Nat} {h : Hp} {Q : Pst} {x y : Int32} {ls : List Value} {st : List Value} : T d 47 102 ls (.int y :: .int x :: st) h Q ↔ T d 47 103 ls (.int (x + y) :: st) h Q := T_iadd c47_102
theorem c47_103 : cod 47 103 = some (.invokestatic 46, 3) := cod_of b47 dX4_settle_103
theorem t47_103 {d : Nat} {h : Hp} {Q : Pst} {a0 : Nat} {a1 a2 : Int32} {ls : List Value} : T (d + 1) 47 103 ls [.int a2, .int a1, .ref a0] h Q ↔ T d 47 0 [.ref a0, .int a1, .int a2, un, un, un, un] [] h (fun x h2 => T (d + 1) 47 106 ls (rl x []) h2 Q) := T_staticR (as := [.ref a0, .int a1, .int a2]) (r := []) m47 m47 c47_103 k4_46 (Or.inl rfl) rfl (by decide) rfl (by simp [wrd, Value.category]) (by simp [stk, Value.category]) rfl
theorem c47_106 : cod 47 106 = some (.aload_n 0, 1) := cod_of b47 dX4_settle_106
theorem t47_106 {d : Nat} {h : Hp} {Q : Pst} {l1 l2 l3 l4 l5 l6 : Value} {x : Nat} {st : List Value} : T d 47 106 [.ref x, l1, l2, l3, l4, l5, l6] st h Q ↔ T d 47 107 [.ref x, l1, l2, l3, l4, l5, l6] (.ref x :: st) h Q := T_aload_n c47_106 rfl
theorem c47_107 : cod 47 107 = some (.getfield 15, 3) := cod_of b47 dX4_settle_107
theorem t47_107 {d : Nat} {h : Hp} {Q : Pst} {a : Nat} {ls : List Value} {st : List Value} : T d 47 107 ls (.ref a :: st) h Q ↔ gF (h.2.2 a) 4 1 (fun v => T d 47 110 ls (v :: st) h Q) := T_getfieldR m47 c47_107 f4_15
theorem c47_110 : cod 47 110 = some (.iload 4, 2) := cod_of b47 dX4_settle_110
theorem t47_110 {d : Nat} {h : Hp} {Q : Pst} {l0 l1 l2 l3 l5 l6 : Value} {x : Int32} {st : List Value} : T d 47 110 [l0, l1, l2, l3, .int x, l5, l6] st h Q ↔ T d 47 112 [l0, l1, l2, l3, .int x, l5, l6] (.int x :: st) h Q := T_iload c47_110 rfl
theorem c47_112 : cod 47 112 = some (.iload 6, 2) := cod_of b47 dX4_settle_112
theorem t47_112 {d : Nat} {h : Hp} {Q : Pst} {l0 l1 l2 l3 l4 l5 : Value} {x : Int32} {st : List Value} : T d 47 112 [l0, l1, l2, l3, l4, l5, .int x] st h Q ↔ T d 47 114 [l0, l1, l2, l3, l4, l5, .int x] (.int x :: st) h Q := T_iload c47_112 rfl
theorem c47_114 : cod 47 114 = some (.invokestatic 42, 3) := cod_of b47 dX4_settle_114
theorem t47_114 {d : Nat} {h : Hp} {Q : Pst} {a0 : Nat} {a1 a2 : Int32} {ls : List Value} : T (d + 1) 47 114 ls [.int a2, .int a1, .ref a0] h Q ↔ T d 123 0 [.ref a0, .int a1, .int a2] [] h (fun x h2 => T (d + 1) 47 117 ls (rl x []) h2 Q) := T_staticR (as := [.ref a0, .int a1, .int a2]) (r := []) m47 m123 c47_114 k4_42 (Or.inr rfl) rfl (by decide) rfl (by simp [wrd, Value.category]) (by simp [stk, Value.category]) rfl
theorem c47_117 : cod 47 117 = some (.iinc 4 1, 3) := cod_of b47 dX4_settle_117
theorem t47_117 {d : Nat} {h : Hp} {Q : Pst} {l0 l1 l2 l3 l5 l6 : Value} {x : Int32} {st : List Value} : T d 47 117 [l0, l1, l2, l3, .int x, l5, l6] st h Q ↔ T d 47 120 [l0, l1, l2, kil l3, .int (x + 1), l5, l6] st h Q := T_iincV c47_117 rfl (Nat.le_of_ble_eq_true rfl) (by decide) rfl
theorem c47_120 : cod 47 120 = some (.goto (-95), 3) := cod_of b47 dX4_settle_120
theorem t47_120 {d : Nat} {h : Hp} {Q : Pst} {ls : List Value} {st : List Value} : T d 47 120 ls st h Q ↔ T d 47 25 ls st h Q := T_goto c47_120 (by decide)
theorem c47_123 : cod 47 123 = some (.iload_n 3, 1) := cod_of b47 dX4_settle_123
theorem t47_123 {d : Nat} {h : Hp} {Q : Pst} {l0 l1 l2 l4 l5 l6 : Value} {x : Int32} {st : List Value} : T d 47 123 [l0, l1, l2, .int x, l4, l5, l6] st h Q ↔ T d 47 124 [l0, l1, l2, .int x, l4, l5, l6] (.int x :: st) h Q := T_iload_n c47_123 rfl
theorem c47_124 : cod 47 124 = some (.ifCond .ne 20, 3) := cod_of b47 dX4_settle_124
theorem t47_124 {d : Nat} {h : Hp} {Q : Pst} {x : Int32} {ls : List Value} {st : List Value} : T d 47 124 ls (.int x :: st) h Q ↔ (if ¬ x = 0 then T d 47 144 ls st h Q else T d 47 127 ls st h Q) := T_if_ne c47_124 (by decide)
theorem c47_127 : cod 47 127 = some (.aload_n 0, 1) := cod_of b47 dX4_settle_127
theorem t47_127 {d : Nat} {h : Hp} {Q : Pst} {l1 l2 l3 l4 l5 l6 : Value} {x : Nat} {st : List Value} : T d 47 127 [.ref x, l1, l2, l3, l4, l5, l6] st h Q ↔ T d 47 128 [.ref x, l1, l2, l3, l4, l5, l6] (.ref x :: st) h Q := T_aload_n c47_127 rfl
theorem c47_128 : cod 47 128 = some (.getfield 18, 3) := cod_of b47 dX4_settle_128
theorem t47_128 {d : Nat} {h : Hp} {Q : Pst} {a : Nat} {ls : List Value} {st : List Value} : T d 47 128 ls (.ref a :: st) h Q ↔ gF (h.2.2 a) 4 2 (fun v => T d 47 131 ls (v :: st) h Q) := T_getfieldR m47 c47_128 f4_18
theorem c47_131 : cod 47 131 = some (.iload_n 1, 1) := cod_of b47 dX4_settle_131
theorem t47_131 {d : Nat} {h : Hp} {Q : Pst} {l0 l2 l3 l4 l5 l6 : Value} {x : Int32} {st : List Value} : T d 47 131 [l0, .int x, l2, l3, l4, l5, l6] st h Q ↔ T d 47 132 [l0, .int x, l2, l3, l4, l5, l6] (.int x :: st) h Q := T_iload_n c47_131 rfl
theorem c47_132 : cod 47 132 = some (.iconst (-1), 1) := cod_of b47 dX4_settle_132
theorem t47_132 {d : Nat} {h : Hp} {Q : Pst} {ls : List Value} {st : List Value} : T d 47 132 ls st h Q ↔ T d 47 133 ls (.int (-1) :: st) h Q := T_iconstV c47_132 (by decide)
theorem c47_133 : cod 47 133 = some (.invokestatic 42, 3) := cod_of b47 dX4_settle_133
theorem t47_133 {d : Nat} {h : Hp} {Q : Pst} {a0 : Nat} {a1 a2 : Int32} {ls : List Value} : T (d + 1) 47 133 ls [.int a2, .int a1, .ref a0] h Q ↔ T d 123 0 [.ref a0, .int a1, .int a2] [] h (fun x h2 => T (d + 1) 47 136 ls (rl x []) h2 Q) := T_staticR (as := [.ref a0, .int a1, .int a2]) (r := []) m47 m123 c47_133 k4_42 (Or.inr rfl) rfl (by decide) rfl (by simp [wrd, Value.category]) (by simp [stk, Value.category]) rfl
theorem c47_136 : cod 47 136 = some (.aload_n 0, 1) := cod_of b47 dX4_settle_136
theorem t47_136 {d : Nat} {h : Hp} {Q : Pst} {l1 l2 l3 l4 l5 l6 : Value} {x : Nat} {st : List Value} : T d 47 136 [.ref x, l1, l2, l3, l4, l5, l6] st h Q ↔ T d 47 137 [.ref x, l1, l2, l3, l4, l5, l6] (.ref x :: st) h Q := T_aload_n c47_136 rfl
theorem c47_137 : cod 47 137 = some (.iload_n 1, 1) := cod_of b47 dX4_settle_137
theorem t47_137 {d : Nat} {h : Hp} {Q : Pst} {l0 l2 l3 l4 l5 l6 : Value} {x : Int32} {st : List Value} : T d 47 137 [l0, .int x, l2, l3, l4, l5, l6] st h Q ↔ T d 47 138 [l0, .int x, l2, l3, l4, l5, l6] (.int x :: st) h Q := T_iload_n c47_137 rfl
theorem c47_138 : cod 47 138 = some (.iconst 1, 1) := cod_of b47 dX4_settle_138
theorem t47_138 {d : Nat} {h : Hp} {Q : Pst} {ls : List Value} {st : List Value} : T d 47 138 ls st h Q ↔ T d 47 139 ls (.int 1 :: st) h Q := T_iconstV c47_138 (by decide)
theorem c47_139 : cod 47 139 = some (.iadd, 1) := cod_of b47 dX4_settle_139
theorem t47_139 {d : Nat} {h : Hp} {Q : Pst} {x y : Int32} {ls : List Value} {st : List Value} : T d 47 139 ls (.int y :: .int x :: st) h Q ↔ T d 47 140 ls (.int (x + y) :: st) h Q := T_iadd c47_139
theorem c47_140 : cod 47 140 = some (.iload_n 2, 1) := cod_of b47 dX4_settle_140
theorem t47_140 {d : Nat} {h : Hp} {Q : Pst} {l0 l1 l3 l4 l5 l6 : Value} {x : Int32} {st : List Value} : T d 47 140 [l0, l1, .int x, l3, l4, l5, l6] st h Q ↔ T d 47 141 [l0, l1, .int x, l3, l4, l5, l6] (.int x :: st) h Q := T_iload_n c47_140 rfl
theorem c47_141 : cod 47 141 = some (.invokestatic 46, 3) := cod_of b47 dX4_settle_141
theorem t47_141 {d : Nat} {h : Hp} {Q : Pst} {a0 : Nat} {a1 a2 : Int32} {ls : List Value} : T (d + 1) 47 141 ls [.int a2, .int a1, .ref a0] h Q ↔ T d 47 0 [.ref a0, .int a1, .int a2, un, un, un, un] [] h (fun x h2 => T (d + 1) 47 144 ls (rl x []) h2 Q) := T_staticR (as := [.ref a0, .int a1, .int a2]) (r := []) m47 m47 c47_141 k4_46 (Or.inl rfl) rfl (by decide) rfl (by simp [wrd, Value.category]) (by simp [stk, Value.category]) rfl
theorem c47_144 : cod 47 144 = some (.return_, 1) := cod_of b47 dX4_settle_144
theorem t47_144 {d : Nat} {h : Hp} {Q : Pst} {ls : List Value} : T d 47 144 ls [] h Q ↔ Q none h := T_retR m47 c47_144 rfl
theorem c47_14 : cod 47 14 = some (.aload_n 0, 1) := cod_of b47 dX4_settle_14
theorem t47_14 {d : Nat} {h : Hp} {Q : Pst} {l1 l2 l3 l4 l5 l6 : Value} {x : Nat} {st : List Value} : T d 47 14 [.ref x, l1, l2, l3, l4, l5, l6] st h Q ↔ T d 47 15 [.ref x, l1, l2, l3, l4, l5, l6] (.ref x :: st) h Q := T_aload_n c47_14 rfl
theorem c47_15 : cod 47 15 = some (.iload_n 2, 1) := cod_of b47 dX4_settle_15
theorem t47_15 {d : Nat} {h : Hp} {Q : Pst} {l0 l1 l3 l4 l5 l6 : Value} {x : Int32} {st : List Value} : T d 47 15 [l0, l1, .int x, l3, l4, l5, l6] st h Q ↔ T d 47 16 [l0, l1, .int x, l3, l4, l5, l6] (.int x :: st) h Q := T_iload_n c47_15 rfl
theorem c47_16 : cod 47 16 = some (.invokevirtual 50, 3) := cod_of b47 dX4_settle_16
theorem t47_16 {d : Nat} {h : Hp} {Q : Pst} {a0 : Int32} {a : Nat} {ls : List Value} (ho : isO (h.2.2 a) 4) : T (d + 1) 47 16 ls [.int a0, .ref a] h Q ↔ T d 48 0 [.ref a, .int a0] [] h (fun x h2 => T (d + 1) 47 19 ls (rl x []) h2 Q) := T_virtualR (as := [.int a0]) (r := []) m47 m48 c47_16 k4_50  rfl (by decide) rfl (by simp [wrd, Value.category]) (by simp [stk, Value.category]) rfl (by decide +kernel) ho
theorem c47_19 : cod 47 19 = some (.return_, 1) := cod_of b47 dX4_settle_19
theorem t47_19 {d : Nat} {h : Hp} {Q : Pst} {ls : List Value} : T d 47 19 ls [] h Q ↔ Q none h := T_retR m47 c47_19 rfl
theorem b48 : (mR 48).2.2.1 = cX4_keepIfMore := by rw [m48]
theorem c48_0 : cod 48 0 = some (.iload_n 1, 1) := cod_of b48 dX4_keepIfMore_0
theorem t48_0 {d : Nat} {h : Hp} {Q : Pst} {l0 : Value} {x : Int32} {st : List Value} : T d 48 0 [l0, .int x] st h Q ↔ T d 48 1 [l0, .int x] (.int x :: st) h Q := T_iload_n c48_0 rfl
theorem c48_1 : cod 48 1 = some (.aload_n 0, 1) := cod_of b48 dX4_keepIfMore_1
theorem t48_1 {d : Nat} {h : Hp} {Q : Pst} {l1 : Value} {x : Nat} {st : List Value} : T d 48 1 [.ref x, l1] st h Q ↔ T d 48 2 [.ref x, l1] (.ref x :: st) h Q := T_aload_n c48_1 rfl
theorem c48_2 : cod 48 2 = some (.getfield 31, 3) := cod_of b48 dX4_keepIfMore_2
theorem t48_2 {d : Nat} {h : Hp} {Q : Pst} {a : Nat} {ls : List Value} {st : List Value} : T d 48 2 ls (.ref a :: st) h Q ↔ gF (h.2.2 a) 4 6 (fun v => T d 48 5 ls (v :: st) h Q) := T_getfieldR m48 c48_2 f4_31
theorem c48_5 : cod 48 5 = some (.if_icmp .le 19, 3) := cod_of b48 dX4_keepIfMore_5
theorem t48_5 {d : Nat} {h : Hp} {Q : Pst} {x y : Int32} {ls : List Value} {st : List Value} : T d 48 5 ls (.int y :: .int x :: st) h Q ↔ (if x ≤ y then T d 48 24 ls st h Q else T d 48 8 ls st h Q) := T_icmp_le c48_5 (by decide)
theorem c48_8 : cod 48 8 = some (.aload_n 0, 1) := cod_of b48 dX4_keepIfMore_8
theorem t48_8 {d : Nat} {h : Hp} {Q : Pst} {l1 : Value} {x : Nat} {st : List Value} : T d 48 8 [.ref x, l1] st h Q ↔ T d 48 9 [.ref x, l1] (.ref x :: st) h Q := T_aload_n c48_8 rfl
theorem c48_9 : cod 48 9 = some (.iload_n 1, 1) := cod_of b48 dX4_keepIfMore_9
theorem t48_9 {d : Nat} {h : Hp} {Q : Pst} {l0 : Value} {x : Int32} {st : List Value} : T d 48 9 [l0, .int x] st h Q ↔ T d 48 10 [l0, .int x] (.int x :: st) h Q := T_iload_n c48_9 rfl
theorem c48_10 : cod 48 10 = some (.putfield 31, 3) := cod_of b48 dX4_keepIfMore_10
theorem t48_10 {d : Nat} {h : Hp} {Q : Pst} {a : Nat} {x : Int32} {ls : List Value} {st : List Value} : T d 48 10 ls (.int x :: .ref a :: st) h Q ↔ pF (h.2.2 a) 4 6 (.int x) (fun cell => T d 48 13 ls st (hup h a cell) Q) := T_putfieldR m48 c48_10 f4_31 (by decide +kernel)
theorem c48_13 : cod 48 13 = some (.aload_n 0, 1) := cod_of b48 dX4_keepIfMore_13
theorem t48_13 {d : Nat} {h : Hp} {Q : Pst} {l1 : Value} {x : Nat} {st : List Value} : T d 48 13 [.ref x, l1] st h Q ↔ T d 48 14 [.ref x, l1] (.ref x :: st) h Q := T_aload_n c48_13 rfl
theorem c48_14 : cod 48 14 = some (.getfield 18, 3) := cod_of b48 dX4_keepIfMore_14
theorem t48_14 {d : Nat} {h : Hp} {Q : Pst} {a : Nat} {ls : List Value} {st : List Value} : T d 48 14 ls (.ref a :: st) h Q ↔ gF (h.2.2 a) 4 2 (fun v => T d 48 17 ls (v :: st) h Q) := T_getfieldR m48 c48_14 f4_18
theorem c48_17 : cod 48 17 = some (.aload_n 0, 1) := cod_of b48 dX4_keepIfMore_17
theorem t48_17 {d : Nat} {h : Hp} {Q : Pst} {l1 : Value} {x : Nat} {st : List Value} : T d 48 17 [.ref x, l1] st h Q ↔ T d 48 18 [.ref x, l1] (.ref x :: st) h Q := T_aload_n c48_17 rfl
theorem c48_18 : cod 48 18 = some (.getfield 21, 3) := cod_of b48 dX4_keepIfMore_18
theorem t48_18 {d : Nat} {h : Hp} {Q : Pst} {a : Nat} {ls : List Value} {st : List Value} : T d 48 18 ls (.ref a :: st) h Q ↔ gF (h.2.2 a) 4 3 (fun v => T d 48 21 ls (v :: st) h Q) := T_getfieldR m48 c48_18 f4_21
theorem c48_21 : cod 48 21 = some (.invokestatic 58, 3) := cod_of b48 dX4_keepIfMore_21
theorem t48_21 {d : Nat} {h : Hp} {Q : Pst} {a0 a1 : Nat} {ls : List Value} : T (d + 1) 48 21 ls [.ref a1, .ref a0] h Q ↔ T d 124 0 [.ref a0, .ref a1] [] h (fun x h2 => T (d + 1) 48 24 ls (rl x []) h2 Q) := T_staticR (as := [.ref a0, .ref a1]) (r := []) m48 m124 c48_21 k4_58 (Or.inr rfl) rfl (by decide) rfl (by simp [wrd, Value.category]) (by simp [stk, Value.category]) rfl
theorem c48_24 : cod 48 24 = some (.return_, 1) := cod_of b48 dX4_keepIfMore_24
theorem t48_24 {d : Nat} {h : Hp} {Q : Pst} {ls : List Value} : T d 48 24 ls [] h Q ↔ Q none h := T_retR m48 c48_24 rfl
theorem b49 : (mR 49).2.2.1 = cX5_partSize := by rw [m49]
theorem c49_0 : cod 49 0 = some (.iload_n 1, 1) := cod_of b49 dX5_partSize_0
theorem t49_0 {d : Nat} {h : Hp} {Q : Pst} {l0 l2 l3 l4 l5 : Value} {x : Int32} {st : List Value} : T d 49 0 [l0, .int x, l2, l3, l4, l5] st h Q ↔ T d 49 1 [l0, .int x, l2, l3, l4, l5] (.int x :: st) h Q := T_iload_n c49_0 rfl
theorem c49_1 : cod 49 1 = some (.istore_n 3, 1) := cod_of b49 dX5_partSize_1
theorem t49_1 {d : Nat} {h : Hp} {Q : Pst} {l0 l1 l2 l3 l4 l5 : Value} {x : Int32} {st : List Value} : T d 49 1 [l0, l1, l2, l3, l4, l5] (.int x :: st) h Q ↔ T d 49 2 [l0, l1, kil l2, .int x, l4, l5] st h Q := T_istore_n c49_1 (Nat.le_of_ble_eq_true rfl)
theorem c49_2 : cod 49 2 = some (.iload_n 3, 1) := cod_of b49 dX5_partSize_2
theorem t49_2 {d : Nat} {h : Hp} {Q : Pst} {l0 l1 l2 l4 l5 : Value} {x : Int32} {st : List Value} : T d 49 2 [l0, l1, l2, .int x, l4, l5] st h Q ↔ T d 49 3 [l0, l1, l2, .int x, l4, l5] (.int x :: st) h Q := T_iload_n c49_2 rfl
theorem c49_3 : cod 49 3 = some (.iconst 2, 1) := cod_of b49 dX5_partSize_3
theorem t49_3 {d : Nat} {h : Hp} {Q : Pst} {ls : List Value} {st : List Value} : T d 49 3 ls st h Q ↔ T d 49 4 ls (.int 2 :: st) h Q := T_iconstV c49_3 (by decide)
theorem c49_4 : cod 49 4 = some (.iload_n 2, 1) := cod_of b49 dX5_partSize_4
theorem t49_4 {d : Nat} {h : Hp} {Q : Pst} {l0 l1 l3 l4 l5 : Value} {x : Int32} {st : List Value} : T d 49 4 [l0, l1, .int x, l3, l4, l5] st h Q ↔ T d 49 5 [l0, l1, .int x, l3, l4, l5] (.int x :: st) h Q := T_iload_n c49_4 rfl
theorem c49_5 : cod 49 5 = some (.imul, 1) := cod_of b49 dX5_partSize_5
theorem t49_5 {d : Nat} {h : Hp} {Q : Pst} {x y : Int32} {ls : List Value} {st : List Value} : T d 49 5 ls (.int y :: .int x :: st) h Q ↔ T d 49 6 ls (.int (x * y) :: st) h Q := T_imul c49_5
theorem c49_6 : cod 49 6 = some (.if_icmp .le 11, 3) := cod_of b49 dX5_partSize_6
theorem t49_6 {d : Nat} {h : Hp} {Q : Pst} {x y : Int32} {ls : List Value} {st : List Value} : T d 49 6 ls (.int y :: .int x :: st) h Q ↔ (if x ≤ y then T d 49 17 ls st h Q else T d 49 9 ls st h Q) := T_icmp_le c49_6 (by decide)
theorem c49_9 : cod 49 9 = some (.iload_n 3, 1) := cod_of b49 dX5_partSize_9
theorem t49_9 {d : Nat} {h : Hp} {Q : Pst} {l0 l1 l2 l4 l5 : Value} {x : Int32} {st : List Value} : T d 49 9 [l0, l1, l2, .int x, l4, l5] st h Q ↔ T d 49 10 [l0, l1, l2, .int x, l4, l5] (.int x :: st) h Q := T_iload_n c49_9 rfl
theorem c49_10 : cod 49 10 = some (.iconst 2, 1) := cod_of b49 dX5_partSize_10
theorem t49_10 {d : Nat} {h : Hp} {Q : Pst} {ls : List Value} {st : List Value} : T d 49 10 ls st h Q ↔ T d 49 11 ls (.int 2 :: st) h Q := T_iconstV c49_10 (by decide)
theorem c49_11 : cod 49 11 = some (.iload_n 2, 1) := cod_of b49 dX5_partSize_11
theorem t49_11 {d : Nat} {h : Hp} {Q : Pst} {l0 l1 l3 l4 l5 : Value} {x : Int32} {st : List Value} : T d 49 11 [l0, l1, .int x, l3, l4, l5] st h Q ↔ T d 49 12 [l0, l1, .int x, l3, l4, l5] (.int x :: st) h Q := T_iload_n c49_11 rfl
theorem c49_12 : cod 49 12 = some (.imul, 1) := cod_of b49 dX5_partSize_12
theorem t49_12 {d : Nat} {h : Hp} {Q : Pst} {x y : Int32} {ls : List Value} {st : List Value} : T d 49 12 ls (.int y :: .int x :: st) h Q ↔ T d 49 13 ls (.int (x * y) :: st) h Q := T_imul c49_12
theorem c49_13 : cod 49 13 = some (.isub, 1) := cod_of b49 dX5_partSize_13
theorem t49_13 {d : Nat} {h : Hp} {Q : Pst} {x y : Int32} {ls : List Value} {st : List Value} : T d 49 13 ls (.int y :: .int x :: st) h Q ↔ T d 49 14 ls (.int (x - y) :: st) h Q := T_isub c49_13
theorem c49_14 : cod 49 14 = some (.goto 4, 3) := cod_of b49 dX5_partSize_14
theorem t49_14 {d : Nat} {h : Hp} {Q : Pst} {ls : List Value} {st : List Value} : T d 49 14 ls st h Q ↔ T d 49 18 ls st h Q := T_goto c49_14 (by decide)
theorem c49_18 : cod 49 18 = some (.istore 4, 2) := cod_of b49 dX5_partSize_18
theorem t49_18 {d : Nat} {h : Hp} {Q : Pst} {l0 l1 l2 l3 l4 l5 : Value} {x : Int32} {st : List Value} : T d 49 18 [l0, l1, l2, l3, l4, l5] (.int x :: st) h Q ↔ T d 49 20 [l0, l1, l2, kil l3, .int x, l5] st h Q := T_istore c49_18 (Nat.le_of_ble_eq_true rfl)
theorem c49_20 : cod 49 20 = some (.iload_n 3, 1) := cod_of b49 dX5_partSize_20
theorem t49_20 {d : Nat} {h : Hp} {Q : Pst} {l0 l1 l2 l4 l5 : Value} {x : Int32} {st : List Value} : T d 49 20 [l0, l1, l2, .int x, l4, l5] st h Q ↔ T d 49 21 [l0, l1, l2, .int x, l4, l5] (.int x :: st) h Q := T_iload_n c49_20 rfl
theorem c49_21 : cod 49 21 = some (.iconst 1, 1) := cod_of b49 dX5_partSize_21
theorem t49_21 {d : Nat} {h : Hp} {Q : Pst} {ls : List Value} {st : List Value} : T d 49 21 ls st h Q ↔ T d 49 22 ls (.int 1 :: st) h Q := T_iconstV c49_21 (by decide)
theorem c49_22 : cod 49 22 = some (.iadd, 1) := cod_of b49 dX5_partSize_22
theorem t49_22 {d : Nat} {h : Hp} {Q : Pst} {x y : Int32} {ls : List Value} {st : List Value} : T d 49 22 ls (.int y :: .int x :: st) h Q ↔ T d 49 23 ls (.int (x + y) :: st) h Q := T_iadd c49_22
theorem c49_23 : cod 49 23 = some (.iconst 2, 1) := cod_of b49 dX5_partSize_23
theorem t49_23 {d : Nat} {h : Hp} {Q : Pst} {ls : List Value} {st : List Value} : T d 49 23 ls st h Q ↔ T d 49 24 ls (.int 2 :: st) h Q := T_iconstV c49_23 (by decide)
theorem c49_24 : cod 49 24 = some (.idiv, 1) := cod_of b49 dX5_partSize_24
theorem t49_24 {d : Nat} {h : Hp} {Q : Pst} {x y : Int32} {ls : List Value} {st : List Value} : T d 49 24 ls (.int y :: .int x :: st) h Q ↔ (¬ y = 0 ∧ T d 49 25 ls (.int (x / y) :: st) h Q) := T_idiv c49_24
theorem c49_25 : cod 49 25 = some (.istore 5, 2) := cod_of b49 dX5_partSize_25
theorem t49_25 {d : Nat} {h : Hp} {Q : Pst} {l0 l1 l2 l3 l4 l5 : Value} {x : Int32} {st : List Value} : T d 49 25 [l0, l1, l2, l3, l4, l5] (.int x :: st) h Q ↔ T d 49 27 [l0, l1, l2, l3, kil l4, .int x] st h Q := T_istore c49_25 (Nat.le_of_ble_eq_true rfl)
theorem c49_27 : cod 49 27 = some (.iload_n 0, 1) := cod_of b49 dX5_partSize_27
theorem t49_27 {d : Nat} {h : Hp} {Q : Pst} {l1 l2 l3 l4 l5 : Value} {x : Int32} {st : List Value} : T d 49 27 [.int x, l1, l2, l3, l4, l5] st h Q ↔ T d 49 28 [.int x, l1, l2, l3, l4, l5] (.int x :: st) h Q := T_iload_n c49_27 rfl
theorem c49_28 : cod 49 28 = some (.tableswitch 72 1 5 #[36, 39, 42, 56, 60], 36) := cod_of b49 dX5_partSize_28
theorem t49_28 {d : Nat} {h : Hp} {Q : Pst} {x : Int32} {ls : List Value} {st : List Value} : T d 49 28 ls (.int x :: st) h Q ↔ swT (fun t => T d 49 t ls st h Q) x.toInt 1 [64, 67, 70, 84, 88] 100 := T_tsw c49_28 (by decide) (by decide) (by decide)
theorem c49_100 : cod 49 100 = some (.iload_n 3, 1) := cod_of b49 dX5_partSize_100
theorem t49_100 {d : Nat} {h : Hp} {Q : Pst} {l0 l1 l2 l4 l5 : Value} {x : Int32} {st : List Value} : T d 49 100 [l0, l1, l2, .int x, l4, l5] st h Q ↔ T d 49 101 [l0, l1, l2, .int x, l4, l5] (.int x :: st) h Q := T_iload_n c49_100 rfl
theorem c49_101 : cod 49 101 = some (.ireturn, 1) := cod_of b49 dX5_partSize_101
theorem t49_101 {d : Nat} {h : Hp} {Q : Pst} {x : Int32} {ls : List Value} : T d 49 101 ls [.int x] h Q ↔ Q (some (.int x)) h := T_iretR m49 c49_101 rfl
theorem c49_88 : cod 49 88 = some (.iload_n 2, 1) := cod_of b49 dX5_partSize_88
theorem t49_88 {d : Nat} {h : Hp} {Q : Pst} {l0 l1 l3 l4 l5 : Value} {x : Int32} {st : List Value} : T d 49 88 [l0, l1, .int x, l3, l4, l5] st h Q ↔ T d 49 89 [l0, l1, .int x, l3, l4, l5] (.int x :: st) h Q := T_iload_n c49_88 rfl
theorem c49_89 : cod 49 89 = some (.iconst 2, 1) := cod_of b49 dX5_partSize_89
theorem t49_89 {d : Nat} {h : Hp} {Q : Pst} {ls : List Value} {st : List Value} : T d 49 89 ls st h Q ↔ T d 49 90 ls (.int 2 :: st) h Q := T_iconstV c49_89 (by decide)
theorem c49_90 : cod 49 90 = some (.if_icmp .lt 7, 3) := cod_of b49 dX5_partSize_90
theorem t49_90 {d : Nat} {h : Hp} {Q : Pst} {x y : Int32} {ls : List Value} {st : List Value} : T d 49 90 ls (.int y :: .int x :: st) h Q ↔ (if x < y then T d 49 97 ls st h Q else T d 49 93 ls st h Q) := T_icmp_lt c49_90 (by decide)
theorem c49_93 : cod 49 93 = some (.iconst 1, 1) := cod_of b49 dX5_partSize_93
theorem t49_93 {d : Nat} {h : Hp} {Q : Pst} {ls : List Value} {st : List Value} : T d 49 93 ls st h Q ↔ T d 49 94 ls (.int 1 :: st) h Q := T_iconstV c49_93 (by decide)
theorem c49_94 : cod 49 94 = some (.goto 5, 3) := cod_of b49 dX5_partSize_94
theorem t49_94 {d : Nat} {h : Hp} {Q : Pst} {ls : List Value} {st : List Value} : T d 49 94 ls st h Q ↔ T d 49 99 ls st h Q := T_goto c49_94 (by decide)
theorem c49_99 : cod 49 99 = some (.ireturn, 1) := cod_of b49 dX5_partSize_99
theorem t49_99 {d : Nat} {h : Hp} {Q : Pst} {x : Int32} {ls : List Value} : T d 49 99 ls [.int x] h Q ↔ Q (some (.int x)) h := T_iretR m49 c49_99 rfl
theorem c49_97 : cod 49 97 = some (.iload 5, 2) := cod_of b49 dX5_partSize_97
theorem t49_97 {d : Nat} {h : Hp} {Q : Pst} {l0 l1 l2 l3 l4 : Value} {x : Int32} {st : List Value} : T d 49 97 [l0, l1, l2, l3, l4, .int x] st h Q ↔ T d 49 99 [l0, l1, l2, l3, l4, .int x] (.int x :: st) h Q := T_iload c49_97 rfl
theorem c49_84 : cod 49 84 = some (.iload_n 3, 1) := cod_of b49 dX5_partSize_84
theorem t49_84 {d : Nat} {h : Hp} {Q : Pst} {l0 l1 l2 l4 l5 : Value} {x : Int32} {st : List Value} : T d 49 84 [l0, l1, l2, .int x, l4, l5] st h Q ↔ T d 49 85 [l0, l1, l2, .int x, l4, l5] (.int x :: st) h Q := T_iload_n c49_84 rfl
theorem c49_85 : cod 49 85 = some (.iload_n 2, 1) := cod_of b49 dX5_partSize_85
theorem t49_85 {d : Nat} {h : Hp} {Q : Pst} {l0 l1 l3 l4 l5 : Value} {x : Int32} {st : List Value} : T d 49 85 [l0, l1, .int x, l3, l4, l5] st h Q ↔ T d 49 86 [l0, l1, .int x, l3, l4, l5] (.int x :: st) h Q := T_iload_n c49_85 rfl
theorem c49_86 : cod 49 86 = some (.iadd, 1) := cod_of b49 dX5_partSize_86
theorem t49_86 {d : Nat} {h : Hp} {Q : Pst} {x y : Int32} {ls : List Value} {st : List Value} : T d 49 86 ls (.int y :: .int x :: st) h Q ↔ T d 49 87 ls (.int (x + y) :: st) h Q := T_iadd c49_86
theorem c49_87 : cod 49 87 = some (.ireturn, 1) := cod_of b49 dX5_partSize_87
theorem t49_87 {d : Nat} {h : Hp} {Q : Pst} {x : Int32} {ls : List Value} : T d 49 87 ls [.int x] h Q ↔ Q (some (.int x)) h := T_iretR m49 c49_87 rfl
theorem c49_70 : cod 49 70 = some (.iload_n 2, 1) := cod_of b49 dX5_partSize_70
theorem t49_70 {d : Nat} {h : Hp} {Q : Pst} {l0 l1 l3 l4 l5 : Value} {x : Int32} {st : List Value} : T d 49 70 [l0, l1, .int x, l3, l4, l5] st h Q ↔ T d 49 71 [l0, l1, .int x, l3, l4, l5] (.int x :: st) h Q := T_iload_n c49_70 rfl
theorem c49_71 : cod 49 71 = some (.iconst 2, 1) := cod_of b49 dX5_partSize_71
theorem t49_71 {d : Nat} {h : Hp} {Q : Pst} {ls : List Value} {st : List Value} : T d 49 71 ls st h Q ↔ T d 49 72 ls (.int 2 :: st) h Q := T_iconstV c49_71 (by decide)
theorem c49_72 : cod 49 72 = some (.irem, 1) := cod_of b49 dX5_partSize_72
theorem t49_72 {d : Nat} {h : Hp} {Q : Pst} {x y : Int32} {ls : List Value} {st : List Value} : T d 49 72 ls (.int y :: .int x :: st) h Q ↔ (¬ y = 0 ∧ T d 49 73 ls (.int (x - x / y * y) :: st) h Q) := T_irem c49_72
theorem c49_73 : cod 49 73 = some (.iconst 1, 1) := cod_of b49 dX5_partSize_73
theorem t49_73 {d : Nat} {h : Hp} {Q : Pst} {ls : List Value} {st : List Value} : T d 49 73 ls st h Q ↔ T d 49 74 ls (.int 1 :: st) h Q := T_iconstV c49_73 (by decide)
theorem c49_74 : cod 49 74 = some (.if_icmp .ne 7, 3) := cod_of b49 dX5_partSize_74
theorem t49_74 {d : Nat} {h : Hp} {Q : Pst} {x y : Int32} {ls : List Value} {st : List Value} : T d 49 74 ls (.int y :: .int x :: st) h Q ↔ (if ¬ x = y then T d 49 81 ls st h Q else T d 49 77 ls st h Q) := T_icmp_ne c49_74 (by decide)
theorem c49_77 : cod 49 77 = some (.iconst 0, 1) := cod_of b49 dX5_partSize_77
theorem t49_77 {d : Nat} {h : Hp} {Q : Pst} {ls : List Value} {st : List Value} : T d 49 77 ls st h Q ↔ T d 49 78 ls (.int 0 :: st) h Q := T_iconstV c49_77 (by decide)
theorem c49_78 : cod 49 78 = some (.goto 5, 3) := cod_of b49 dX5_partSize_78
theorem t49_78 {d : Nat} {h : Hp} {Q : Pst} {ls : List Value} {st : List Value} : T d 49 78 ls st h Q ↔ T d 49 83 ls st h Q := T_goto c49_78 (by decide)
theorem c49_83 : cod 49 83 = some (.ireturn, 1) := cod_of b49 dX5_partSize_83
theorem t49_83 {d : Nat} {h : Hp} {Q : Pst} {x : Int32} {ls : List Value} : T d 49 83 ls [.int x] h Q ↔ Q (some (.int x)) h := T_iretR m49 c49_83 rfl
theorem c49_81 : cod 49 81 = some (.iload 4, 2) := cod_of b49 dX5_partSize_81
theorem t49_81 {d : Nat} {h : Hp} {Q : Pst} {l0 l1 l2 l3 l5 : Value} {x : Int32} {st : List Value} : T d 49 81 [l0, l1, l2, l3, .int x, l5] st h Q ↔ T d 49 83 [l0, l1, l2, l3, .int x, l5] (.int x :: st) h Q := T_iload c49_81 rfl
theorem c49_67 : cod 49 67 = some (.iload 5, 2) := cod_of b49 dX5_partSize_67
theorem t49_67 {d : Nat} {h : Hp} {Q : Pst} {l0 l1 l2 l3 l4 : Value} {x : Int32} {st : List Value} : T d 49 67 [l0, l1, l2, l3, l4, .int x] st h Q ↔ T d 49 69 [l0, l1, l2, l3, l4, .int x] (.int x :: st) h Q := T_iload c49_67 rfl
theorem c49_69 : cod 49 69 = some (.ireturn, 1) := cod_of b49 dX5_partSize_69
theorem t49_69 {d : Nat} {h : Hp} {Q : Pst} {x : Int32} {ls : List Value} : T d 49 69 ls [.int x] h Q ↔ Q (some (.int x)) h := T_iretR m49 c49_69 rfl
theorem c49_64 : cod 49 64 = some (.iload 4, 2) := cod_of b49 dX5_partSize_64
theorem t49_64 {d : Nat} {h : Hp} {Q : Pst} {l0 l1 l2 l3 l5 : Value} {x : Int32} {st : List Value} : T d 49 64 [l0, l1, l2, l3, .int x, l5] st h Q ↔ T d 49 66 [l0, l1, l2, l3, .int x, l5] (.int x :: st) h Q := T_iload c49_64 rfl
theorem c49_66 : cod 49 66 = some (.ireturn, 1) := cod_of b49 dX5_partSize_66
theorem t49_66 {d : Nat} {h : Hp} {Q : Pst} {x : Int32} {ls : List Value} : T d 49 66 ls [.int x] h Q ↔ Q (some (.int x)) h := T_iretR m49 c49_66 rfl
theorem c49_17 : cod 49 17 = some (.iconst 1, 1) := cod_of b49 dX5_partSize_17
theorem t49_17 {d : Nat} {h : Hp} {Q : Pst} {ls : List Value} {st : List Value} : T d 49 17 ls st h Q ↔ T d 49 18 ls (.int 1 :: st) h Q := T_iconstV c49_17 (by decide)
theorem b50 : (mR 50).2.2.1 = cX5_least := by rw [m50]
theorem c50_0 : cod 50 0 = some (.iload_n 1, 1) := cod_of b50 dX5_least_0
theorem t50_0 {d : Nat} {h : Hp} {Q : Pst} {l0 l2 l3 l4 l5 l6 : Value} {x : Int32} {st : List Value} : T d 50 0 [l0, .int x, l2, l3, l4, l5, l6] st h Q ↔ T d 50 1 [l0, .int x, l2, l3, l4, l5, l6] (.int x :: st) h Q := T_iload_n c50_0 rfl
theorem c50_1 : cod 50 1 = some (.istore_n 3, 1) := cod_of b50 dX5_least_1
theorem t50_1 {d : Nat} {h : Hp} {Q : Pst} {l0 l1 l2 l3 l4 l5 l6 : Value} {x : Int32} {st : List Value} : T d 50 1 [l0, l1, l2, l3, l4, l5, l6] (.int x :: st) h Q ↔ T d 50 2 [l0, l1, kil l2, .int x, l4, l5, l6] st h Q := T_istore_n c50_1 (Nat.le_of_ble_eq_true rfl)
theorem c50_2 : cod 50 2 = some (.iload_n 3, 1) := cod_of b50 dX5_least_2
theorem t50_2 {d : Nat} {h : Hp} {Q : Pst} {l0 l1 l2 l4 l5 l6 : Value} {x : Int32} {st : List Value} : T d 50 2 [l0, l1, l2, .int x, l4, l5, l6] st h Q ↔ T d 50 3 [l0, l1, l2, .int x, l4, l5, l6] (.int x :: st) h Q := T_iload_n c50_2 rfl
theorem c50_3 : cod 50 3 = some (.iconst 3, 1) := cod_of b50 dX5_least_3
theorem t50_3 {d : Nat} {h : Hp} {Q : Pst} {ls : List Value} {st : List Value} : T d 50 3 ls st h Q ↔ T d 50 4 ls (.int 3 :: st) h Q := T_iconstV c50_3 (by decide)
theorem c50_4 : cod 50 4 = some (.if_icmp .le 9, 3) := cod_of b50 dX5_least_4
theorem t50_4 {d : Nat} {h : Hp} {Q : Pst} {x y : Int32} {ls : List Value} {st : List Value} : T d 50 4 ls (.int y :: .int x :: st) h Q ↔ (if x ≤ y then T d 50 13 ls st h Q else T d 50 7 ls st h Q) := T_icmp_le c50_4 (by decide)
theorem c50_7 : cod 50 7 = some (.iload_n 3, 1) := cod_of b50 dX5_least_7
theorem t50_7 {d : Nat} {h : Hp} {Q : Pst} {l0 l1 l2 l4 l5 l6 : Value} {x : Int32} {st : List Value} : T d 50 7 [l0, l1, l2, .int x, l4, l5, l6] st h Q ↔ T d 50 8 [l0, l1, l2, .int x, l4, l5, l6] (.int x :: st) h Q := T_iload_n c50_7 rfl
theorem c50_8 : cod 50 8 = some (.iconst 3, 1) := cod_of b50 dX5_least_8
theorem t50_8 {d : Nat} {h : Hp} {Q : Pst} {ls : List Value} {st : List Value} : T d 50 8 ls st h Q ↔ T d 50 9 ls (.int 3 :: st) h Q := T_iconstV c50_8 (by decide)
theorem c50_9 : cod 50 9 = some (.isub, 1) := cod_of b50 dX5_least_9
theorem t50_9 {d : Nat} {h : Hp} {Q : Pst} {x y : Int32} {ls : List Value} {st : List Value} : T d 50 9 ls (.int y :: .int x :: st) h Q ↔ T d 50 10 ls (.int (x - y) :: st) h Q := T_isub c50_9
theorem c50_10 : cod 50 10 = some (.goto 4, 3) := cod_of b50 dX5_least_10
theorem t50_10 {d : Nat} {h : Hp} {Q : Pst} {ls : List Value} {st : List Value} : T d 50 10 ls st h Q ↔ T d 50 14 ls st h Q := T_goto c50_10 (by decide)
theorem c50_14 : cod 50 14 = some (.istore 4, 2) := cod_of b50 dX5_least_14
theorem t50_14 {d : Nat} {h : Hp} {Q : Pst} {l0 l1 l2 l3 l4 l5 l6 : Value} {x : Int32} {st : List Value} : T d 50 14 [l0, l1, l2, l3, l4, l5, l6] (.int x :: st) h Q ↔ T d 50 16 [l0, l1, l2, kil l3, .int x, l5, l6] st h Q := T_istore c50_14 (Nat.le_of_ble_eq_true rfl)
theorem c50_16 : cod 50 16 = some (.iload_n 3, 1) := cod_of b50 dX5_least_16
theorem t50_16 {d : Nat} {h : Hp} {Q : Pst} {l0 l1 l2 l4 l5 l6 : Value} {x : Int32} {st : List Value} : T d 50 16 [l0, l1, l2, .int x, l4, l5, l6] st h Q ↔ T d 50 17 [l0, l1, l2, .int x, l4, l5, l6] (.int x :: st) h Q := T_iload_n c50_16 rfl
theorem c50_17 : cod 50 17 = some (.iconst 4, 1) := cod_of b50 dX5_least_17
theorem t50_17 {d : Nat} {h : Hp} {Q : Pst} {ls : List Value} {st : List Value} : T d 50 17 ls st h Q ↔ T d 50 18 ls (.int 4 :: st) h Q := T_iconstV c50_17 (by decide)
theorem c50_18 : cod 50 18 = some (.iadd, 1) := cod_of b50 dX5_least_18
theorem t50_18 {d : Nat} {h : Hp} {Q : Pst} {x y : Int32} {ls : List Value} {st : List Value} : T d 50 18 ls (.int y :: .int x :: st) h Q ↔ T d 50 19 ls (.int (x + y) :: st) h Q := T_iadd c50_18
theorem c50_19 : cod 50 19 = some (.istore 5, 2) := cod_of b50 dX5_least_19
theorem t50_19 {d : Nat} {h : Hp} {Q : Pst} {l0 l1 l2 l3 l4 l5 l6 : Value} {x : Int32} {st : List Value} : T d 50 19 [l0, l1, l2, l3, l4, l5, l6] (.int x :: st) h Q ↔ T d 50 21 [l0, l1, l2, l3, kil l4, .int x, l6] st h Q := T_istore c50_19 (Nat.le_of_ble_eq_true rfl)
theorem c50_21 : cod 50 21 = some (.iload 4, 2) := cod_of b50 dX5_least_21
theorem t50_21 {d : Nat} {h : Hp} {Q : Pst} {l0 l1 l2 l3 l5 l6 : Value} {x : Int32} {st : List Value} : T d 50 21 [l0, l1, l2, l3, .int x, l5, l6] st h Q ↔ T d 50 23 [l0, l1, l2, l3, .int x, l5, l6] (.int x :: st) h Q := T_iload c50_21 rfl
theorem c50_23 : cod 50 23 = some (.iload_n 2, 1) := cod_of b50 dX5_least_23
theorem t50_23 {d : Nat} {h : Hp} {Q : Pst} {l0 l1 l3 l4 l5 l6 : Value} {x : Int32} {st : List Value} : T d 50 23 [l0, l1, .int x, l3, l4, l5, l6] st h Q ↔ T d 50 24 [l0, l1, .int x, l3, l4, l5, l6] (.int x :: st) h Q := T_iload_n c50_23 rfl
theorem c50_24 : cod 50 24 = some (.if_icmp .le 10, 3) := cod_of b50 dX5_least_24
theorem t50_24 {d : Nat} {h : Hp} {Q : Pst} {x y : Int32} {ls : List Value} {st : List Value} : T d 50 24 ls (.int y :: .int x :: st) h Q ↔ (if x ≤ y then T d 50 34 ls st h Q else T d 50 27 ls st h Q) := T_icmp_le c50_24 (by decide)
theorem c50_27 : cod 50 27 = some (.iload 4, 2) := cod_of b50 dX5_least_27
theorem t50_27 {d : Nat} {h : Hp} {Q : Pst} {l0 l1 l2 l3 l5 l6 : Value} {x : Int32} {st : List Value} : T d 50 27 [l0, l1, l2, l3, .int x, l5, l6] st h Q ↔ T d 50 29 [l0, l1, l2, l3, .int x, l5, l6] (.int x :: st) h Q := T_iload c50_27 rfl
theorem c50_29 : cod 50 29 = some (.iload_n 2, 1) := cod_of b50 dX5_least_29
theorem t50_29 {d : Nat} {h : Hp} {Q : Pst} {l0 l1 l3 l4 l5 l6 : Value} {x : Int32} {st : List Value} : T d 50 29 [l0, l1, .int x, l3, l4, l5, l6] st h Q ↔ T d 50 30 [l0, l1, .int x, l3, l4, l5, l6] (.int x :: st) h Q := T_iload_n c50_29 rfl
theorem c50_30 : cod 50 30 = some (.isub, 1) := cod_of b50 dX5_least_30
theorem t50_30 {d : Nat} {h : Hp} {Q : Pst} {x y : Int32} {ls : List Value} {st : List Value} : T d 50 30 ls (.int y :: .int x :: st) h Q ↔ T d 50 31 ls (.int (x - y) :: st) h Q := T_isub c50_30
theorem c50_31 : cod 50 31 = some (.goto 4, 3) := cod_of b50 dX5_least_31
theorem t50_31 {d : Nat} {h : Hp} {Q : Pst} {ls : List Value} {st : List Value} : T d 50 31 ls st h Q ↔ T d 50 35 ls st h Q := T_goto c50_31 (by decide)
theorem c50_35 : cod 50 35 = some (.istore 6, 2) := cod_of b50 dX5_least_35
theorem t50_35 {d : Nat} {h : Hp} {Q : Pst} {l0 l1 l2 l3 l4 l5 l6 : Value} {x : Int32} {st : List Value} : T d 50 35 [l0, l1, l2, l3, l4, l5, l6] (.int x :: st) h Q ↔ T d 50 37 [l0, l1, l2, l3, l4, kil l5, .int x] st h Q := T_istore c50_35 (Nat.le_of_ble_eq_true rfl)
theorem c50_37 : cod 50 37 = some (.iload_n 0, 1) := cod_of b50 dX5_least_37
theorem t50_37 {d : Nat} {h : Hp} {Q : Pst} {l1 l2 l3 l4 l5 l6 : Value} {x : Int32} {st : List Value} : T d 50 37 [.int x, l1, l2, l3, l4, l5, l6] st h Q ↔ T d 50 38 [.int x, l1, l2, l3, l4, l5, l6] (.int x :: st) h Q := T_iload_n c50_37 rfl
theorem c50_38 : cod 50 38 = some (.tableswitch 55 1 5 #[34, 37, 40, 43, 48], 34) := cod_of b50 dX5_least_38
theorem t50_38 {d : Nat} {h : Hp} {Q : Pst} {x : Int32} {ls : List Value} {st : List Value} : T d 50 38 ls (.int x :: st) h Q ↔ swT (fun t => T d 50 t ls st h Q) x.toInt 1 [72, 75, 78, 81, 86] 93 := T_tsw c50_38 (by decide) (by decide) (by decide)
theorem c50_93 : cod 50 93 = some (.iload_n 3, 1) := cod_of b50 dX5_least_93
theorem t50_93 {d : Nat} {h : Hp} {Q : Pst} {l0 l1 l2 l4 l5 l6 : Value} {x : Int32} {st : List Value} : T d 50 93 [l0, l1, l2, .int x, l4, l5, l6] st h Q ↔ T d 50 94 [l0, l1, l2, .int x, l4, l5, l6] (.int x :: st) h Q := T_iload_n c50_93 rfl
theorem c50_94 : cod 50 94 = some (.ireturn, 1) := cod_of b50 dX5_least_94
theorem t50_94 {d : Nat} {h : Hp} {Q : Pst} {x : Int32} {ls : List Value} : T d 50 94 ls [.int x] h Q ↔ Q (some (.int x)) h := T_iretR m50 c50_94 rfl
theorem c50_86 : cod 50 86 = some (.iload 6, 2) := cod_of b50 dX5_least_86
theorem t50_86 {d : Nat} {h : Hp} {Q : Pst} {l0 l1 l2 l3 l4 l5 : Value} {x : Int32} {st : List Value} : T d 50 86 [l0, l1, l2, l3, l4, l5, .int x] st h Q ↔ T d 50 88 [l0, l1, l2, l3, l4, l5, .int x] (.int x :: st) h Q := T_iload c50_86 rfl
theorem c50_88 : cod 50 88 = some (.iconst 1, 1) := cod_of b50 dX5_least_88
theorem t50_88 {d : Nat} {h : Hp} {Q : Pst} {ls : List Value} {st : List Value} : T d 50 88 ls st h Q ↔ T d 50 89 ls (.int 1 :: st) h Q := T_iconstV c50_88 (by decide)
theorem c50_89 : cod 50 89 = some (.iadd, 1) := cod_of b50 dX5_least_89
theorem t50_89 {d : Nat} {h : Hp} {Q : Pst} {x y : Int32} {ls : List Value} {st : List Value} : T d 50 89 ls (.int y :: .int x :: st) h Q ↔ T d 50 90 ls (.int (x + y) :: st) h Q := T_iadd c50_89
theorem c50_90 : cod 50 90 = some (.iconst 2, 1) := cod_of b50 dX5_least_90
theorem t50_90 {d : Nat} {h : Hp} {Q : Pst} {ls : List Value} {st : List Value} : T d 50 90 ls st h Q ↔ T d 50 91 ls (.int 2 :: st) h Q := T_iconstV c50_90 (by decide)
theorem c50_91 : cod 50 91 = some (.idiv, 1) := cod_of b50 dX5_least_91
theorem t50_91 {d : Nat} {h : Hp} {Q : Pst} {x y : Int32} {ls : List Value} {st : List Value} : T d 50 91 ls (.int y :: .int x :: st) h Q ↔ (¬ y = 0 ∧ T d 50 92 ls (.int (x / y) :: st) h Q) := T_idiv c50_91
theorem c50_92 : cod 50 92 = some (.ireturn, 1) := cod_of b50 dX5_least_92
theorem t50_92 {d : Nat} {h : Hp} {Q : Pst} {x : Int32} {ls : List Value} : T d 50 92 ls [.int x] h Q ↔ Q (some (.int x)) h := T_iretR m50 c50_92 rfl
theorem c50_81 : cod 50 81 = some (.iconst 2, 1) := cod_of b50 dX5_least_81
theorem t50_81 {d : Nat} {h : Hp} {Q : Pst} {ls : List Value} {st : List Value} : T d 50 81 ls st h Q ↔ T d 50 82 ls (.int 2 :: st) h Q := T_iconstV c50_81 (by decide)
theorem c50_82 : cod 50 82 = some (.iload 5, 2) := cod_of b50 dX5_least_82
theorem t50_82 {d : Nat} {h : Hp} {Q : Pst} {l0 l1 l2 l3 l4 l6 : Value} {x : Int32} {st : List Value} : T d 50 82 [l0, l1, l2, l3, l4, .int x, l6] st h Q ↔ T d 50 84 [l0, l1, l2, l3, l4, .int x, l6] (.int x :: st) h Q := T_iload c50_82 rfl
theorem c50_84 : cod 50 84 = some (.imul, 1) := cod_of b50 dX5_least_84
theorem t50_84 {d : Nat} {h : Hp} {Q : Pst} {x y : Int32} {ls : List Value} {st : List Value} : T d 50 84 ls (.int y :: .int x :: st) h Q ↔ T d 50 85 ls (.int (x * y) :: st) h Q := T_imul c50_84
theorem c50_85 : cod 50 85 = some (.ireturn, 1) := cod_of b50 dX5_least_85
theorem t50_85 {d : Nat} {h : Hp} {Q : Pst} {x : Int32} {ls : List Value} : T d 50 85 ls [.int x] h Q ↔ Q (some (.int x)) h := T_iretR m50 c50_85 rfl
theorem c50_78 : cod 50 78 = some (.iload 6, 2) := cod_of b50 dX5_least_78
theorem t50_78 {d : Nat} {h : Hp} {Q : Pst} {l0 l1 l2 l3 l4 l5 : Value} {x : Int32} {st : List Value} : T d 50 78 [l0, l1, l2, l3, l4, l5, .int x] st h Q ↔ T d 50 80 [l0, l1, l2, l3, l4, l5, .int x] (.int x :: st) h Q := T_iload c50_78 rfl
theorem c50_80 : cod 50 80 = some (.ireturn, 1) := cod_of b50 dX5_least_80
theorem t50_80 {d : Nat} {h : Hp} {Q : Pst} {x : Int32} {ls : List Value} : T d 50 80 ls [.int x] h Q ↔ Q (some (.int x)) h := T_iretR m50 c50_80 rfl
theorem c50_75 : cod 50 75 = some (.iload 5, 2) := cod_of b50 dX5_least_75
theorem t50_75 {d : Nat} {h : Hp} {Q : Pst} {l0 l1 l2 l3 l4 l6 : Value} {x : Int32} {st : List Value} : T d 50 75 [l0, l1, l2, l3, l4, .int x, l6] st h Q ↔ T d 50 77 [l0, l1, l2, l3, l4, .int x, l6] (.int x :: st) h Q := T_iload c50_75 rfl
theorem c50_77 : cod 50 77 = some (.ireturn, 1) := cod_of b50 dX5_least_77
theorem t50_77 {d : Nat} {h : Hp} {Q : Pst} {x : Int32} {ls : List Value} : T d 50 77 ls [.int x] h Q ↔ Q (some (.int x)) h := T_iretR m50 c50_77 rfl
theorem c50_72 : cod 50 72 = some (.iload 4, 2) := cod_of b50 dX5_least_72
theorem t50_72 {d : Nat} {h : Hp} {Q : Pst} {l0 l1 l2 l3 l5 l6 : Value} {x : Int32} {st : List Value} : T d 50 72 [l0, l1, l2, l3, .int x, l5, l6] st h Q ↔ T d 50 74 [l0, l1, l2, l3, .int x, l5, l6] (.int x :: st) h Q := T_iload c50_72 rfl
theorem c50_74 : cod 50 74 = some (.ireturn, 1) := cod_of b50 dX5_least_74
theorem t50_74 {d : Nat} {h : Hp} {Q : Pst} {x : Int32} {ls : List Value} : T d 50 74 ls [.int x] h Q ↔ Q (some (.int x)) h := T_iretR m50 c50_74 rfl
theorem c50_34 : cod 50 34 = some (.iconst 1, 1) := cod_of b50 dX5_least_34
theorem t50_34 {d : Nat} {h : Hp} {Q : Pst} {ls : List Value} {st : List Value} : T d 50 34 ls st h Q ↔ T d 50 35 ls (.int 1 :: st) h Q := T_iconstV c50_34 (by decide)
theorem c50_13 : cod 50 13 = some (.iconst 1, 1) := cod_of b50 dX5_least_13
theorem t50_13 {d : Nat} {h : Hp} {Q : Pst} {ls : List Value} {st : List Value} : T d 50 13 ls st h Q ↔ T d 50 14 ls (.int 1 :: st) h Q := T_iconstV c50_13 (by decide)
theorem b51 : (mR 51).2.2.1 = cX5_partsFrom := by rw [m51]
theorem c51_0 : cod 51 0 = some (.iconst 0, 1) := cod_of b51 dX5_partsFrom_0
theorem t51_0 {d : Nat} {h : Hp} {Q : Pst} {ls : List Value} {st : List Value} : T d 51 0 ls st h Q ↔ T d 51 1 ls (.int 0 :: st) h Q := T_iconstV c51_0 (by decide)
theorem c51_1 : cod 51 1 = some (.istore_n 3, 1) := cod_of b51 dX5_partsFrom_1
theorem t51_1 {d : Nat} {h : Hp} {Q : Pst} {l0 l1 l2 l3 l4 : Value} {x : Int32} {st : List Value} : T d 51 1 [l0, l1, l2, l3, l4] (.int x :: st) h Q ↔ T d 51 2 [l0, l1, kil l2, .int x, l4] st h Q := T_istore_n c51_1 (Nat.le_of_ble_eq_true rfl)
theorem c51_2 : cod 51 2 = some (.iconst 0, 1) := cod_of b51 dX5_partsFrom_2
theorem t51_2 {d : Nat} {h : Hp} {Q : Pst} {ls : List Value} {st : List Value} : T d 51 2 ls st h Q ↔ T d 51 3 ls (.int 0 :: st) h Q := T_iconstV c51_2 (by decide)
theorem c51_3 : cod 51 3 = some (.istore 4, 2) := cod_of b51 dX5_partsFrom_3
theorem t51_3 {d : Nat} {h : Hp} {Q : Pst} {l0 l1 l2 l3 l4 : Value} {x : Int32} {st : List Value} : T d 51 3 [l0, l1, l2, l3, l4] (.int x :: st) h Q ↔ T d 51 5 [l0, l1, l2, kil l3, .int x] st h Q := T_istore c51_3 (Nat.le_of_ble_eq_true rfl)
theorem c51_5 : cod 51 5 = some (.iload 4, 2) := cod_of b51 dX5_partsFrom_5
theorem t51_5 {d : Nat} {h : Hp} {Q : Pst} {l0 l1 l2 l3 : Value} {x : Int32} {st : List Value} : T d 51 5 [l0, l1, l2, l3, .int x] st h Q ↔ T d 51 7 [l0, l1, l2, l3, .int x] (.int x :: st) h Q := T_iload c51_5 rfl
theorem c51_7 : cod 51 7 = some (.iconst 5, 1) := cod_of b51 dX5_partsFrom_7
theorem t51_7 {d : Nat} {h : Hp} {Q : Pst} {ls : List Value} {st : List Value} : T d 51 7 ls st h Q ↔ T d 51 8 ls (.int 5 :: st) h Q := T_iconstV c51_7 (by decide)
theorem c51_8 : cod 51 8 = some (.if_icmp .ge 27, 3) := cod_of b51 dX5_partsFrom_8
theorem t51_8 {d : Nat} {h : Hp} {Q : Pst} {x y : Int32} {ls : List Value} {st : List Value} : T d 51 8 ls (.int y :: .int x :: st) h Q ↔ (if y ≤ x then T d 51 35 ls st h Q else T d 51 11 ls st h Q) := T_icmp_ge c51_8 (by decide)
theorem c51_11 : cod 51 11 = some (.iload_n 0, 1) := cod_of b51 dX5_partsFrom_11
theorem t51_11 {d : Nat} {h : Hp} {Q : Pst} {l1 l2 l3 l4 : Value} {x : Int32} {st : List Value} : T d 51 11 [.int x, l1, l2, l3, l4] st h Q ↔ T d 51 12 [.int x, l1, l2, l3, l4] (.int x :: st) h Q := T_iload_n c51_11 rfl
theorem c51_12 : cod 51 12 = some (.iload_n 1, 1) := cod_of b51 dX5_partsFrom_12
theorem t51_12 {d : Nat} {h : Hp} {Q : Pst} {l0 l2 l3 l4 : Value} {x : Int32} {st : List Value} : T d 51 12 [l0, .int x, l2, l3, l4] st h Q ↔ T d 51 13 [l0, .int x, l2, l3, l4] (.int x :: st) h Q := T_iload_n c51_12 rfl
theorem c51_13 : cod 51 13 = some (.iload 4, 2) := cod_of b51 dX5_partsFrom_13
theorem t51_13 {d : Nat} {h : Hp} {Q : Pst} {l0 l1 l2 l3 : Value} {x : Int32} {st : List Value} : T d 51 13 [l0, l1, l2, l3, .int x] st h Q ↔ T d 51 15 [l0, l1, l2, l3, .int x] (.int x :: st) h Q := T_iload c51_13 rfl
theorem c51_15 : cod 51 15 = some (.invokestatic 9, 3) := cod_of b51 dX5_partsFrom_15
theorem t51_15 {d : Nat} {h : Hp} {Q : Pst} {a0 a1 a2 : Int32} {ls : List Value} : T (d + 1) 51 15 ls [.int a2, .int a1, .int a0] h Q ↔ T d 49 0 [.int a0, .int a1, .int a2, un, un, un] [] h (fun x h2 => T (d + 1) 51 18 ls (rl x []) h2 Q) := T_staticR (as := [.int a0, .int a1, .int a2]) (r := []) m51 m49 c51_15 k5_9 (Or.inl rfl) rfl (by decide) rfl (by simp [wrd, Value.category]) (by simp [stk, Value.category]) rfl
theorem c51_18 : cod 51 18 = some (.iload_n 2, 1) := cod_of b51 dX5_partsFrom_18
theorem t51_18 {d : Nat} {h : Hp} {Q : Pst} {l0 l1 l3 l4 : Value} {x : Int32} {st : List Value} : T d 51 18 [l0, l1, .int x, l3, l4] st h Q ↔ T d 51 19 [l0, l1, .int x, l3, l4] (.int x :: st) h Q := T_iload_n c51_18 rfl
theorem c51_19 : cod 51 19 = some (.if_icmp .lt 10, 3) := cod_of b51 dX5_partsFrom_19
theorem t51_19 {d : Nat} {h : Hp} {Q : Pst} {x y : Int32} {ls : List Value} {st : List Value} : T d 51 19 ls (.int y :: .int x :: st) h Q ↔ (if x < y then T d 51 29 ls st h Q else T d 51 22 ls st h Q) := T_icmp_lt c51_19 (by decide)
theorem c51_22 : cod 51 22 = some (.iload_n 3, 1) := cod_of b51 dX5_partsFrom_22
theorem t51_22 {d : Nat} {h : Hp} {Q : Pst} {l0 l1 l2 l4 : Value} {x : Int32} {st : List Value} : T d 51 22 [l0, l1, l2, .int x, l4] st h Q ↔ T d 51 23 [l0, l1, l2, .int x, l4] (.int x :: st) h Q := T_iload_n c51_22 rfl
theorem c51_23 : cod 51 23 = some (.iconst 1, 1) := cod_of b51 dX5_partsFrom_23
theorem t51_23 {d : Nat} {h : Hp} {Q : Pst} {ls : List Value} {st : List Value} : T d 51 23 ls st h Q ↔ T d 51 24 ls (.int 1 :: st) h Q := T_iconstV c51_23 (by decide)
theorem c51_24 : cod 51 24 = some (.iload 4, 2) := cod_of b51 dX5_partsFrom_24
theorem t51_24 {d : Nat} {h : Hp} {Q : Pst} {l0 l1 l2 l3 : Value} {x : Int32} {st : List Value} : T d 51 24 [l0, l1, l2, l3, .int x] st h Q ↔ T d 51 26 [l0, l1, l2, l3, .int x] (.int x :: st) h Q := T_iload c51_24 rfl
theorem c51_26 : cod 51 26 = some (.ishl, 1) := cod_of b51 dX5_partsFrom_26
theorem t51_26 {d : Nat} {h : Hp} {Q : Pst} {x y : Int32} {ls : List Value} {st : List Value} : T d 51 26 ls (.int y :: .int x :: st) h Q ↔ T d 51 27 ls (.int (x <<< (y &&& 31)) :: st) h Q := T_ishl c51_26
theorem c51_27 : cod 51 27 = some (.ior, 1) := cod_of b51 dX5_partsFrom_27
theorem t51_27 {d : Nat} {h : Hp} {Q : Pst} {x y : Int32} {ls : List Value} {st : List Value} : T d 51 27 ls (.int y :: .int x :: st) h Q ↔ T d 51 28 ls (.int (x ||| y) :: st) h Q := T_ior c51_27
theorem c51_28 : cod 51 28 = some (.istore_n 3, 1) := cod_of b51 dX5_partsFrom_28
theorem t51_28 {d : Nat} {h : Hp} {Q : Pst} {l0 l1 l2 l3 l4 : Value} {x : Int32} {st : List Value} : T d 51 28 [l0, l1, l2, l3, l4] (.int x :: st) h Q ↔ T d 51 29 [l0, l1, kil l2, .int x, l4] st h Q := T_istore_n c51_28 (Nat.le_of_ble_eq_true rfl)
theorem c51_29 : cod 51 29 = some (.iinc 4 1, 3) := cod_of b51 dX5_partsFrom_29
theorem t51_29 {d : Nat} {h : Hp} {Q : Pst} {l0 l1 l2 l3 : Value} {x : Int32} {st : List Value} : T d 51 29 [l0, l1, l2, l3, .int x] st h Q ↔ T d 51 32 [l0, l1, l2, kil l3, .int (x + 1)] st h Q := T_iincV c51_29 rfl (Nat.le_of_ble_eq_true rfl) (by decide) rfl
theorem c51_32 : cod 51 32 = some (.goto (-27), 3) := cod_of b51 dX5_partsFrom_32
theorem t51_32 {d : Nat} {h : Hp} {Q : Pst} {ls : List Value} {st : List Value} : T d 51 32 ls st h Q ↔ T d 51 5 ls st h Q := T_goto c51_32 (by decide)
theorem c51_35 : cod 51 35 = some (.iload_n 3, 1) := cod_of b51 dX5_partsFrom_35
theorem t51_35 {d : Nat} {h : Hp} {Q : Pst} {l0 l1 l2 l4 : Value} {x : Int32} {st : List Value} : T d 51 35 [l0, l1, l2, .int x, l4] st h Q ↔ T d 51 36 [l0, l1, l2, .int x, l4] (.int x :: st) h Q := T_iload_n c51_35 rfl
theorem c51_36 : cod 51 36 = some (.ireturn, 1) := cod_of b51 dX5_partsFrom_36
theorem t51_36 {d : Nat} {h : Hp} {Q : Pst} {x : Int32} {ls : List Value} : T d 51 36 ls [.int x] h Q ↔ Q (some (.int x)) h := T_iretR m51 c51_36 rfl
theorem b52 : (mR 52).2.2.1 = cX6_init := by rw [m52]
theorem c52_0 : cod 52 0 = some (.aload_n 0, 1) := cod_of b52 dX6_init_0
theorem t52_0 {d : Nat} {h : Hp} {Q : Pst} {x : Nat} {st : List Value} : T d 52 0 [.ref x] st h Q ↔ T d 52 1 [.ref x] (.ref x :: st) h Q := T_aload_n c52_0 rfl
theorem c52_1 : cod 52 1 = some (.invokespecial 3, 3) := cod_of b52 dX6_init_1
theorem t52_1 {d : Nat} {h : Hp} {Q : Pst} {a : Nat} {ls : List Value} : T (d + 1) 52 1 ls [.ref a] h Q ↔ T (d + 1) 52 4 ls [] h Q := T_objinitR m52 c52_1 k6_3 (by simp [stk, Value.category])
theorem c52_4 : cod 52 4 = some (.aload_n 0, 1) := cod_of b52 dX6_init_4
theorem t52_4 {d : Nat} {h : Hp} {Q : Pst} {x : Nat} {st : List Value} : T d 52 4 [.ref x] st h Q ↔ T d 52 5 [.ref x] (.ref x :: st) h Q := T_aload_n c52_4 rfl
theorem c52_5 : cod 52 5 = some (.bipush 6, 2) := cod_of b52 dX6_init_5
theorem t52_5 {d : Nat} {h : Hp} {Q : Pst} {ls : List Value} {st : List Value} : T d 52 5 ls st h Q ↔ T d 52 7 ls (.int 6 :: st) h Q := T_bipushV c52_5 (by decide)
theorem c52_7 : cod 52 7 = some (.newarray .int, 2) := cod_of b52 dX6_init_7
theorem t52_7 {d : Nat} {h : Hp} {Q : Pst} {x : Int32} {ls : List Value} {st : List Value} : T d 52 7 ls (.int x :: st) h Q ↔ ((0 ≤ x.toInt ∧ x.toInt ≤ 100000) ∧ T d 52 9 ls (.ref h.1 :: st) (hnew h x.toNatClampNeg (oI x.toNatClampNeg fun _ => 0)) Q) := T_newi c52_7
theorem c52_9 : cod 52 9 = some (.putfield 9, 3) := cod_of b52 dX6_init_9
theorem t52_9 {d : Nat} {h : Hp} {Q : Pst} {a x : Nat} {ls : List Value} {st : List Value} : T d 52 9 ls (.ref x :: .ref a :: st) h Q ↔ pF (h.2.2 a) 5 0 (.ref x) (fun cell => T d 52 12 ls st (hup h a cell) Q) := T_putfieldR m52 c52_9 f6_9 (by decide +kernel)
theorem c52_12 : cod 52 12 = some (.aload_n 0, 1) := cod_of b52 dX6_init_12
theorem t52_12 {d : Nat} {h : Hp} {Q : Pst} {x : Nat} {st : List Value} : T d 52 12 [.ref x] st h Q ↔ T d 52 13 [.ref x] (.ref x :: st) h Q := T_aload_n c52_12 rfl
theorem c52_13 : cod 52 13 = some (.bipush 6, 2) := cod_of b52 dX6_init_13
theorem t52_13 {d : Nat} {h : Hp} {Q : Pst} {ls : List Value} {st : List Value} : T d 52 13 ls st h Q ↔ T d 52 15 ls (.int 6 :: st) h Q := T_bipushV c52_13 (by decide)
theorem c52_15 : cod 52 15 = some (.newarray .int, 2) := cod_of b52 dX6_init_15
theorem t52_15 {d : Nat} {h : Hp} {Q : Pst} {x : Int32} {ls : List Value} {st : List Value} : T d 52 15 ls (.int x :: st) h Q ↔ ((0 ≤ x.toInt ∧ x.toInt ≤ 100000) ∧ T d 52 17 ls (.ref h.1 :: st) (hnew h x.toNatClampNeg (oI x.toNatClampNeg fun _ => 0)) Q) := T_newi c52_15
theorem c52_17 : cod 52 17 = some (.putfield 15, 3) := cod_of b52 dX6_init_17
theorem t52_17 {d : Nat} {h : Hp} {Q : Pst} {a x : Nat} {ls : List Value} {st : List Value} : T d 52 17 ls (.ref x :: .ref a :: st) h Q ↔ pF (h.2.2 a) 5 1 (.ref x) (fun cell => T d 52 20 ls st (hup h a cell) Q) := T_putfieldR m52 c52_17 f6_15 (by decide +kernel)
theorem c52_20 : cod 52 20 = some (.aload_n 0, 1) := cod_of b52 dX6_init_20
theorem t52_20 {d : Nat} {h : Hp} {Q : Pst} {x : Nat} {st : List Value} : T d 52 20 [.ref x] st h Q ↔ T d 52 21 [.ref x] (.ref x :: st) h Q := T_aload_n c52_20 rfl
theorem c52_21 : cod 52 21 = some (.bipush 6, 2) := cod_of b52 dX6_init_21
theorem t52_21 {d : Nat} {h : Hp} {Q : Pst} {ls : List Value} {st : List Value} : T d 52 21 ls st h Q ↔ T d 52 23 ls (.int 6 :: st) h Q := T_bipushV c52_21 (by decide)
theorem c52_23 : cod 52 23 = some (.newarray .int, 2) := cod_of b52 dX6_init_23
theorem t52_23 {d : Nat} {h : Hp} {Q : Pst} {x : Int32} {ls : List Value} {st : List Value} : T d 52 23 ls (.int x :: st) h Q ↔ ((0 ≤ x.toInt ∧ x.toInt ≤ 100000) ∧ T d 52 25 ls (.ref h.1 :: st) (hnew h x.toNatClampNeg (oI x.toNatClampNeg fun _ => 0)) Q) := T_newi c52_23
theorem c52_25 : cod 52 25 = some (.putfield 18, 3) := cod_of b52 dX6_init_25
theorem t52_25 {d : Nat} {h : Hp} {Q : Pst} {a x : Nat} {ls : List Value} {st : List Value} : T d 52 25 ls (.ref x :: .ref a :: st) h Q ↔ pF (h.2.2 a) 5 2 (.ref x) (fun cell => T d 52 28 ls st (hup h a cell) Q) := T_putfieldR m52 c52_25 f6_18 (by decide +kernel)
theorem c52_28 : cod 52 28 = some (.aload_n 0, 1) := cod_of b52 dX6_init_28
theorem t52_28 {d : Nat} {h : Hp} {Q : Pst} {x : Nat} {st : List Value} : T d 52 28 [.ref x] st h Q ↔ T d 52 29 [.ref x] (.ref x :: st) h Q := T_aload_n c52_28 rfl
theorem c52_29 : cod 52 29 = some (.iconst 4, 1) := cod_of b52 dX6_init_29
theorem t52_29 {d : Nat} {h : Hp} {Q : Pst} {ls : List Value} {st : List Value} : T d 52 29 ls st h Q ↔ T d 52 30 ls (.int 4 :: st) h Q := T_iconstV c52_29 (by decide)
theorem c52_30 : cod 52 30 = some (.newarray .int, 2) := cod_of b52 dX6_init_30
theorem t52_30 {d : Nat} {h : Hp} {Q : Pst} {x : Int32} {ls : List Value} {st : List Value} : T d 52 30 ls (.int x :: st) h Q ↔ ((0 ≤ x.toInt ∧ x.toInt ≤ 100000) ∧ T d 52 32 ls (.ref h.1 :: st) (hnew h x.toNatClampNeg (oI x.toNatClampNeg fun _ => 0)) Q) := T_newi c52_30
theorem c52_32 : cod 52 32 = some (.putfield 21, 3) := cod_of b52 dX6_init_32
theorem t52_32 {d : Nat} {h : Hp} {Q : Pst} {a x : Nat} {ls : List Value} {st : List Value} : T d 52 32 ls (.ref x :: .ref a :: st) h Q ↔ pF (h.2.2 a) 5 3 (.ref x) (fun cell => T d 52 35 ls st (hup h a cell) Q) := T_putfieldR m52 c52_32 f6_21 (by decide +kernel)
theorem c52_35 : cod 52 35 = some (.aload_n 0, 1) := cod_of b52 dX6_init_35
theorem t52_35 {d : Nat} {h : Hp} {Q : Pst} {x : Nat} {st : List Value} : T d 52 35 [.ref x] st h Q ↔ T d 52 36 [.ref x] (.ref x :: st) h Q := T_aload_n c52_35 rfl
theorem c52_36 : cod 52 36 = some (.iconst 4, 1) := cod_of b52 dX6_init_36
theorem t52_36 {d : Nat} {h : Hp} {Q : Pst} {ls : List Value} {st : List Value} : T d 52 36 ls st h Q ↔ T d 52 37 ls (.int 4 :: st) h Q := T_iconstV c52_36 (by decide)
theorem c52_37 : cod 52 37 = some (.newarray .int, 2) := cod_of b52 dX6_init_37
theorem t52_37 {d : Nat} {h : Hp} {Q : Pst} {x : Int32} {ls : List Value} {st : List Value} : T d 52 37 ls (.int x :: st) h Q ↔ ((0 ≤ x.toInt ∧ x.toInt ≤ 100000) ∧ T d 52 39 ls (.ref h.1 :: st) (hnew h x.toNatClampNeg (oI x.toNatClampNeg fun _ => 0)) Q) := T_newi c52_37
theorem c52_39 : cod 52 39 = some (.putfield 24, 3) := cod_of b52 dX6_init_39
theorem t52_39 {d : Nat} {h : Hp} {Q : Pst} {a x : Nat} {ls : List Value} {st : List Value} : T d 52 39 ls (.ref x :: .ref a :: st) h Q ↔ pF (h.2.2 a) 5 4 (.ref x) (fun cell => T d 52 42 ls st (hup h a cell) Q) := T_putfieldR m52 c52_39 f6_24 (by decide +kernel)
theorem c52_42 : cod 52 42 = some (.aload_n 0, 1) := cod_of b52 dX6_init_42
theorem t52_42 {d : Nat} {h : Hp} {Q : Pst} {x : Nat} {st : List Value} : T d 52 42 [.ref x] st h Q ↔ T d 52 43 [.ref x] (.ref x :: st) h Q := T_aload_n c52_42 rfl
theorem c52_43 : cod 52 43 = some (.iconst 4, 1) := cod_of b52 dX6_init_43
theorem t52_43 {d : Nat} {h : Hp} {Q : Pst} {ls : List Value} {st : List Value} : T d 52 43 ls st h Q ↔ T d 52 44 ls (.int 4 :: st) h Q := T_iconstV c52_43 (by decide)
theorem c52_44 : cod 52 44 = some (.newarray .int, 2) := cod_of b52 dX6_init_44
theorem t52_44 {d : Nat} {h : Hp} {Q : Pst} {x : Int32} {ls : List Value} {st : List Value} : T d 52 44 ls (.int x :: st) h Q ↔ ((0 ≤ x.toInt ∧ x.toInt ≤ 100000) ∧ T d 52 46 ls (.ref h.1 :: st) (hnew h x.toNatClampNeg (oI x.toNatClampNeg fun _ => 0)) Q) := T_newi c52_44
theorem c52_46 : cod 52 46 = some (.putfield 27, 3) := cod_of b52 dX6_init_46
theorem t52_46 {d : Nat} {h : Hp} {Q : Pst} {a x : Nat} {ls : List Value} {st : List Value} : T d 52 46 ls (.ref x :: .ref a :: st) h Q ↔ pF (h.2.2 a) 5 5 (.ref x) (fun cell => T d 52 49 ls st (hup h a cell) Q) := T_putfieldR m52 c52_46 f6_27 (by decide +kernel)
theorem c52_49 : cod 52 49 = some (.aload_n 0, 1) := cod_of b52 dX6_init_49
theorem t52_49 {d : Nat} {h : Hp} {Q : Pst} {x : Nat} {st : List Value} : T d 52 49 [.ref x] st h Q ↔ T d 52 50 [.ref x] (.ref x :: st) h Q := T_aload_n c52_49 rfl
theorem c52_50 : cod 52 50 = some (.new 30, 3) := cod_of b52 dX6_init_50
theorem t52_50 {d : Nat} {h : Hp} {Q : Pst} {ls : List Value} {st : List Value} : T d 52 50 ls st h Q ↔ T d 52 53 ls (.ref h.1 :: st) (hnew h 4 (oO 3 (dfl 3))) Q := T_newR m52 c52_50 (by decide +kernel) (by decide)
theorem c52_53 : cod 52 53 = some (.dup, 1) := cod_of b52 dX6_init_53
theorem t52_53 {d : Nat} {h : Hp} {Q : Pst} {x : Nat} {ls : List Value} {st : List Value} : T d 52 53 ls (.ref x :: st) h Q ↔ T d 52 54 ls (.ref x :: .ref x :: st) h Q := T_dup c52_53 rfl
theorem c52_54 : cod 52 54 = some (.iconst 5, 1) := cod_of b52 dX6_init_54
theorem t52_54 {d : Nat} {h : Hp} {Q : Pst} {ls : List Value} {st : List Value} : T d 52 54 ls st h Q ↔ T d 52 55 ls (.int 5 :: st) h Q := T_iconstV c52_54 (by decide)
theorem c52_55 : cod 52 55 = some (.iconst 4, 1) := cod_of b52 dX6_init_55
theorem t52_55 {d : Nat} {h : Hp} {Q : Pst} {ls : List Value} {st : List Value} : T d 52 55 ls st h Q ↔ T d 52 56 ls (.int 4 :: st) h Q := T_iconstV c52_55 (by decide)
theorem c52_56 : cod 52 56 = some (.invokespecial 32, 3) := cod_of b52 dX6_init_56
theorem t52_56 {d : Nat} {h : Hp} {Q : Pst} {a0 a1 : Int32} {s0 s1 a : Nat} {ls : List Value} : T (d + 1) 52 56 ls [.int a1, .int a0, .ref a, .ref s0, .ref s1] h Q ↔ T d 34 0 [.ref a, .int a0, .int a1] [] h (fun x h2 => T (d + 1) 52 59 ls (rl x [.ref s0, .ref s1]) h2 Q) := T_specialR (as := [.int a0, .int a1]) (r := [.ref s0, .ref s1]) m52 m34 c52_56 k6_32 (Or.inl rfl) rfl (by decide) rfl (by simp [wrd, Value.category]) (by simp [stk, Value.category]) rfl
theorem c52_59 : cod 52 59 = some (.putfield 35, 3) := cod_of b52 dX6_init_59
theorem t52_59 {d : Nat} {h : Hp} {Q : Pst} {a x : Nat} {ls : List Value} {st : List Value} : T d 52 59 ls (.ref x :: .ref a :: st) h Q ↔ pF (h.2.2 a) 5 6 (.ref x) (fun cell => T d 52 62 ls st (hup h a cell) Q) := T_putfieldR m52 c52_59 f6_35 (by decide +kernel)
theorem c52_62 : cod 52 62 = some (.aload_n 0, 1) := cod_of b52 dX6_init_62
theorem t52_62 {d : Nat} {h : Hp} {Q : Pst} {x : Nat} {st : List Value} : T d 52 62 [.ref x] st h Q ↔ T d 52 63 [.ref x] (.ref x :: st) h Q := T_aload_n c52_62 rfl
theorem c52_63 : cod 52 63 = some (.new 30, 3) := cod_of b52 dX6_init_63
theorem t52_63 {d : Nat} {h : Hp} {Q : Pst} {ls : List Value} {st : List Value} : T d 52 63 ls st h Q ↔ T d 52 66 ls (.ref h.1 :: st) (hnew h 4 (oO 3 (dfl 3))) Q := T_newR m52 c52_63 (by decide +kernel) (by decide)
theorem c52_66 : cod 52 66 = some (.dup, 1) := cod_of b52 dX6_init_66
theorem t52_66 {d : Nat} {h : Hp} {Q : Pst} {x : Nat} {ls : List Value} {st : List Value} : T d 52 66 ls (.ref x :: st) h Q ↔ T d 52 67 ls (.ref x :: .ref x :: st) h Q := T_dup c52_66 rfl
theorem c52_67 : cod 52 67 = some (.bipush 6, 2) := cod_of b52 dX6_init_67
theorem t52_67 {d : Nat} {h : Hp} {Q : Pst} {ls : List Value} {st : List Value} : T d 52 67 ls st h Q ↔ T d 52 69 ls (.int 6 :: st) h Q := T_bipushV c52_67 (by decide)
theorem c52_69 : cod 52 69 = some (.iconst 4, 1) := cod_of b52 dX6_init_69
theorem t52_69 {d : Nat} {h : Hp} {Q : Pst} {ls : List Value} {st : List Value} : T d 52 69 ls st h Q ↔ T d 52 70 ls (.int 4 :: st) h Q := T_iconstV c52_69 (by decide)
theorem c52_70 : cod 52 70 = some (.invokespecial 32, 3) := cod_of b52 dX6_init_70
theorem t52_70 {d : Nat} {h : Hp} {Q : Pst} {a0 a1 : Int32} {s0 s1 a : Nat} {ls : List Value} : T (d + 1) 52 70 ls [.int a1, .int a0, .ref a, .ref s0, .ref s1] h Q ↔ T d 34 0 [.ref a, .int a0, .int a1] [] h (fun x h2 => T (d + 1) 52 73 ls (rl x [.ref s0, .ref s1]) h2 Q) := T_specialR (as := [.int a0, .int a1]) (r := [.ref s0, .ref s1]) m52 m34 c52_70 k6_32 (Or.inl rfl) rfl (by decide) rfl (by simp [wrd, Value.category]) (by simp [stk, Value.category]) rfl
theorem c52_73 : cod 52 73 = some (.putfield 39, 3) := cod_of b52 dX6_init_73
theorem t52_73 {d : Nat} {h : Hp} {Q : Pst} {a x : Nat} {ls : List Value} {st : List Value} : T d 52 73 ls (.ref x :: .ref a :: st) h Q ↔ pF (h.2.2 a) 5 7 (.ref x) (fun cell => T d 52 76 ls st (hup h a cell) Q) := T_putfieldR m52 c52_73 f6_39 (by decide +kernel)
theorem c52_76 : cod 52 76 = some (.aload_n 0, 1) := cod_of b52 dX6_init_76
theorem t52_76 {d : Nat} {h : Hp} {Q : Pst} {x : Nat} {st : List Value} : T d 52 76 [.ref x] st h Q ↔ T d 52 77 [.ref x] (.ref x :: st) h Q := T_aload_n c52_76 rfl
theorem c52_77 : cod 52 77 = some (.new 30, 3) := cod_of b52 dX6_init_77
theorem t52_77 {d : Nat} {h : Hp} {Q : Pst} {ls : List Value} {st : List Value} : T d 52 77 ls st h Q ↔ T d 52 80 ls (.ref h.1 :: st) (hnew h 4 (oO 3 (dfl 3))) Q := T_newR m52 c52_77 (by decide +kernel) (by decide)
theorem c52_80 : cod 52 80 = some (.dup, 1) := cod_of b52 dX6_init_80
theorem t52_80 {d : Nat} {h : Hp} {Q : Pst} {x : Nat} {ls : List Value} {st : List Value} : T d 52 80 ls (.ref x :: st) h Q ↔ T d 52 81 ls (.ref x :: .ref x :: st) h Q := T_dup c52_80 rfl
theorem c52_81 : cod 52 81 = some (.bipush 6, 2) := cod_of b52 dX6_init_81
theorem t52_81 {d : Nat} {h : Hp} {Q : Pst} {ls : List Value} {st : List Value} : T d 52 81 ls st h Q ↔ T d 52 83 ls (.int 6 :: st) h Q := T_bipushV c52_81 (by decide)
theorem c52_83 : cod 52 83 = some (.iconst 5, 1) := cod_of b52 dX6_init_83
theorem t52_83 {d : Nat} {h : Hp} {Q : Pst} {ls : List Value} {st : List Value} : T d 52 83 ls st h Q ↔ T d 52 84 ls (.int 5 :: st) h Q := T_iconstV c52_83 (by decide)
theorem c52_84 : cod 52 84 = some (.invokespecial 32, 3) := cod_of b52 dX6_init_84
theorem t52_84 {d : Nat} {h : Hp} {Q : Pst} {a0 a1 : Int32} {s0 s1 a : Nat} {ls : List Value} : T (d + 1) 52 84 ls [.int a1, .int a0, .ref a, .ref s0, .ref s1] h Q ↔ T d 34 0 [.ref a, .int a0, .int a1] [] h (fun x h2 => T (d + 1) 52 87 ls (rl x [.ref s0, .ref s1]) h2 Q) := T_specialR (as := [.int a0, .int a1]) (r := [.ref s0, .ref s1]) m52 m34 c52_84 k6_32 (Or.inl rfl) rfl (by decide) rfl (by simp [wrd, Value.category]) (by simp [stk, Value.category]) rfl
theorem c52_87 : cod 52 87 = some (.putfield 42, 3) := cod_of b52 dX6_init_87
theorem t52_87 {d : Nat} {h : Hp} {Q : Pst} {a x : Nat} {ls : List Value} {st : List Value} : T d 52 87 ls (.ref x :: .ref a :: st) h Q ↔ pF (h.2.2 a) 5 8 (.ref x) (fun cell => T d 52 90 ls st (hup h a cell) Q) := T_putfieldR m52 c52_87 f6_42 (by decide +kernel)
theorem c52_90 : cod 52 90 = some (.aload_n 0, 1) := cod_of b52 dX6_init_90
theorem t52_90 {d : Nat} {h : Hp} {Q : Pst} {x : Nat} {st : List Value} : T d 52 90 [.ref x] st h Q ↔ T d 52 91 [.ref x] (.ref x :: st) h Q := T_aload_n c52_90 rfl
theorem c52_91 : cod 52 91 = some (.new 30, 3) := cod_of b52 dX6_init_91
theorem t52_91 {d : Nat} {h : Hp} {Q : Pst} {ls : List Value} {st : List Value} : T d 52 91 ls st h Q ↔ T d 52 94 ls (.ref h.1 :: st) (hnew h 4 (oO 3 (dfl 3))) Q := T_newR m52 c52_91 (by decide +kernel) (by decide)
theorem c52_94 : cod 52 94 = some (.dup, 1) := cod_of b52 dX6_init_94
theorem t52_94 {d : Nat} {h : Hp} {Q : Pst} {x : Nat} {ls : List Value} {st : List Value} : T d 52 94 ls (.ref x :: st) h Q ↔ T d 52 95 ls (.ref x :: .ref x :: st) h Q := T_dup c52_94 rfl
theorem c52_95 : cod 52 95 = some (.bipush 8, 2) := cod_of b52 dX6_init_95
theorem t52_95 {d : Nat} {h : Hp} {Q : Pst} {ls : List Value} {st : List Value} : T d 52 95 ls st h Q ↔ T d 52 97 ls (.int 8 :: st) h Q := T_bipushV c52_95 (by decide)
theorem c52_97 : cod 52 97 = some (.bipush 12, 2) := cod_of b52 dX6_init_97
theorem t52_97 {d : Nat} {h : Hp} {Q : Pst} {ls : List Value} {st : List Value} : T d 52 97 ls st h Q ↔ T d 52 99 ls (.int 12 :: st) h Q := T_bipushV c52_97 (by decide)
theorem c52_99 : cod 52 99 = some (.invokespecial 32, 3) := cod_of b52 dX6_init_99
theorem t52_99 {d : Nat} {h : Hp} {Q : Pst} {a0 a1 : Int32} {s0 s1 a : Nat} {ls : List Value} : T (d + 1) 52 99 ls [.int a1, .int a0, .ref a, .ref s0, .ref s1] h Q ↔ T d 34 0 [.ref a, .int a0, .int a1] [] h (fun x h2 => T (d + 1) 52 102 ls (rl x [.ref s0, .ref s1]) h2 Q) := T_specialR (as := [.int a0, .int a1]) (r := [.ref s0, .ref s1]) m52 m34 c52_99 k6_32 (Or.inl rfl) rfl (by decide) rfl (by simp [wrd, Value.category]) (by simp [stk, Value.category]) rfl
theorem c52_102 : cod 52 102 = some (.putfield 45, 3) := cod_of b52 dX6_init_102
theorem t52_102 {d : Nat} {h : Hp} {Q : Pst} {a x : Nat} {ls : List Value} {st : List Value} : T d 52 102 ls (.ref x :: .ref a :: st) h Q ↔ pF (h.2.2 a) 5 9 (.ref x) (fun cell => T d 52 105 ls st (hup h a cell) Q) := T_putfieldR m52 c52_102 f6_45 (by decide +kernel)
theorem c52_105 : cod 52 105 = some (.aload_n 0, 1) := cod_of b52 dX6_init_105
theorem t52_105 {d : Nat} {h : Hp} {Q : Pst} {x : Nat} {st : List Value} : T d 52 105 [.ref x] st h Q ↔ T d 52 106 [.ref x] (.ref x :: st) h Q := T_aload_n c52_105 rfl
theorem c52_106 : cod 52 106 = some (.iconst 0, 1) := cod_of b52 dX6_init_106
theorem t52_106 {d : Nat} {h : Hp} {Q : Pst} {ls : List Value} {st : List Value} : T d 52 106 ls st h Q ↔ T d 52 107 ls (.int 0 :: st) h Q := T_iconstV c52_106 (by decide)
theorem c52_107 : cod 52 107 = some (.putfield 48, 3) := cod_of b52 dX6_init_107
theorem t52_107 {d : Nat} {h : Hp} {Q : Pst} {a : Nat} {x : Int32} {ls : List Value} {st : List Value} : T d 52 107 ls (.int x :: .ref a :: st) h Q ↔ pF (h.2.2 a) 5 10 (.int x) (fun cell => T d 52 110 ls st (hup h a cell) Q) := T_putfieldR m52 c52_107 f6_48 (by decide +kernel)
theorem c52_110 : cod 52 110 = some (.aload_n 0, 1) := cod_of b52 dX6_init_110
theorem t52_110 {d : Nat} {h : Hp} {Q : Pst} {x : Nat} {st : List Value} : T d 52 110 [.ref x] st h Q ↔ T d 52 111 [.ref x] (.ref x :: st) h Q := T_aload_n c52_110 rfl
theorem c52_111 : cod 52 111 = some (.iconst 0, 1) := cod_of b52 dX6_init_111
theorem t52_111 {d : Nat} {h : Hp} {Q : Pst} {ls : List Value} {st : List Value} : T d 52 111 ls st h Q ↔ T d 52 112 ls (.int 0 :: st) h Q := T_iconstV c52_111 (by decide)
theorem c52_112 : cod 52 112 = some (.putfield 52, 3) := cod_of b52 dX6_init_112
theorem t52_112 {d : Nat} {h : Hp} {Q : Pst} {a : Nat} {x : Int32} {ls : List Value} {st : List Value} : T d 52 112 ls (.int x :: .ref a :: st) h Q ↔ pF (h.2.2 a) 5 11 (.int x) (fun cell => T d 52 115 ls st (hup h a cell) Q) := T_putfieldR m52 c52_112 f6_52 (by decide +kernel)
theorem c52_115 : cod 52 115 = some (.aload_n 0, 1) := cod_of b52 dX6_init_115
theorem t52_115 {d : Nat} {h : Hp} {Q : Pst} {x : Nat} {st : List Value} : T d 52 115 [.ref x] st h Q ↔ T d 52 116 [.ref x] (.ref x :: st) h Q := T_aload_n c52_115 rfl
theorem c52_116 : cod 52 116 = some (.iconst 0, 1) := cod_of b52 dX6_init_116
theorem t52_116 {d : Nat} {h : Hp} {Q : Pst} {ls : List Value} {st : List Value} : T d 52 116 ls st h Q ↔ T d 52 117 ls (.int 0 :: st) h Q := T_iconstV c52_116 (by decide)
theorem c52_117 : cod 52 117 = some (.putfield 55, 3) := cod_of b52 dX6_init_117
theorem t52_117 {d : Nat} {h : Hp} {Q : Pst} {a : Nat} {x : Int32} {ls : List Value} {st : List Value} : T d 52 117 ls (.int x :: .ref a :: st) h Q ↔ pF (h.2.2 a) 5 12 (.int x) (fun cell => T d 52 120 ls st (hup h a cell) Q) := T_putfieldR m52 c52_117 f6_55 (by decide +kernel)
theorem c52_120 : cod 52 120 = some (.aload_n 0, 1) := cod_of b52 dX6_init_120
theorem t52_120 {d : Nat} {h : Hp} {Q : Pst} {x : Nat} {st : List Value} : T d 52 120 [.ref x] st h Q ↔ T d 52 121 [.ref x] (.ref x :: st) h Q := T_aload_n c52_120 rfl
theorem c52_121 : cod 52 121 = some (.iconst 0, 1) := cod_of b52 dX6_init_121
theorem t52_121 {d : Nat} {h : Hp} {Q : Pst} {ls : List Value} {st : List Value} : T d 52 121 ls st h Q ↔ T d 52 122 ls (.int 0 :: st) h Q := T_iconstV c52_121 (by decide)
theorem c52_122 : cod 52 122 = some (.putfield 58, 3) := cod_of b52 dX6_init_122
theorem t52_122 {d : Nat} {h : Hp} {Q : Pst} {a : Nat} {x : Int32} {ls : List Value} {st : List Value} : T d 52 122 ls (.int x :: .ref a :: st) h Q ↔ pF (h.2.2 a) 5 13 (.int x) (fun cell => T d 52 125 ls st (hup h a cell) Q) := T_putfieldR m52 c52_122 f6_58 (by decide +kernel)
theorem c52_125 : cod 52 125 = some (.return_, 1) := cod_of b52 dX6_init_125
theorem t52_125 {d : Nat} {h : Hp} {Q : Pst} {ls : List Value} : T d 52 125 ls [] h Q ↔ Q none h := T_retR m52 c52_125 rfl
theorem b53 : (mR 53).2.2.1 = cX6_startAnew := by rw [m53]
theorem c53_0 : cod 53 0 = some (.aload_n 0, 1) := cod_of b53 dX6_startAnew_0
theorem t53_0 {d : Nat} {h : Hp} {Q : Pst} {l1 : Value} {x : Nat} {st : List Value} : T d 53 0 [.ref x, l1] st h Q ↔ T d 53 1 [.ref x, l1] (.ref x :: st) h Q := T_aload_n c53_0 rfl
theorem c53_1 : cod 53 1 = some (.iconst 0, 1) := cod_of b53 dX6_startAnew_1
theorem t53_1 {d : Nat} {h : Hp} {Q : Pst} {ls : List Value} {st : List Value} : T d 53 1 ls st h Q ↔ T d 53 2 ls (.int 0 :: st) h Q := T_iconstV c53_1 (by decide)
theorem c53_2 : cod 53 2 = some (.putfield 48, 3) := cod_of b53 dX6_startAnew_2
theorem t53_2 {d : Nat} {h : Hp} {Q : Pst} {a : Nat} {x : Int32} {ls : List Value} {st : List Value} : T d 53 2 ls (.int x :: .ref a :: st) h Q ↔ pF (h.2.2 a) 5 10 (.int x) (fun cell => T d 53 5 ls st (hup h a cell) Q) := T_putfieldR m53 c53_2 f6_48 (by decide +kernel)
theorem c53_5 : cod 53 5 = some (.aload_n 0, 1) := cod_of b53 dX6_startAnew_5
theorem t53_5 {d : Nat} {h : Hp} {Q : Pst} {l1 : Value} {x : Nat} {st : List Value} : T d 53 5 [.ref x, l1] st h Q ↔ T d 53 6 [.ref x, l1] (.ref x :: st) h Q := T_aload_n c53_5 rfl
theorem c53_6 : cod 53 6 = some (.iconst 0, 1) := cod_of b53 dX6_startAnew_6
theorem t53_6 {d : Nat} {h : Hp} {Q : Pst} {ls : List Value} {st : List Value} : T d 53 6 ls st h Q ↔ T d 53 7 ls (.int 0 :: st) h Q := T_iconstV c53_6 (by decide)
theorem c53_7 : cod 53 7 = some (.putfield 52, 3) := cod_of b53 dX6_startAnew_7
theorem t53_7 {d : Nat} {h : Hp} {Q : Pst} {a : Nat} {x : Int32} {ls : List Value} {st : List Value} : T d 53 7 ls (.int x :: .ref a :: st) h Q ↔ pF (h.2.2 a) 5 11 (.int x) (fun cell => T d 53 10 ls st (hup h a cell) Q) := T_putfieldR m53 c53_7 f6_52 (by decide +kernel)
theorem c53_10 : cod 53 10 = some (.aload_n 0, 1) := cod_of b53 dX6_startAnew_10
theorem t53_10 {d : Nat} {h : Hp} {Q : Pst} {l1 : Value} {x : Nat} {st : List Value} : T d 53 10 [.ref x, l1] st h Q ↔ T d 53 11 [.ref x, l1] (.ref x :: st) h Q := T_aload_n c53_10 rfl
theorem c53_11 : cod 53 11 = some (.iload_n 1, 1) := cod_of b53 dX6_startAnew_11
theorem t53_11 {d : Nat} {h : Hp} {Q : Pst} {l0 : Value} {x : Int32} {st : List Value} : T d 53 11 [l0, .int x] st h Q ↔ T d 53 12 [l0, .int x] (.int x :: st) h Q := T_iload_n c53_11 rfl
theorem c53_12 : cod 53 12 = some (.putfield 55, 3) := cod_of b53 dX6_startAnew_12
theorem t53_12 {d : Nat} {h : Hp} {Q : Pst} {a : Nat} {x : Int32} {ls : List Value} {st : List Value} : T d 53 12 ls (.int x :: .ref a :: st) h Q ↔ pF (h.2.2 a) 5 12 (.int x) (fun cell => T d 53 15 ls st (hup h a cell) Q) := T_putfieldR m53 c53_12 f6_55 (by decide +kernel)
theorem c53_15 : cod 53 15 = some (.aload_n 0, 1) := cod_of b53 dX6_startAnew_15
theorem t53_15 {d : Nat} {h : Hp} {Q : Pst} {l1 : Value} {x : Nat} {st : List Value} : T d 53 15 [.ref x, l1] st h Q ↔ T d 53 16 [.ref x, l1] (.ref x :: st) h Q := T_aload_n c53_15 rfl
theorem c53_16 : cod 53 16 = some (.iconst 0, 1) := cod_of b53 dX6_startAnew_16
theorem t53_16 {d : Nat} {h : Hp} {Q : Pst} {ls : List Value} {st : List Value} : T d 53 16 ls st h Q ↔ T d 53 17 ls (.int 0 :: st) h Q := T_iconstV c53_16 (by decide)
theorem c53_17 : cod 53 17 = some (.putfield 58, 3) := cod_of b53 dX6_startAnew_17
theorem t53_17 {d : Nat} {h : Hp} {Q : Pst} {a : Nat} {x : Int32} {ls : List Value} {st : List Value} : T d 53 17 ls (.int x :: .ref a :: st) h Q ↔ pF (h.2.2 a) 5 13 (.int x) (fun cell => T d 53 20 ls st (hup h a cell) Q) := T_putfieldR m53 c53_17 f6_58 (by decide +kernel)
theorem c53_20 : cod 53 20 = some (.aload_n 0, 1) := cod_of b53 dX6_startAnew_20
theorem t53_20 {d : Nat} {h : Hp} {Q : Pst} {l1 : Value} {x : Nat} {st : List Value} : T d 53 20 [.ref x, l1] st h Q ↔ T d 53 21 [.ref x, l1] (.ref x :: st) h Q := T_aload_n c53_20 rfl
theorem c53_21 : cod 53 21 = some (.getfield 35, 3) := cod_of b53 dX6_startAnew_21
theorem t53_21 {d : Nat} {h : Hp} {Q : Pst} {a : Nat} {ls : List Value} {st : List Value} : T d 53 21 ls (.ref a :: st) h Q ↔ gF (h.2.2 a) 5 6 (fun v => T d 53 24 ls (v :: st) h Q) := T_getfieldR m53 c53_21 f6_35
theorem c53_24 : cod 53 24 = some (.invokevirtual 61, 3) := cod_of b53 dX6_startAnew_24
theorem t53_24 {d : Nat} {h : Hp} {Q : Pst} {a : Nat} {ls : List Value} (ho : isO (h.2.2 a) 3) : T (d + 1) 53 24 ls [.ref a] h Q ↔ T d 42 0 [.ref a, un] [] h (fun x h2 => T (d + 1) 53 27 ls (rl x []) h2 Q) := T_virtualR (as := []) (r := []) m53 m42 c53_24 k6_61  rfl (by decide) rfl (by simp [wrd, Value.category]) (by simp [stk, Value.category]) rfl (by decide +kernel) ho
theorem c53_27 : cod 53 27 = some (.pop, 1) := cod_of b53 dX6_startAnew_27
theorem t53_27 {d : Nat} {h : Hp} {Q : Pst} {x : Int32} {ls : List Value} {st : List Value} : T d 53 27 ls (.int x :: st) h Q ↔ T d 53 28 ls st h Q := T_pop c53_27 rfl
theorem c53_28 : cod 53 28 = some (.aload_n 0, 1) := cod_of b53 dX6_startAnew_28
theorem t53_28 {d : Nat} {h : Hp} {Q : Pst} {l1 : Value} {x : Nat} {st : List Value} : T d 53 28 [.ref x, l1] st h Q ↔ T d 53 29 [.ref x, l1] (.ref x :: st) h Q := T_aload_n c53_28 rfl
theorem c53_29 : cod 53 29 = some (.getfield 39, 3) := cod_of b53 dX6_startAnew_29
theorem t53_29 {d : Nat} {h : Hp} {Q : Pst} {a : Nat} {ls : List Value} {st : List Value} : T d 53 29 ls (.ref a :: st) h Q ↔ gF (h.2.2 a) 5 7 (fun v => T d 53 32 ls (v :: st) h Q) := T_getfieldR m53 c53_29 f6_39
theorem c53_32 : cod 53 32 = some (.invokevirtual 61, 3) := cod_of b53 dX6_startAnew_32
theorem t53_32 {d : Nat} {h : Hp} {Q : Pst} {a : Nat} {ls : List Value} (ho : isO (h.2.2 a) 3) : T (d + 1) 53 32 ls [.ref a] h Q ↔ T d 42 0 [.ref a, un] [] h (fun x h2 => T (d + 1) 53 35 ls (rl x []) h2 Q) := T_virtualR (as := []) (r := []) m53 m42 c53_32 k6_61  rfl (by decide) rfl (by simp [wrd, Value.category]) (by simp [stk, Value.category]) rfl (by decide +kernel) ho
theorem c53_35 : cod 53 35 = some (.pop, 1) := cod_of b53 dX6_startAnew_35
theorem t53_35 {d : Nat} {h : Hp} {Q : Pst} {x : Int32} {ls : List Value} {st : List Value} : T d 53 35 ls (.int x :: st) h Q ↔ T d 53 36 ls st h Q := T_pop c53_35 rfl
theorem c53_36 : cod 53 36 = some (.aload_n 0, 1) := cod_of b53 dX6_startAnew_36
theorem t53_36 {d : Nat} {h : Hp} {Q : Pst} {l1 : Value} {x : Nat} {st : List Value} : T d 53 36 [.ref x, l1] st h Q ↔ T d 53 37 [.ref x, l1] (.ref x :: st) h Q := T_aload_n c53_36 rfl
theorem c53_37 : cod 53 37 = some (.getfield 42, 3) := cod_of b53 dX6_startAnew_37
theorem t53_37 {d : Nat} {h : Hp} {Q : Pst} {a : Nat} {ls : List Value} {st : List Value} : T d 53 37 ls (.ref a :: st) h Q ↔ gF (h.2.2 a) 5 8 (fun v => T d 53 40 ls (v :: st) h Q) := T_getfieldR m53 c53_37 f6_42
theorem c53_40 : cod 53 40 = some (.invokevirtual 61, 3) := cod_of b53 dX6_startAnew_40
theorem t53_40 {d : Nat} {h : Hp} {Q : Pst} {a : Nat} {ls : List Value} (ho : isO (h.2.2 a) 3) : T (d + 1) 53 40 ls [.ref a] h Q ↔ T d 42 0 [.ref a, un] [] h (fun x h2 => T (d + 1) 53 43 ls (rl x []) h2 Q) := T_virtualR (as := []) (r := []) m53 m42 c53_40 k6_61  rfl (by decide) rfl (by simp [wrd, Value.category]) (by simp [stk, Value.category]) rfl (by decide +kernel) ho
theorem c53_43 : cod 53 43 = some (.pop, 1) := cod_of b53 dX6_startAnew_43
theorem t53_43 {d : Nat} {h : Hp} {Q : Pst} {x : Int32} {ls : List Value} {st : List Value} : T d 53 43 ls (.int x :: st) h Q ↔ T d 53 44 ls st h Q := T_pop c53_43 rfl
theorem c53_44 : cod 53 44 = some (.aload_n 0, 1) := cod_of b53 dX6_startAnew_44
theorem t53_44 {d : Nat} {h : Hp} {Q : Pst} {l1 : Value} {x : Nat} {st : List Value} : T d 53 44 [.ref x, l1] st h Q ↔ T d 53 45 [.ref x, l1] (.ref x :: st) h Q := T_aload_n c53_44 rfl
theorem c53_45 : cod 53 45 = some (.getfield 45, 3) := cod_of b53 dX6_startAnew_45
theorem t53_45 {d : Nat} {h : Hp} {Q : Pst} {a : Nat} {ls : List Value} {st : List Value} : T d 53 45 ls (.ref a :: st) h Q ↔ gF (h.2.2 a) 5 9 (fun v => T d 53 48 ls (v :: st) h Q) := T_getfieldR m53 c53_45 f6_45
theorem c53_48 : cod 53 48 = some (.invokevirtual 61, 3) := cod_of b53 dX6_startAnew_48
theorem t53_48 {d : Nat} {h : Hp} {Q : Pst} {a : Nat} {ls : List Value} (ho : isO (h.2.2 a) 3) : T (d + 1) 53 48 ls [.ref a] h Q ↔ T d 42 0 [.ref a, un] [] h (fun x h2 => T (d + 1) 53 51 ls (rl x []) h2 Q) := T_virtualR (as := []) (r := []) m53 m42 c53_48 k6_61  rfl (by decide) rfl (by simp [wrd, Value.category]) (by simp [stk, Value.category]) rfl (by decide +kernel) ho
theorem c53_51 : cod 53 51 = some (.pop, 1) := cod_of b53 dX6_startAnew_51
theorem t53_51 {d : Nat} {h : Hp} {Q : Pst} {x : Int32} {ls : List Value} {st : List Value} : T d 53 51 ls (.int x :: st) h Q ↔ T d 53 52 ls st h Q := T_pop c53_51 rfl
theorem c53_52 : cod 53 52 = some (.return_, 1) := cod_of b53 dX6_startAnew_52
theorem t53_52 {d : Nat} {h : Hp} {Q : Pst} {ls : List Value} : T d 53 52 ls [] h Q ↔ Q none h := T_retR m53 c53_52 rfl
theorem b54 : (mR 54).2.2.1 = cX6_takeFrom := by rw [m54]
theorem c54_0 : cod 54 0 = some (.aload_n 1, 1) := cod_of b54 dX6_takeFrom_0
theorem t54_0 {d : Nat} {h : Hp} {Q : Pst} {l0 : Value} {x : Nat} {st : List Value} : T d 54 0 [l0, .ref x] st h Q ↔ T d 54 1 [l0, .ref x] (.ref x :: st) h Q := T_aload_n c54_0 rfl
theorem c54_1 : cod 54 1 = some (.getfield 9, 3) := cod_of b54 dX6_takeFrom_1
theorem t54_1 {d : Nat} {h : Hp} {Q : Pst} {a : Nat} {ls : List Value} {st : List Value} : T d 54 1 ls (.ref a :: st) h Q ↔ gF (h.2.2 a) 5 0 (fun v => T d 54 4 ls (v :: st) h Q) := T_getfieldR m54 c54_1 f6_9
theorem c54_4 : cod 54 4 = some (.aload_n 0, 1) := cod_of b54 dX6_takeFrom_4
theorem t54_4 {d : Nat} {h : Hp} {Q : Pst} {l1 : Value} {x : Nat} {st : List Value} : T d 54 4 [.ref x, l1] st h Q ↔ T d 54 5 [.ref x, l1] (.ref x :: st) h Q := T_aload_n c54_4 rfl
theorem c54_5 : cod 54 5 = some (.getfield 9, 3) := cod_of b54 dX6_takeFrom_5
theorem t54_5 {d : Nat} {h : Hp} {Q : Pst} {a : Nat} {ls : List Value} {st : List Value} : T d 54 5 ls (.ref a :: st) h Q ↔ gF (h.2.2 a) 5 0 (fun v => T d 54 8 ls (v :: st) h Q) := T_getfieldR m54 c54_5 f6_9
theorem c54_8 : cod 54 8 = some (.invokestatic 65, 3) := cod_of b54 dX6_takeFrom_8
theorem t54_8 {d : Nat} {h : Hp} {Q : Pst} {a0 a1 : Nat} {ls : List Value} : T (d + 1) 54 8 ls [.ref a1, .ref a0] h Q ↔ T d 124 0 [.ref a0, .ref a1] [] h (fun x h2 => T (d + 1) 54 11 ls (rl x []) h2 Q) := T_staticR (as := [.ref a0, .ref a1]) (r := []) m54 m124 c54_8 k6_65 (Or.inr rfl) rfl (by decide) rfl (by simp [wrd, Value.category]) (by simp [stk, Value.category]) rfl
theorem c54_11 : cod 54 11 = some (.aload_n 1, 1) := cod_of b54 dX6_takeFrom_11
theorem t54_11 {d : Nat} {h : Hp} {Q : Pst} {l0 : Value} {x : Nat} {st : List Value} : T d 54 11 [l0, .ref x] st h Q ↔ T d 54 12 [l0, .ref x] (.ref x :: st) h Q := T_aload_n c54_11 rfl
theorem c54_12 : cod 54 12 = some (.getfield 15, 3) := cod_of b54 dX6_takeFrom_12
theorem t54_12 {d : Nat} {h : Hp} {Q : Pst} {a : Nat} {ls : List Value} {st : List Value} : T d 54 12 ls (.ref a :: st) h Q ↔ gF (h.2.2 a) 5 1 (fun v => T d 54 15 ls (v :: st) h Q) := T_getfieldR m54 c54_12 f6_15
theorem c54_15 : cod 54 15 = some (.aload_n 0, 1) := cod_of b54 dX6_takeFrom_15
theorem t54_15 {d : Nat} {h : Hp} {Q : Pst} {l1 : Value} {x : Nat} {st : List Value} : T d 54 15 [.ref x, l1] st h Q ↔ T d 54 16 [.ref x, l1] (.ref x :: st) h Q := T_aload_n c54_15 rfl
theorem c54_16 : cod 54 16 = some (.getfield 15, 3) := cod_of b54 dX6_takeFrom_16
theorem t54_16 {d : Nat} {h : Hp} {Q : Pst} {a : Nat} {ls : List Value} {st : List Value} : T d 54 16 ls (.ref a :: st) h Q ↔ gF (h.2.2 a) 5 1 (fun v => T d 54 19 ls (v :: st) h Q) := T_getfieldR m54 c54_16 f6_15
theorem c54_19 : cod 54 19 = some (.invokestatic 65, 3) := cod_of b54 dX6_takeFrom_19
theorem t54_19 {d : Nat} {h : Hp} {Q : Pst} {a0 a1 : Nat} {ls : List Value} : T (d + 1) 54 19 ls [.ref a1, .ref a0] h Q ↔ T d 124 0 [.ref a0, .ref a1] [] h (fun x h2 => T (d + 1) 54 22 ls (rl x []) h2 Q) := T_staticR (as := [.ref a0, .ref a1]) (r := []) m54 m124 c54_19 k6_65 (Or.inr rfl) rfl (by decide) rfl (by simp [wrd, Value.category]) (by simp [stk, Value.category]) rfl
theorem c54_22 : cod 54 22 = some (.aload_n 1, 1) := cod_of b54 dX6_takeFrom_22
theorem t54_22 {d : Nat} {h : Hp} {Q : Pst} {l0 : Value} {x : Nat} {st : List Value} : T d 54 22 [l0, .ref x] st h Q ↔ T d 54 23 [l0, .ref x] (.ref x :: st) h Q := T_aload_n c54_22 rfl
theorem c54_23 : cod 54 23 = some (.getfield 18, 3) := cod_of b54 dX6_takeFrom_23
theorem t54_23 {d : Nat} {h : Hp} {Q : Pst} {a : Nat} {ls : List Value} {st : List Value} : T d 54 23 ls (.ref a :: st) h Q ↔ gF (h.2.2 a) 5 2 (fun v => T d 54 26 ls (v :: st) h Q) := T_getfieldR m54 c54_23 f6_18
theorem c54_26 : cod 54 26 = some (.aload_n 0, 1) := cod_of b54 dX6_takeFrom_26
theorem t54_26 {d : Nat} {h : Hp} {Q : Pst} {l1 : Value} {x : Nat} {st : List Value} : T d 54 26 [.ref x, l1] st h Q ↔ T d 54 27 [.ref x, l1] (.ref x :: st) h Q := T_aload_n c54_26 rfl
theorem c54_27 : cod 54 27 = some (.getfield 18, 3) := cod_of b54 dX6_takeFrom_27
theorem t54_27 {d : Nat} {h : Hp} {Q : Pst} {a : Nat} {ls : List Value} {st : List Value} : T d 54 27 ls (.ref a :: st) h Q ↔ gF (h.2.2 a) 5 2 (fun v => T d 54 30 ls (v :: st) h Q) := T_getfieldR m54 c54_27 f6_18
theorem c54_30 : cod 54 30 = some (.invokestatic 65, 3) := cod_of b54 dX6_takeFrom_30
theorem t54_30 {d : Nat} {h : Hp} {Q : Pst} {a0 a1 : Nat} {ls : List Value} : T (d + 1) 54 30 ls [.ref a1, .ref a0] h Q ↔ T d 124 0 [.ref a0, .ref a1] [] h (fun x h2 => T (d + 1) 54 33 ls (rl x []) h2 Q) := T_staticR (as := [.ref a0, .ref a1]) (r := []) m54 m124 c54_30 k6_65 (Or.inr rfl) rfl (by decide) rfl (by simp [wrd, Value.category]) (by simp [stk, Value.category]) rfl
theorem c54_33 : cod 54 33 = some (.aload_n 1, 1) := cod_of b54 dX6_takeFrom_33
theorem t54_33 {d : Nat} {h : Hp} {Q : Pst} {l0 : Value} {x : Nat} {st : List Value} : T d 54 33 [l0, .ref x] st h Q ↔ T d 54 34 [l0, .ref x] (.ref x :: st) h Q := T_aload_n c54_33 rfl
theorem c54_34 : cod 54 34 = some (.getfield 21, 3) := cod_of b54 dX6_takeFrom_34
theorem t54_34 {d : Nat} {h : Hp} {Q : Pst} {a : Nat} {ls : List Value} {st : List Value} : T d 54 34 ls (.ref a :: st) h Q ↔ gF (h.2.2 a) 5 3 (fun v => T d 54 37 ls (v :: st) h Q) := T_getfieldR m54 c54_34 f6_21
theorem c54_37 : cod 54 37 = some (.aload_n 0, 1) := cod_of b54 dX6_takeFrom_37
theorem t54_37 {d : Nat} {h : Hp} {Q : Pst} {l1 : Value} {x : Nat} {st : List Value} : T d 54 37 [.ref x, l1] st h Q ↔ T d 54 38 [.ref x, l1] (.ref x :: st) h Q := T_aload_n c54_37 rfl
theorem c54_38 : cod 54 38 = some (.getfield 21, 3) := cod_of b54 dX6_takeFrom_38
theorem t54_38 {d : Nat} {h : Hp} {Q : Pst} {a : Nat} {ls : List Value} {st : List Value} : T d 54 38 ls (.ref a :: st) h Q ↔ gF (h.2.2 a) 5 3 (fun v => T d 54 41 ls (v :: st) h Q) := T_getfieldR m54 c54_38 f6_21
theorem c54_41 : cod 54 41 = some (.invokestatic 65, 3) := cod_of b54 dX6_takeFrom_41
theorem t54_41 {d : Nat} {h : Hp} {Q : Pst} {a0 a1 : Nat} {ls : List Value} : T (d + 1) 54 41 ls [.ref a1, .ref a0] h Q ↔ T d 124 0 [.ref a0, .ref a1] [] h (fun x h2 => T (d + 1) 54 44 ls (rl x []) h2 Q) := T_staticR (as := [.ref a0, .ref a1]) (r := []) m54 m124 c54_41 k6_65 (Or.inr rfl) rfl (by decide) rfl (by simp [wrd, Value.category]) (by simp [stk, Value.category]) rfl
theorem c54_44 : cod 54 44 = some (.aload_n 1, 1) := cod_of b54 dX6_takeFrom_44
theorem t54_44 {d : Nat} {h : Hp} {Q : Pst} {l0 : Value} {x : Nat} {st : List Value} : T d 54 44 [l0, .ref x] st h Q ↔ T d 54 45 [l0, .ref x] (.ref x :: st) h Q := T_aload_n c54_44 rfl
theorem c54_45 : cod 54 45 = some (.getfield 24, 3) := cod_of b54 dX6_takeFrom_45
theorem t54_45 {d : Nat} {h : Hp} {Q : Pst} {a : Nat} {ls : List Value} {st : List Value} : T d 54 45 ls (.ref a :: st) h Q ↔ gF (h.2.2 a) 5 4 (fun v => T d 54 48 ls (v :: st) h Q) := T_getfieldR m54 c54_45 f6_24
theorem c54_48 : cod 54 48 = some (.aload_n 0, 1) := cod_of b54 dX6_takeFrom_48
theorem t54_48 {d : Nat} {h : Hp} {Q : Pst} {l1 : Value} {x : Nat} {st : List Value} : T d 54 48 [.ref x, l1] st h Q ↔ T d 54 49 [.ref x, l1] (.ref x :: st) h Q := T_aload_n c54_48 rfl
theorem c54_49 : cod 54 49 = some (.getfield 24, 3) := cod_of b54 dX6_takeFrom_49
theorem t54_49 {d : Nat} {h : Hp} {Q : Pst} {a : Nat} {ls : List Value} {st : List Value} : T d 54 49 ls (.ref a :: st) h Q ↔ gF (h.2.2 a) 5 4 (fun v => T d 54 52 ls (v :: st) h Q) := T_getfieldR m54 c54_49 f6_24
theorem c54_52 : cod 54 52 = some (.invokestatic 65, 3) := cod_of b54 dX6_takeFrom_52
theorem t54_52 {d : Nat} {h : Hp} {Q : Pst} {a0 a1 : Nat} {ls : List Value} : T (d + 1) 54 52 ls [.ref a1, .ref a0] h Q ↔ T d 124 0 [.ref a0, .ref a1] [] h (fun x h2 => T (d + 1) 54 55 ls (rl x []) h2 Q) := T_staticR (as := [.ref a0, .ref a1]) (r := []) m54 m124 c54_52 k6_65 (Or.inr rfl) rfl (by decide) rfl (by simp [wrd, Value.category]) (by simp [stk, Value.category]) rfl
theorem c54_55 : cod 54 55 = some (.aload_n 1, 1) := cod_of b54 dX6_takeFrom_55
theorem t54_55 {d : Nat} {h : Hp} {Q : Pst} {l0 : Value} {x : Nat} {st : List Value} : T d 54 55 [l0, .ref x] st h Q ↔ T d 54 56 [l0, .ref x] (.ref x :: st) h Q := T_aload_n c54_55 rfl
theorem c54_56 : cod 54 56 = some (.getfield 27, 3) := cod_of b54 dX6_takeFrom_56
theorem t54_56 {d : Nat} {h : Hp} {Q : Pst} {a : Nat} {ls : List Value} {st : List Value} : T d 54 56 ls (.ref a :: st) h Q ↔ gF (h.2.2 a) 5 5 (fun v => T d 54 59 ls (v :: st) h Q) := T_getfieldR m54 c54_56 f6_27
theorem c54_59 : cod 54 59 = some (.aload_n 0, 1) := cod_of b54 dX6_takeFrom_59
theorem t54_59 {d : Nat} {h : Hp} {Q : Pst} {l1 : Value} {x : Nat} {st : List Value} : T d 54 59 [.ref x, l1] st h Q ↔ T d 54 60 [.ref x, l1] (.ref x :: st) h Q := T_aload_n c54_59 rfl
theorem c54_60 : cod 54 60 = some (.getfield 27, 3) := cod_of b54 dX6_takeFrom_60
theorem t54_60 {d : Nat} {h : Hp} {Q : Pst} {a : Nat} {ls : List Value} {st : List Value} : T d 54 60 ls (.ref a :: st) h Q ↔ gF (h.2.2 a) 5 5 (fun v => T d 54 63 ls (v :: st) h Q) := T_getfieldR m54 c54_60 f6_27
theorem c54_63 : cod 54 63 = some (.invokestatic 65, 3) := cod_of b54 dX6_takeFrom_63
theorem t54_63 {d : Nat} {h : Hp} {Q : Pst} {a0 a1 : Nat} {ls : List Value} : T (d + 1) 54 63 ls [.ref a1, .ref a0] h Q ↔ T d 124 0 [.ref a0, .ref a1] [] h (fun x h2 => T (d + 1) 54 66 ls (rl x []) h2 Q) := T_staticR (as := [.ref a0, .ref a1]) (r := []) m54 m124 c54_63 k6_65 (Or.inr rfl) rfl (by decide) rfl (by simp [wrd, Value.category]) (by simp [stk, Value.category]) rfl
theorem c54_66 : cod 54 66 = some (.aload_n 0, 1) := cod_of b54 dX6_takeFrom_66
theorem t54_66 {d : Nat} {h : Hp} {Q : Pst} {l1 : Value} {x : Nat} {st : List Value} : T d 54 66 [.ref x, l1] st h Q ↔ T d 54 67 [.ref x, l1] (.ref x :: st) h Q := T_aload_n c54_66 rfl
theorem c54_67 : cod 54 67 = some (.getfield 35, 3) := cod_of b54 dX6_takeFrom_67
theorem t54_67 {d : Nat} {h : Hp} {Q : Pst} {a : Nat} {ls : List Value} {st : List Value} : T d 54 67 ls (.ref a :: st) h Q ↔ gF (h.2.2 a) 5 6 (fun v => T d 54 70 ls (v :: st) h Q) := T_getfieldR m54 c54_67 f6_35
theorem c54_70 : cod 54 70 = some (.aload_n 1, 1) := cod_of b54 dX6_takeFrom_70
theorem t54_70 {d : Nat} {h : Hp} {Q : Pst} {l0 : Value} {x : Nat} {st : List Value} : T d 54 70 [l0, .ref x] st h Q ↔ T d 54 71 [l0, .ref x] (.ref x :: st) h Q := T_aload_n c54_70 rfl
theorem c54_71 : cod 54 71 = some (.getfield 35, 3) := cod_of b54 dX6_takeFrom_71
theorem t54_71 {d : Nat} {h : Hp} {Q : Pst} {a : Nat} {ls : List Value} {st : List Value} : T d 54 71 ls (.ref a :: st) h Q ↔ gF (h.2.2 a) 5 6 (fun v => T d 54 74 ls (v :: st) h Q) := T_getfieldR m54 c54_71 f6_35
theorem c54_74 : cod 54 74 = some (.invokevirtual 69, 3) := cod_of b54 dX6_takeFrom_74
theorem t54_74 {d : Nat} {h : Hp} {Q : Pst} {a0 a : Nat} {ls : List Value} (ho : isO (h.2.2 a) 3) : T (d + 1) 54 74 ls [.ref a0, .ref a] h Q ↔ T d 43 0 [.ref a, .ref a0] [] h (fun x h2 => T (d + 1) 54 77 ls (rl x []) h2 Q) := T_virtualR (as := [.ref a0]) (r := []) m54 m43 c54_74 k6_69  rfl (by decide) rfl (by simp [wrd, Value.category]) (by simp [stk, Value.category]) rfl (by decide +kernel) ho
theorem c54_77 : cod 54 77 = some (.aload_n 0, 1) := cod_of b54 dX6_takeFrom_77
theorem t54_77 {d : Nat} {h : Hp} {Q : Pst} {l1 : Value} {x : Nat} {st : List Value} : T d 54 77 [.ref x, l1] st h Q ↔ T d 54 78 [.ref x, l1] (.ref x :: st) h Q := T_aload_n c54_77 rfl
theorem c54_78 : cod 54 78 = some (.getfield 39, 3) := cod_of b54 dX6_takeFrom_78
theorem t54_78 {d : Nat} {h : Hp} {Q : Pst} {a : Nat} {ls : List Value} {st : List Value} : T d 54 78 ls (.ref a :: st) h Q ↔ gF (h.2.2 a) 5 7 (fun v => T d 54 81 ls (v :: st) h Q) := T_getfieldR m54 c54_78 f6_39
theorem c54_81 : cod 54 81 = some (.aload_n 1, 1) := cod_of b54 dX6_takeFrom_81
theorem t54_81 {d : Nat} {h : Hp} {Q : Pst} {l0 : Value} {x : Nat} {st : List Value} : T d 54 81 [l0, .ref x] st h Q ↔ T d 54 82 [l0, .ref x] (.ref x :: st) h Q := T_aload_n c54_81 rfl
theorem c54_82 : cod 54 82 = some (.getfield 39, 3) := cod_of b54 dX6_takeFrom_82
theorem t54_82 {d : Nat} {h : Hp} {Q : Pst} {a : Nat} {ls : List Value} {st : List Value} : T d 54 82 ls (.ref a :: st) h Q ↔ gF (h.2.2 a) 5 7 (fun v => T d 54 85 ls (v :: st) h Q) := T_getfieldR m54 c54_82 f6_39
theorem c54_85 : cod 54 85 = some (.invokevirtual 69, 3) := cod_of b54 dX6_takeFrom_85
theorem t54_85 {d : Nat} {h : Hp} {Q : Pst} {a0 a : Nat} {ls : List Value} (ho : isO (h.2.2 a) 3) : T (d + 1) 54 85 ls [.ref a0, .ref a] h Q ↔ T d 43 0 [.ref a, .ref a0] [] h (fun x h2 => T (d + 1) 54 88 ls (rl x []) h2 Q) := T_virtualR (as := [.ref a0]) (r := []) m54 m43 c54_85 k6_69  rfl (by decide) rfl (by simp [wrd, Value.category]) (by simp [stk, Value.category]) rfl (by decide +kernel) ho
theorem c54_88 : cod 54 88 = some (.aload_n 0, 1) := cod_of b54 dX6_takeFrom_88
theorem t54_88 {d : Nat} {h : Hp} {Q : Pst} {l1 : Value} {x : Nat} {st : List Value} : T d 54 88 [.ref x, l1] st h Q ↔ T d 54 89 [.ref x, l1] (.ref x :: st) h Q := T_aload_n c54_88 rfl
theorem c54_89 : cod 54 89 = some (.getfield 42, 3) := cod_of b54 dX6_takeFrom_89
theorem t54_89 {d : Nat} {h : Hp} {Q : Pst} {a : Nat} {ls : List Value} {st : List Value} : T d 54 89 ls (.ref a :: st) h Q ↔ gF (h.2.2 a) 5 8 (fun v => T d 54 92 ls (v :: st) h Q) := T_getfieldR m54 c54_89 f6_42
theorem c54_92 : cod 54 92 = some (.aload_n 1, 1) := cod_of b54 dX6_takeFrom_92
theorem t54_92 {d : Nat} {h : Hp} {Q : Pst} {l0 : Value} {x : Nat} {st : List Value} : T d 54 92 [l0, .ref x] st h Q ↔ T d 54 93 [l0, .ref x] (.ref x :: st) h Q := T_aload_n c54_92 rfl
theorem c54_93 : cod 54 93 = some (.getfield 42, 3) := cod_of b54 dX6_takeFrom_93
theorem t54_93 {d : Nat} {h : Hp} {Q : Pst} {a : Nat} {ls : List Value} {st : List Value} : T d 54 93 ls (.ref a :: st) h Q ↔ gF (h.2.2 a) 5 8 (fun v => T d 54 96 ls (v :: st) h Q) := T_getfieldR m54 c54_93 f6_42
theorem c54_96 : cod 54 96 = some (.invokevirtual 69, 3) := cod_of b54 dX6_takeFrom_96
theorem t54_96 {d : Nat} {h : Hp} {Q : Pst} {a0 a : Nat} {ls : List Value} (ho : isO (h.2.2 a) 3) : T (d + 1) 54 96 ls [.ref a0, .ref a] h Q ↔ T d 43 0 [.ref a, .ref a0] [] h (fun x h2 => T (d + 1) 54 99 ls (rl x []) h2 Q) := T_virtualR (as := [.ref a0]) (r := []) m54 m43 c54_96 k6_69  rfl (by decide) rfl (by simp [wrd, Value.category]) (by simp [stk, Value.category]) rfl (by decide +kernel) ho
theorem c54_99 : cod 54 99 = some (.aload_n 0, 1) := cod_of b54 dX6_takeFrom_99
theorem t54_99 {d : Nat} {h : Hp} {Q : Pst} {l1 : Value} {x : Nat} {st : List Value} : T d 54 99 [.ref x, l1] st h Q ↔ T d 54 100 [.ref x, l1] (.ref x :: st) h Q := T_aload_n c54_99 rfl
theorem c54_100 : cod 54 100 = some (.getfield 45, 3) := cod_of b54 dX6_takeFrom_100
theorem t54_100 {d : Nat} {h : Hp} {Q : Pst} {a : Nat} {ls : List Value} {st : List Value} : T d 54 100 ls (.ref a :: st) h Q ↔ gF (h.2.2 a) 5 9 (fun v => T d 54 103 ls (v :: st) h Q) := T_getfieldR m54 c54_100 f6_45
theorem c54_103 : cod 54 103 = some (.aload_n 1, 1) := cod_of b54 dX6_takeFrom_103
theorem t54_103 {d : Nat} {h : Hp} {Q : Pst} {l0 : Value} {x : Nat} {st : List Value} : T d 54 103 [l0, .ref x] st h Q ↔ T d 54 104 [l0, .ref x] (.ref x :: st) h Q := T_aload_n c54_103 rfl
theorem c54_104 : cod 54 104 = some (.getfield 45, 3) := cod_of b54 dX6_takeFrom_104
theorem t54_104 {d : Nat} {h : Hp} {Q : Pst} {a : Nat} {ls : List Value} {st : List Value} : T d 54 104 ls (.ref a :: st) h Q ↔ gF (h.2.2 a) 5 9 (fun v => T d 54 107 ls (v :: st) h Q) := T_getfieldR m54 c54_104 f6_45
theorem c54_107 : cod 54 107 = some (.invokevirtual 69, 3) := cod_of b54 dX6_takeFrom_107
theorem t54_107 {d : Nat} {h : Hp} {Q : Pst} {a0 a : Nat} {ls : List Value} (ho : isO (h.2.2 a) 3) : T (d + 1) 54 107 ls [.ref a0, .ref a] h Q ↔ T d 43 0 [.ref a, .ref a0] [] h (fun x h2 => T (d + 1) 54 110 ls (rl x []) h2 Q) := T_virtualR (as := [.ref a0]) (r := []) m54 m43 c54_107 k6_69  rfl (by decide) rfl (by simp [wrd, Value.category]) (by simp [stk, Value.category]) rfl (by decide +kernel) ho
theorem c54_110 : cod 54 110 = some (.aload_n 0, 1) := cod_of b54 dX6_takeFrom_110
theorem t54_110 {d : Nat} {h : Hp} {Q : Pst} {l1 : Value} {x : Nat} {st : List Value} : T d 54 110 [.ref x, l1] st h Q ↔ T d 54 111 [.ref x, l1] (.ref x :: st) h Q := T_aload_n c54_110 rfl
theorem c54_111 : cod 54 111 = some (.aload_n 1, 1) := cod_of b54 dX6_takeFrom_111
theorem t54_111 {d : Nat} {h : Hp} {Q : Pst} {l0 : Value} {x : Nat} {st : List Value} : T d 54 111 [l0, .ref x] st h Q ↔ T d 54 112 [l0, .ref x] (.ref x :: st) h Q := T_aload_n c54_111 rfl
theorem c54_112 : cod 54 112 = some (.getfield 48, 3) := cod_of b54 dX6_takeFrom_112
theorem t54_112 {d : Nat} {h : Hp} {Q : Pst} {a : Nat} {ls : List Value} {st : List Value} : T d 54 112 ls (.ref a :: st) h Q ↔ gF (h.2.2 a) 5 10 (fun v => T d 54 115 ls (v :: st) h Q) := T_getfieldR m54 c54_112 f6_48
theorem c54_115 : cod 54 115 = some (.putfield 48, 3) := cod_of b54 dX6_takeFrom_115
theorem t54_115 {d : Nat} {h : Hp} {Q : Pst} {a : Nat} {x : Int32} {ls : List Value} {st : List Value} : T d 54 115 ls (.int x :: .ref a :: st) h Q ↔ pF (h.2.2 a) 5 10 (.int x) (fun cell => T d 54 118 ls st (hup h a cell) Q) := T_putfieldR m54 c54_115 f6_48 (by decide +kernel)
theorem c54_118 : cod 54 118 = some (.aload_n 0, 1) := cod_of b54 dX6_takeFrom_118
theorem t54_118 {d : Nat} {h : Hp} {Q : Pst} {l1 : Value} {x : Nat} {st : List Value} : T d 54 118 [.ref x, l1] st h Q ↔ T d 54 119 [.ref x, l1] (.ref x :: st) h Q := T_aload_n c54_118 rfl
theorem c54_119 : cod 54 119 = some (.aload_n 1, 1) := cod_of b54 dX6_takeFrom_119
theorem t54_119 {d : Nat} {h : Hp} {Q : Pst} {l0 : Value} {x : Nat} {st : List Value} : T d 54 119 [l0, .ref x] st h Q ↔ T d 54 120 [l0, .ref x] (.ref x :: st) h Q := T_aload_n c54_119 rfl
theorem c54_120 : cod 54 120 = some (.getfield 52, 3) := cod_of b54 dX6_takeFrom_120
theorem t54_120 {d : Nat} {h : Hp} {Q : Pst} {a : Nat} {ls : List Value} {st : List Value} : T d 54 120 ls (.ref a :: st) h Q ↔ gF (h.2.2 a) 5 11 (fun v => T d 54 123 ls (v :: st) h Q) := T_getfieldR m54 c54_120 f6_52
theorem c54_123 : cod 54 123 = some (.putfield 52, 3) := cod_of b54 dX6_takeFrom_123
theorem t54_123 {d : Nat} {h : Hp} {Q : Pst} {a : Nat} {x : Int32} {ls : List Value} {st : List Value} : T d 54 123 ls (.int x :: .ref a :: st) h Q ↔ pF (h.2.2 a) 5 11 (.int x) (fun cell => T d 54 126 ls st (hup h a cell) Q) := T_putfieldR m54 c54_123 f6_52 (by decide +kernel)
theorem c54_126 : cod 54 126 = some (.aload_n 0, 1) := cod_of b54 dX6_takeFrom_126
theorem t54_126 {d : Nat} {h : Hp} {Q : Pst} {l1 : Value} {x : Nat} {st : List Value} : T d 54 126 [.ref x, l1] st h Q ↔ T d 54 127 [.ref x, l1] (.ref x :: st) h Q := T_aload_n c54_126 rfl
theorem c54_127 : cod 54 127 = some (.aload_n 1, 1) := cod_of b54 dX6_takeFrom_127
theorem t54_127 {d : Nat} {h : Hp} {Q : Pst} {l0 : Value} {x : Nat} {st : List Value} : T d 54 127 [l0, .ref x] st h Q ↔ T d 54 128 [l0, .ref x] (.ref x :: st) h Q := T_aload_n c54_127 rfl
theorem c54_128 : cod 54 128 = some (.getfield 55, 3) := cod_of b54 dX6_takeFrom_128
theorem t54_128 {d : Nat} {h : Hp} {Q : Pst} {a : Nat} {ls : List Value} {st : List Value} : T d 54 128 ls (.ref a :: st) h Q ↔ gF (h.2.2 a) 5 12 (fun v => T d 54 131 ls (v :: st) h Q) := T_getfieldR m54 c54_128 f6_55
theorem c54_131 : cod 54 131 = some (.putfield 55, 3) := cod_of b54 dX6_takeFrom_131
theorem t54_131 {d : Nat} {h : Hp} {Q : Pst} {a : Nat} {x : Int32} {ls : List Value} {st : List Value} : T d 54 131 ls (.int x :: .ref a :: st) h Q ↔ pF (h.2.2 a) 5 12 (.int x) (fun cell => T d 54 134 ls st (hup h a cell) Q) := T_putfieldR m54 c54_131 f6_55 (by decide +kernel)
theorem c54_134 : cod 54 134 = some (.aload_n 0, 1) := cod_of b54 dX6_takeFrom_134
theorem t54_134 {d : Nat} {h : Hp} {Q : Pst} {l1 : Value} {x : Nat} {st : List Value} : T d 54 134 [.ref x, l1] st h Q ↔ T d 54 135 [.ref x, l1] (.ref x :: st) h Q := T_aload_n c54_134 rfl
theorem c54_135 : cod 54 135 = some (.aload_n 1, 1) := cod_of b54 dX6_takeFrom_135
theorem t54_135 {d : Nat} {h : Hp} {Q : Pst} {l0 : Value} {x : Nat} {st : List Value} : T d 54 135 [l0, .ref x] st h Q ↔ T d 54 136 [l0, .ref x] (.ref x :: st) h Q := T_aload_n c54_135 rfl
theorem c54_136 : cod 54 136 = some (.getfield 58, 3) := cod_of b54 dX6_takeFrom_136
theorem t54_136 {d : Nat} {h : Hp} {Q : Pst} {a : Nat} {ls : List Value} {st : List Value} : T d 54 136 ls (.ref a :: st) h Q ↔ gF (h.2.2 a) 5 13 (fun v => T d 54 139 ls (v :: st) h Q) := T_getfieldR m54 c54_136 f6_58
theorem c54_139 : cod 54 139 = some (.putfield 58, 3) := cod_of b54 dX6_takeFrom_139
theorem t54_139 {d : Nat} {h : Hp} {Q : Pst} {a : Nat} {x : Int32} {ls : List Value} {st : List Value} : T d 54 139 ls (.int x :: .ref a :: st) h Q ↔ pF (h.2.2 a) 5 13 (.int x) (fun cell => T d 54 142 ls st (hup h a cell) Q) := T_putfieldR m54 c54_139 f6_58 (by decide +kernel)
theorem c54_142 : cod 54 142 = some (.return_, 1) := cod_of b54 dX6_takeFrom_142
theorem t54_142 {d : Nat} {h : Hp} {Q : Pst} {ls : List Value} : T d 54 142 ls [] h Q ↔ Q none h := T_retR m54 c54_142 rfl
theorem b55 : (mR 55).2.2.1 = cX6_hasGuest := by rw [m55]
theorem c55_0 : cod 55 0 = some (.iload_n 1, 1) := cod_of b55 dX6_hasGuest_0
theorem t55_0 {d : Nat} {h : Hp} {Q : Pst} {l0 : Value} {x : Int32} {st : List Value} : T d 55 0 [l0, .int x] st h Q ↔ T d 55 1 [l0, .int x] (.int x :: st) h Q := T_iload_n c55_0 rfl
theorem c55_1 : cod 55 1 = some (.iconst 0, 1) := cod_of b55 dX6_hasGuest_1
theorem t55_1 {d : Nat} {h : Hp} {Q : Pst} {ls : List Value} {st : List Value} : T d 55 1 ls st h Q ↔ T d 55 2 ls (.int 0 :: st) h Q := T_iconstV c55_1 (by decide)
theorem c55_2 : cod 55 2 = some (.aload_n 0, 1) := cod_of b55 dX6_hasGuest_2
theorem t55_2 {d : Nat} {h : Hp} {Q : Pst} {l1 : Value} {x : Nat} {st : List Value} : T d 55 2 [.ref x, l1] st h Q ↔ T d 55 3 [.ref x, l1] (.ref x :: st) h Q := T_aload_n c55_2 rfl
theorem c55_3 : cod 55 3 = some (.getfield 48, 3) := cod_of b55 dX6_hasGuest_3
theorem t55_3 {d : Nat} {h : Hp} {Q : Pst} {a : Nat} {ls : List Value} {st : List Value} : T d 55 3 ls (.ref a :: st) h Q ↔ gF (h.2.2 a) 5 10 (fun v => T d 55 6 ls (v :: st) h Q) := T_getfieldR m55 c55_3 f6_48
theorem c55_6 : cod 55 6 = some (.iconst 1, 1) := cod_of b55 dX6_hasGuest_6
theorem t55_6 {d : Nat} {h : Hp} {Q : Pst} {ls : List Value} {st : List Value} : T d 55 6 ls st h Q ↔ T d 55 7 ls (.int 1 :: st) h Q := T_iconstV c55_6 (by decide)
theorem c55_7 : cod 55 7 = some (.isub, 1) := cod_of b55 dX6_hasGuest_7
theorem t55_7 {d : Nat} {h : Hp} {Q : Pst} {x y : Int32} {ls : List Value} {st : List Value} : T d 55 7 ls (.int y :: .int x :: st) h Q ↔ T d 55 8 ls (.int (x - y) :: st) h Q := T_isub c55_7
theorem c55_8 : cod 55 8 = some (.invokestatic 73, 3) := cod_of b55 dX6_hasGuest_8
theorem t55_8 {d : Nat} {h : Hp} {Q : Pst} {a0 a1 a2 : Int32} {ls : List Value} : T (d + 1) 55 8 ls [.int a2, .int a1, .int a0] h Q ↔ T d 118 0 [.int a0, .int a1, .int a2] [] h (fun x h2 => T (d + 1) 55 11 ls (rl x []) h2 Q) := T_staticR (as := [.int a0, .int a1, .int a2]) (r := []) m55 m118 c55_8 k6_73 (Or.inr rfl) rfl (by decide) rfl (by simp [wrd, Value.category]) (by simp [stk, Value.category]) rfl
theorem c55_11 : cod 55 11 = some (.ireturn, 1) := cod_of b55 dX6_hasGuest_11
theorem t55_11 {d : Nat} {h : Hp} {Q : Pst} {x : Int32} {ls : List Value} : T d 55 11 ls [.int x] h Q ↔ (narrow .boolean (.int x) = .int x ∧ Q (some (.int x)) h) := T_zretR m55 c55_11 rfl
theorem b56 : (mR 56).2.2.1 = cX6_hasHouse := by rw [m56]
theorem c56_0 : cod 56 0 = some (.iload_n 1, 1) := cod_of b56 dX6_hasHouse_0
theorem t56_0 {d : Nat} {h : Hp} {Q : Pst} {l0 : Value} {x : Int32} {st : List Value} : T d 56 0 [l0, .int x] st h Q ↔ T d 56 1 [l0, .int x] (.int x :: st) h Q := T_iload_n c56_0 rfl
theorem c56_1 : cod 56 1 = some (.iconst 0, 1) := cod_of b56 dX6_hasHouse_1
theorem t56_1 {d : Nat} {h : Hp} {Q : Pst} {ls : List Value} {st : List Value} : T d 56 1 ls st h Q ↔ T d 56 2 ls (.int 0 :: st) h Q := T_iconstV c56_1 (by decide)
theorem c56_2 : cod 56 2 = some (.aload_n 0, 1) := cod_of b56 dX6_hasHouse_2
theorem t56_2 {d : Nat} {h : Hp} {Q : Pst} {l1 : Value} {x : Nat} {st : List Value} : T d 56 2 [.ref x, l1] st h Q ↔ T d 56 3 [.ref x, l1] (.ref x :: st) h Q := T_aload_n c56_2 rfl
theorem c56_3 : cod 56 3 = some (.getfield 52, 3) := cod_of b56 dX6_hasHouse_3
theorem t56_3 {d : Nat} {h : Hp} {Q : Pst} {a : Nat} {ls : List Value} {st : List Value} : T d 56 3 ls (.ref a :: st) h Q ↔ gF (h.2.2 a) 5 11 (fun v => T d 56 6 ls (v :: st) h Q) := T_getfieldR m56 c56_3 f6_52
theorem c56_6 : cod 56 6 = some (.iconst 1, 1) := cod_of b56 dX6_hasHouse_6
theorem t56_6 {d : Nat} {h : Hp} {Q : Pst} {ls : List Value} {st : List Value} : T d 56 6 ls st h Q ↔ T d 56 7 ls (.int 1 :: st) h Q := T_iconstV c56_6 (by decide)
theorem c56_7 : cod 56 7 = some (.isub, 1) := cod_of b56 dX6_hasHouse_7
theorem t56_7 {d : Nat} {h : Hp} {Q : Pst} {x y : Int32} {ls : List Value} {st : List Value} : T d 56 7 ls (.int y :: .int x :: st) h Q ↔ T d 56 8 ls (.int (x - y) :: st) h Q := T_isub c56_7
theorem c56_8 : cod 56 8 = some (.invokestatic 73, 3) := cod_of b56 dX6_hasHouse_8
theorem t56_8 {d : Nat} {h : Hp} {Q : Pst} {a0 a1 a2 : Int32} {ls : List Value} : T (d + 1) 56 8 ls [.int a2, .int a1, .int a0] h Q ↔ T d 118 0 [.int a0, .int a1, .int a2] [] h (fun x h2 => T (d + 1) 56 11 ls (rl x []) h2 Q) := T_staticR (as := [.int a0, .int a1, .int a2]) (r := []) m56 m118 c56_8 k6_73 (Or.inr rfl) rfl (by decide) rfl (by simp [wrd, Value.category]) (by simp [stk, Value.category]) rfl
theorem c56_11 : cod 56 11 = some (.ireturn, 1) := cod_of b56 dX6_hasHouse_11
theorem t56_11 {d : Nat} {h : Hp} {Q : Pst} {x : Int32} {ls : List Value} : T d 56 11 ls [.int x] h Q ↔ (narrow .boolean (.int x) = .int x ∧ Q (some (.int x)) h) := T_zretR m56 c56_11 rfl
theorem b57 : (mR 57).2.2.1 = cX6_addGuest := by rw [m57]
theorem c57_0 : cod 57 0 = some (.aload_n 0, 1) := cod_of b57 dX6_addGuest_0
theorem t57_0 {d : Nat} {h : Hp} {Q : Pst} {l1 l2 : Value} {x : Nat} {st : List Value} : T d 57 0 [.ref x, l1, l2] st h Q ↔ T d 57 1 [.ref x, l1, l2] (.ref x :: st) h Q := T_aload_n c57_0 rfl
theorem c57_1 : cod 57 1 = some (.getfield 9, 3) := cod_of b57 dX6_addGuest_1
theorem t57_1 {d : Nat} {h : Hp} {Q : Pst} {a : Nat} {ls : List Value} {st : List Value} : T d 57 1 ls (.ref a :: st) h Q ↔ gF (h.2.2 a) 5 0 (fun v => T d 57 4 ls (v :: st) h Q) := T_getfieldR m57 c57_1 f6_9
theorem c57_4 : cod 57 4 = some (.aload_n 0, 1) := cod_of b57 dX6_addGuest_4
theorem t57_4 {d : Nat} {h : Hp} {Q : Pst} {l1 l2 : Value} {x : Nat} {st : List Value} : T d 57 4 [.ref x, l1, l2] st h Q ↔ T d 57 5 [.ref x, l1, l2] (.ref x :: st) h Q := T_aload_n c57_4 rfl
theorem c57_5 : cod 57 5 = some (.getfield 48, 3) := cod_of b57 dX6_addGuest_5
theorem t57_5 {d : Nat} {h : Hp} {Q : Pst} {a : Nat} {ls : List Value} {st : List Value} : T d 57 5 ls (.ref a :: st) h Q ↔ gF (h.2.2 a) 5 10 (fun v => T d 57 8 ls (v :: st) h Q) := T_getfieldR m57 c57_5 f6_48
theorem c57_8 : cod 57 8 = some (.iload_n 1, 1) := cod_of b57 dX6_addGuest_8
theorem t57_8 {d : Nat} {h : Hp} {Q : Pst} {l0 l2 : Value} {x : Int32} {st : List Value} : T d 57 8 [l0, .int x, l2] st h Q ↔ T d 57 9 [l0, .int x, l2] (.int x :: st) h Q := T_iload_n c57_8 rfl
theorem c57_9 : cod 57 9 = some (.invokestatic 77, 3) := cod_of b57 dX6_addGuest_9
theorem t57_9 {d : Nat} {h : Hp} {Q : Pst} {a0 : Nat} {a1 a2 : Int32} {ls : List Value} : T (d + 1) 57 9 ls [.int a2, .int a1, .ref a0] h Q ↔ T d 123 0 [.ref a0, .int a1, .int a2] [] h (fun x h2 => T (d + 1) 57 12 ls (rl x []) h2 Q) := T_staticR (as := [.ref a0, .int a1, .int a2]) (r := []) m57 m123 c57_9 k6_77 (Or.inr rfl) rfl (by decide) rfl (by simp [wrd, Value.category]) (by simp [stk, Value.category]) rfl
theorem c57_12 : cod 57 12 = some (.aload_n 0, 1) := cod_of b57 dX6_addGuest_12
theorem t57_12 {d : Nat} {h : Hp} {Q : Pst} {l1 l2 : Value} {x : Nat} {st : List Value} : T d 57 12 [.ref x, l1, l2] st h Q ↔ T d 57 13 [.ref x, l1, l2] (.ref x :: st) h Q := T_aload_n c57_12 rfl
theorem c57_13 : cod 57 13 = some (.getfield 15, 3) := cod_of b57 dX6_addGuest_13
theorem t57_13 {d : Nat} {h : Hp} {Q : Pst} {a : Nat} {ls : List Value} {st : List Value} : T d 57 13 ls (.ref a :: st) h Q ↔ gF (h.2.2 a) 5 1 (fun v => T d 57 16 ls (v :: st) h Q) := T_getfieldR m57 c57_13 f6_15
theorem c57_16 : cod 57 16 = some (.aload_n 0, 1) := cod_of b57 dX6_addGuest_16
theorem t57_16 {d : Nat} {h : Hp} {Q : Pst} {l1 l2 : Value} {x : Nat} {st : List Value} : T d 57 16 [.ref x, l1, l2] st h Q ↔ T d 57 17 [.ref x, l1, l2] (.ref x :: st) h Q := T_aload_n c57_16 rfl
theorem c57_17 : cod 57 17 = some (.getfield 48, 3) := cod_of b57 dX6_addGuest_17
theorem t57_17 {d : Nat} {h : Hp} {Q : Pst} {a : Nat} {ls : List Value} {st : List Value} : T d 57 17 ls (.ref a :: st) h Q ↔ gF (h.2.2 a) 5 10 (fun v => T d 57 20 ls (v :: st) h Q) := T_getfieldR m57 c57_17 f6_48
theorem c57_20 : cod 57 20 = some (.iload_n 2, 1) := cod_of b57 dX6_addGuest_20
theorem t57_20 {d : Nat} {h : Hp} {Q : Pst} {l0 l1 : Value} {x : Int32} {st : List Value} : T d 57 20 [l0, l1, .int x] st h Q ↔ T d 57 21 [l0, l1, .int x] (.int x :: st) h Q := T_iload_n c57_20 rfl
theorem c57_21 : cod 57 21 = some (.invokestatic 77, 3) := cod_of b57 dX6_addGuest_21
theorem t57_21 {d : Nat} {h : Hp} {Q : Pst} {a0 : Nat} {a1 a2 : Int32} {ls : List Value} : T (d + 1) 57 21 ls [.int a2, .int a1, .ref a0] h Q ↔ T d 123 0 [.ref a0, .int a1, .int a2] [] h (fun x h2 => T (d + 1) 57 24 ls (rl x []) h2 Q) := T_staticR (as := [.ref a0, .int a1, .int a2]) (r := []) m57 m123 c57_21 k6_77 (Or.inr rfl) rfl (by decide) rfl (by simp [wrd, Value.category]) (by simp [stk, Value.category]) rfl
theorem c57_24 : cod 57 24 = some (.aload_n 0, 1) := cod_of b57 dX6_addGuest_24
theorem t57_24 {d : Nat} {h : Hp} {Q : Pst} {l1 l2 : Value} {x : Nat} {st : List Value} : T d 57 24 [.ref x, l1, l2] st h Q ↔ T d 57 25 [.ref x, l1, l2] (.ref x :: st) h Q := T_aload_n c57_24 rfl
theorem c57_25 : cod 57 25 = some (.getfield 18, 3) := cod_of b57 dX6_addGuest_25
theorem t57_25 {d : Nat} {h : Hp} {Q : Pst} {a : Nat} {ls : List Value} {st : List Value} : T d 57 25 ls (.ref a :: st) h Q ↔ gF (h.2.2 a) 5 2 (fun v => T d 57 28 ls (v :: st) h Q) := T_getfieldR m57 c57_25 f6_18
theorem c57_28 : cod 57 28 = some (.aload_n 0, 1) := cod_of b57 dX6_addGuest_28
theorem t57_28 {d : Nat} {h : Hp} {Q : Pst} {l1 l2 : Value} {x : Nat} {st : List Value} : T d 57 28 [.ref x, l1, l2] st h Q ↔ T d 57 29 [.ref x, l1, l2] (.ref x :: st) h Q := T_aload_n c57_28 rfl
theorem c57_29 : cod 57 29 = some (.getfield 48, 3) := cod_of b57 dX6_addGuest_29
theorem t57_29 {d : Nat} {h : Hp} {Q : Pst} {a : Nat} {ls : List Value} {st : List Value} : T d 57 29 ls (.ref a :: st) h Q ↔ gF (h.2.2 a) 5 10 (fun v => T d 57 32 ls (v :: st) h Q) := T_getfieldR m57 c57_29 f6_48
theorem c57_32 : cod 57 32 = some (.iconst (-1), 1) := cod_of b57 dX6_addGuest_32
theorem t57_32 {d : Nat} {h : Hp} {Q : Pst} {ls : List Value} {st : List Value} : T d 57 32 ls st h Q ↔ T d 57 33 ls (.int (-1) :: st) h Q := T_iconstV c57_32 (by decide)
theorem c57_33 : cod 57 33 = some (.invokestatic 77, 3) := cod_of b57 dX6_addGuest_33
theorem t57_33 {d : Nat} {h : Hp} {Q : Pst} {a0 : Nat} {a1 a2 : Int32} {ls : List Value} : T (d + 1) 57 33 ls [.int a2, .int a1, .ref a0] h Q ↔ T d 123 0 [.ref a0, .int a1, .int a2] [] h (fun x h2 => T (d + 1) 57 36 ls (rl x []) h2 Q) := T_staticR (as := [.ref a0, .int a1, .int a2]) (r := []) m57 m123 c57_33 k6_77 (Or.inr rfl) rfl (by decide) rfl (by simp [wrd, Value.category]) (by simp [stk, Value.category]) rfl
theorem c57_36 : cod 57 36 = some (.aload_n 0, 1) := cod_of b57 dX6_addGuest_36
theorem t57_36 {d : Nat} {h : Hp} {Q : Pst} {l1 l2 : Value} {x : Nat} {st : List Value} : T d 57 36 [.ref x, l1, l2] st h Q ↔ T d 57 37 [.ref x, l1, l2] (.ref x :: st) h Q := T_aload_n c57_36 rfl
theorem c57_37 : cod 57 37 = some (.getfield 45, 3) := cod_of b57 dX6_addGuest_37
theorem t57_37 {d : Nat} {h : Hp} {Q : Pst} {a : Nat} {ls : List Value} {st : List Value} : T d 57 37 ls (.ref a :: st) h Q ↔ gF (h.2.2 a) 5 9 (fun v => T d 57 40 ls (v :: st) h Q) := T_getfieldR m57 c57_37 f6_45
theorem c57_40 : cod 57 40 = some (.invokevirtual 61, 3) := cod_of b57 dX6_addGuest_40
theorem t57_40 {d : Nat} {h : Hp} {Q : Pst} {a : Nat} {ls : List Value} (ho : isO (h.2.2 a) 3) : T (d + 1) 57 40 ls [.ref a] h Q ↔ T d 42 0 [.ref a, un] [] h (fun x h2 => T (d + 1) 57 43 ls (rl x []) h2 Q) := T_virtualR (as := []) (r := []) m57 m42 c57_40 k6_61  rfl (by decide) rfl (by simp [wrd, Value.category]) (by simp [stk, Value.category]) rfl (by decide +kernel) ho
theorem c57_43 : cod 57 43 = some (.pop, 1) := cod_of b57 dX6_addGuest_43
theorem t57_43 {d : Nat} {h : Hp} {Q : Pst} {x : Int32} {ls : List Value} {st : List Value} : T d 57 43 ls (.int x :: st) h Q ↔ T d 57 44 ls st h Q := T_pop c57_43 rfl
theorem c57_44 : cod 57 44 = some (.aload_n 0, 1) := cod_of b57 dX6_addGuest_44
theorem t57_44 {d : Nat} {h : Hp} {Q : Pst} {l1 l2 : Value} {x : Nat} {st : List Value} : T d 57 44 [.ref x, l1, l2] st h Q ↔ T d 57 45 [.ref x, l1, l2] (.ref x :: st) h Q := T_aload_n c57_44 rfl
theorem c57_45 : cod 57 45 = some (.dup, 1) := cod_of b57 dX6_addGuest_45
theorem t57_45 {d : Nat} {h : Hp} {Q : Pst} {x : Nat} {ls : List Value} {st : List Value} : T d 57 45 ls (.ref x :: st) h Q ↔ T d 57 46 ls (.ref x :: .ref x :: st) h Q := T_dup c57_45 rfl
theorem c57_46 : cod 57 46 = some (.getfield 48, 3) := cod_of b57 dX6_addGuest_46
theorem t57_46 {d : Nat} {h : Hp} {Q : Pst} {a : Nat} {ls : List Value} {st : List Value} : T d 57 46 ls (.ref a :: st) h Q ↔ gF (h.2.2 a) 5 10 (fun v => T d 57 49 ls (v :: st) h Q) := T_getfieldR m57 c57_46 f6_48
theorem c57_49 : cod 57 49 = some (.iconst 1, 1) := cod_of b57 dX6_addGuest_49
theorem t57_49 {d : Nat} {h : Hp} {Q : Pst} {ls : List Value} {st : List Value} : T d 57 49 ls st h Q ↔ T d 57 50 ls (.int 1 :: st) h Q := T_iconstV c57_49 (by decide)
theorem c57_50 : cod 57 50 = some (.iadd, 1) := cod_of b57 dX6_addGuest_50
theorem t57_50 {d : Nat} {h : Hp} {Q : Pst} {x y : Int32} {ls : List Value} {st : List Value} : T d 57 50 ls (.int y :: .int x :: st) h Q ↔ T d 57 51 ls (.int (x + y) :: st) h Q := T_iadd c57_50
theorem c57_51 : cod 57 51 = some (.putfield 48, 3) := cod_of b57 dX6_addGuest_51
theorem t57_51 {d : Nat} {h : Hp} {Q : Pst} {a : Nat} {x : Int32} {ls : List Value} {st : List Value} : T d 57 51 ls (.int x :: .ref a :: st) h Q ↔ pF (h.2.2 a) 5 10 (.int x) (fun cell => T d 57 54 ls st (hup h a cell) Q) := T_putfieldR m57 c57_51 f6_48 (by decide +kernel)
theorem c57_54 : cod 57 54 = some (.aload_n 0, 1) := cod_of b57 dX6_addGuest_54
theorem t57_54 {d : Nat} {h : Hp} {Q : Pst} {l1 l2 : Value} {x : Nat} {st : List Value} : T d 57 54 [.ref x, l1, l2] st h Q ↔ T d 57 55 [.ref x, l1, l2] (.ref x :: st) h Q := T_aload_n c57_54 rfl
theorem c57_55 : cod 57 55 = some (.getfield 48, 3) := cod_of b57 dX6_addGuest_55
theorem t57_55 {d : Nat} {h : Hp} {Q : Pst} {a : Nat} {ls : List Value} {st : List Value} : T d 57 55 ls (.ref a :: st) h Q ↔ gF (h.2.2 a) 5 10 (fun v => T d 57 58 ls (v :: st) h Q) := T_getfieldR m57 c57_55 f6_48
theorem c57_58 : cod 57 58 = some (.iconst 1, 1) := cod_of b57 dX6_addGuest_58
theorem t57_58 {d : Nat} {h : Hp} {Q : Pst} {ls : List Value} {st : List Value} : T d 57 58 ls st h Q ↔ T d 57 59 ls (.int 1 :: st) h Q := T_iconstV c57_58 (by decide)
theorem c57_59 : cod 57 59 = some (.isub, 1) := cod_of b57 dX6_addGuest_59
theorem t57_59 {d : Nat} {h : Hp} {Q : Pst} {x y : Int32} {ls : List Value} {st : List Value} : T d 57 59 ls (.int y :: .int x :: st) h Q ↔ T d 57 60 ls (.int (x - y) :: st) h Q := T_isub c57_59
theorem c57_60 : cod 57 60 = some (.ireturn, 1) := cod_of b57 dX6_addGuest_60
theorem t57_60 {d : Nat} {h : Hp} {Q : Pst} {x : Int32} {ls : List Value} : T d 57 60 ls [.int x] h Q ↔ Q (some (.int x)) h := T_iretR m57 c57_60 rfl
theorem b58 : (mR 58).2.2.1 = cX6_addHouse := by rw [m58]
theorem c58_0 : cod 58 0 = some (.aload_n 0, 1) := cod_of b58 dX6_addHouse_0
theorem t58_0 {d : Nat} {h : Hp} {Q : Pst} {l1 l2 : Value} {x : Nat} {st : List Value} : T d 58 0 [.ref x, l1, l2] st h Q ↔ T d 58 1 [.ref x, l1, l2] (.ref x :: st) h Q := T_aload_n c58_0 rfl
theorem c58_1 : cod 58 1 = some (.getfield 21, 3) := cod_of b58 dX6_addHouse_1
theorem t58_1 {d : Nat} {h : Hp} {Q : Pst} {a : Nat} {ls : List Value} {st : List Value} : T d 58 1 ls (.ref a :: st) h Q ↔ gF (h.2.2 a) 5 3 (fun v => T d 58 4 ls (v :: st) h Q) := T_getfieldR m58 c58_1 f6_21
theorem c58_4 : cod 58 4 = some (.aload_n 0, 1) := cod_of b58 dX6_addHouse_4
theorem t58_4 {d : Nat} {h : Hp} {Q : Pst} {l1 l2 : Value} {x : Nat} {st : List Value} : T d 58 4 [.ref x, l1, l2] st h Q ↔ T d 58 5 [.ref x, l1, l2] (.ref x :: st) h Q := T_aload_n c58_4 rfl
theorem c58_5 : cod 58 5 = some (.getfield 52, 3) := cod_of b58 dX6_addHouse_5
theorem t58_5 {d : Nat} {h : Hp} {Q : Pst} {a : Nat} {ls : List Value} {st : List Value} : T d 58 5 ls (.ref a :: st) h Q ↔ gF (h.2.2 a) 5 11 (fun v => T d 58 8 ls (v :: st) h Q) := T_getfieldR m58 c58_5 f6_52
theorem c58_8 : cod 58 8 = some (.iload_n 1, 1) := cod_of b58 dX6_addHouse_8
theorem t58_8 {d : Nat} {h : Hp} {Q : Pst} {l0 l2 : Value} {x : Int32} {st : List Value} : T d 58 8 [l0, .int x, l2] st h Q ↔ T d 58 9 [l0, .int x, l2] (.int x :: st) h Q := T_iload_n c58_8 rfl
theorem c58_9 : cod 58 9 = some (.invokestatic 77, 3) := cod_of b58 dX6_addHouse_9
theorem t58_9 {d : Nat} {h : Hp} {Q : Pst} {a0 : Nat} {a1 a2 : Int32} {ls : List Value} : T (d + 1) 58 9 ls [.int a2, .int a1, .ref a0] h Q ↔ T d 123 0 [.ref a0, .int a1, .int a2] [] h (fun x h2 => T (d + 1) 58 12 ls (rl x []) h2 Q) := T_staticR (as := [.ref a0, .int a1, .int a2]) (r := []) m58 m123 c58_9 k6_77 (Or.inr rfl) rfl (by decide) rfl (by simp [wrd, Value.category]) (by simp [stk, Value.category]) rfl
theorem c58_12 : cod 58 12 = some (.aload_n 0, 1) := cod_of b58 dX6_addHouse_12
theorem t58_12 {d : Nat} {h : Hp} {Q : Pst} {l1 l2 : Value} {x : Nat} {st : List Value} : T d 58 12 [.ref x, l1, l2] st h Q ↔ T d 58 13 [.ref x, l1, l2] (.ref x :: st) h Q := T_aload_n c58_12 rfl
theorem c58_13 : cod 58 13 = some (.getfield 24, 3) := cod_of b58 dX6_addHouse_13
theorem t58_13 {d : Nat} {h : Hp} {Q : Pst} {a : Nat} {ls : List Value} {st : List Value} : T d 58 13 ls (.ref a :: st) h Q ↔ gF (h.2.2 a) 5 4 (fun v => T d 58 16 ls (v :: st) h Q) := T_getfieldR m58 c58_13 f6_24
theorem c58_16 : cod 58 16 = some (.aload_n 0, 1) := cod_of b58 dX6_addHouse_16
theorem t58_16 {d : Nat} {h : Hp} {Q : Pst} {l1 l2 : Value} {x : Nat} {st : List Value} : T d 58 16 [.ref x, l1, l2] st h Q ↔ T d 58 17 [.ref x, l1, l2] (.ref x :: st) h Q := T_aload_n c58_16 rfl
theorem c58_17 : cod 58 17 = some (.getfield 52, 3) := cod_of b58 dX6_addHouse_17
theorem t58_17 {d : Nat} {h : Hp} {Q : Pst} {a : Nat} {ls : List Value} {st : List Value} : T d 58 17 ls (.ref a :: st) h Q ↔ gF (h.2.2 a) 5 11 (fun v => T d 58 20 ls (v :: st) h Q) := T_getfieldR m58 c58_17 f6_52
theorem c58_20 : cod 58 20 = some (.iload_n 2, 1) := cod_of b58 dX6_addHouse_20
theorem t58_20 {d : Nat} {h : Hp} {Q : Pst} {l0 l1 : Value} {x : Int32} {st : List Value} : T d 58 20 [l0, l1, .int x] st h Q ↔ T d 58 21 [l0, l1, .int x] (.int x :: st) h Q := T_iload_n c58_20 rfl
theorem c58_21 : cod 58 21 = some (.invokestatic 77, 3) := cod_of b58 dX6_addHouse_21
theorem t58_21 {d : Nat} {h : Hp} {Q : Pst} {a0 : Nat} {a1 a2 : Int32} {ls : List Value} : T (d + 1) 58 21 ls [.int a2, .int a1, .ref a0] h Q ↔ T d 123 0 [.ref a0, .int a1, .int a2] [] h (fun x h2 => T (d + 1) 58 24 ls (rl x []) h2 Q) := T_staticR (as := [.ref a0, .int a1, .int a2]) (r := []) m58 m123 c58_21 k6_77 (Or.inr rfl) rfl (by decide) rfl (by simp [wrd, Value.category]) (by simp [stk, Value.category]) rfl
theorem c58_24 : cod 58 24 = some (.aload_n 0, 1) := cod_of b58 dX6_addHouse_24
theorem t58_24 {d : Nat} {h : Hp} {Q : Pst} {l1 l2 : Value} {x : Nat} {st : List Value} : T d 58 24 [.ref x, l1, l2] st h Q ↔ T d 58 25 [.ref x, l1, l2] (.ref x :: st) h Q := T_aload_n c58_24 rfl
theorem c58_25 : cod 58 25 = some (.getfield 27, 3) := cod_of b58 dX6_addHouse_25
theorem t58_25 {d : Nat} {h : Hp} {Q : Pst} {a : Nat} {ls : List Value} {st : List Value} : T d 58 25 ls (.ref a :: st) h Q ↔ gF (h.2.2 a) 5 5 (fun v => T d 58 28 ls (v :: st) h Q) := T_getfieldR m58 c58_25 f6_27
theorem c58_28 : cod 58 28 = some (.aload_n 0, 1) := cod_of b58 dX6_addHouse_28
theorem t58_28 {d : Nat} {h : Hp} {Q : Pst} {l1 l2 : Value} {x : Nat} {st : List Value} : T d 58 28 [.ref x, l1, l2] st h Q ↔ T d 58 29 [.ref x, l1, l2] (.ref x :: st) h Q := T_aload_n c58_28 rfl
theorem c58_29 : cod 58 29 = some (.getfield 52, 3) := cod_of b58 dX6_addHouse_29
theorem t58_29 {d : Nat} {h : Hp} {Q : Pst} {a : Nat} {ls : List Value} {st : List Value} : T d 58 29 ls (.ref a :: st) h Q ↔ gF (h.2.2 a) 5 11 (fun v => T d 58 32 ls (v :: st) h Q) := T_getfieldR m58 c58_29 f6_52
theorem c58_32 : cod 58 32 = some (.iconst 0, 1) := cod_of b58 dX6_addHouse_32
theorem t58_32 {d : Nat} {h : Hp} {Q : Pst} {ls : List Value} {st : List Value} : T d 58 32 ls st h Q ↔ T d 58 33 ls (.int 0 :: st) h Q := T_iconstV c58_32 (by decide)
theorem c58_33 : cod 58 33 = some (.invokestatic 77, 3) := cod_of b58 dX6_addHouse_33
theorem t58_33 {d : Nat} {h : Hp} {Q : Pst} {a0 : Nat} {a1 a2 : Int32} {ls : List Value} : T (d + 1) 58 33 ls [.int a2, .int a1, .ref a0] h Q ↔ T d 123 0 [.ref a0, .int a1, .int a2] [] h (fun x h2 => T (d + 1) 58 36 ls (rl x []) h2 Q) := T_staticR (as := [.ref a0, .int a1, .int a2]) (r := []) m58 m123 c58_33 k6_77 (Or.inr rfl) rfl (by decide) rfl (by simp [wrd, Value.category]) (by simp [stk, Value.category]) rfl
theorem c58_36 : cod 58 36 = some (.aload_n 0, 1) := cod_of b58 dX6_addHouse_36
theorem t58_36 {d : Nat} {h : Hp} {Q : Pst} {l1 l2 : Value} {x : Nat} {st : List Value} : T d 58 36 [.ref x, l1, l2] st h Q ↔ T d 58 37 [.ref x, l1, l2] (.ref x :: st) h Q := T_aload_n c58_36 rfl
theorem c58_37 : cod 58 37 = some (.getfield 45, 3) := cod_of b58 dX6_addHouse_37
theorem t58_37 {d : Nat} {h : Hp} {Q : Pst} {a : Nat} {ls : List Value} {st : List Value} : T d 58 37 ls (.ref a :: st) h Q ↔ gF (h.2.2 a) 5 9 (fun v => T d 58 40 ls (v :: st) h Q) := T_getfieldR m58 c58_37 f6_45
theorem c58_40 : cod 58 40 = some (.invokevirtual 61, 3) := cod_of b58 dX6_addHouse_40
theorem t58_40 {d : Nat} {h : Hp} {Q : Pst} {a : Nat} {ls : List Value} (ho : isO (h.2.2 a) 3) : T (d + 1) 58 40 ls [.ref a] h Q ↔ T d 42 0 [.ref a, un] [] h (fun x h2 => T (d + 1) 58 43 ls (rl x []) h2 Q) := T_virtualR (as := []) (r := []) m58 m42 c58_40 k6_61  rfl (by decide) rfl (by simp [wrd, Value.category]) (by simp [stk, Value.category]) rfl (by decide +kernel) ho
theorem c58_43 : cod 58 43 = some (.pop, 1) := cod_of b58 dX6_addHouse_43
theorem t58_43 {d : Nat} {h : Hp} {Q : Pst} {x : Int32} {ls : List Value} {st : List Value} : T d 58 43 ls (.int x :: st) h Q ↔ T d 58 44 ls st h Q := T_pop c58_43 rfl
theorem c58_44 : cod 58 44 = some (.aload_n 0, 1) := cod_of b58 dX6_addHouse_44
theorem t58_44 {d : Nat} {h : Hp} {Q : Pst} {l1 l2 : Value} {x : Nat} {st : List Value} : T d 58 44 [.ref x, l1, l2] st h Q ↔ T d 58 45 [.ref x, l1, l2] (.ref x :: st) h Q := T_aload_n c58_44 rfl
theorem c58_45 : cod 58 45 = some (.dup, 1) := cod_of b58 dX6_addHouse_45
theorem t58_45 {d : Nat} {h : Hp} {Q : Pst} {x : Nat} {ls : List Value} {st : List Value} : T d 58 45 ls (.ref x :: st) h Q ↔ T d 58 46 ls (.ref x :: .ref x :: st) h Q := T_dup c58_45 rfl
theorem c58_46 : cod 58 46 = some (.getfield 52, 3) := cod_of b58 dX6_addHouse_46
theorem t58_46 {d : Nat} {h : Hp} {Q : Pst} {a : Nat} {ls : List Value} {st : List Value} : T d 58 46 ls (.ref a :: st) h Q ↔ gF (h.2.2 a) 5 11 (fun v => T d 58 49 ls (v :: st) h Q) := T_getfieldR m58 c58_46 f6_52
theorem c58_49 : cod 58 49 = some (.iconst 1, 1) := cod_of b58 dX6_addHouse_49
theorem t58_49 {d : Nat} {h : Hp} {Q : Pst} {ls : List Value} {st : List Value} : T d 58 49 ls st h Q ↔ T d 58 50 ls (.int 1 :: st) h Q := T_iconstV c58_49 (by decide)
theorem c58_50 : cod 58 50 = some (.iadd, 1) := cod_of b58 dX6_addHouse_50
theorem t58_50 {d : Nat} {h : Hp} {Q : Pst} {x y : Int32} {ls : List Value} {st : List Value} : T d 58 50 ls (.int y :: .int x :: st) h Q ↔ T d 58 51 ls (.int (x + y) :: st) h Q := T_iadd c58_50
theorem c58_51 : cod 58 51 = some (.putfield 52, 3) := cod_of b58 dX6_addHouse_51
theorem t58_51 {d : Nat} {h : Hp} {Q : Pst} {a : Nat} {x : Int32} {ls : List Value} {st : List Value} : T d 58 51 ls (.int x :: .ref a :: st) h Q ↔ pF (h.2.2 a) 5 11 (.int x) (fun cell => T d 58 54 ls st (hup h a cell) Q) := T_putfieldR m58 c58_51 f6_52 (by decide +kernel)
theorem c58_54 : cod 58 54 = some (.aload_n 0, 1) := cod_of b58 dX6_addHouse_54
theorem t58_54 {d : Nat} {h : Hp} {Q : Pst} {l1 l2 : Value} {x : Nat} {st : List Value} : T d 58 54 [.ref x, l1, l2] st h Q ↔ T d 58 55 [.ref x, l1, l2] (.ref x :: st) h Q := T_aload_n c58_54 rfl
theorem c58_55 : cod 58 55 = some (.getfield 52, 3) := cod_of b58 dX6_addHouse_55
theorem t58_55 {d : Nat} {h : Hp} {Q : Pst} {a : Nat} {ls : List Value} {st : List Value} : T d 58 55 ls (.ref a :: st) h Q ↔ gF (h.2.2 a) 5 11 (fun v => T d 58 58 ls (v :: st) h Q) := T_getfieldR m58 c58_55 f6_52
theorem c58_58 : cod 58 58 = some (.iconst 1, 1) := cod_of b58 dX6_addHouse_58
theorem t58_58 {d : Nat} {h : Hp} {Q : Pst} {ls : List Value} {st : List Value} : T d 58 58 ls st h Q ↔ T d 58 59 ls (.int 1 :: st) h Q := T_iconstV c58_58 (by decide)
theorem c58_59 : cod 58 59 = some (.isub, 1) := cod_of b58 dX6_addHouse_59
theorem t58_59 {d : Nat} {h : Hp} {Q : Pst} {x y : Int32} {ls : List Value} {st : List Value} : T d 58 59 ls (.int y :: .int x :: st) h Q ↔ T d 58 60 ls (.int (x - y) :: st) h Q := T_isub c58_59
theorem c58_60 : cod 58 60 = some (.ireturn, 1) := cod_of b58 dX6_addHouse_60
theorem t58_60 {d : Nat} {h : Hp} {Q : Pst} {x : Int32} {ls : List Value} : T d 58 60 ls [.int x] h Q ↔ Q (some (.int x)) h := T_iretR m58 c58_60 rfl
theorem b59 : (mR 59).2.2.1 = cX6_awayFromHome := by rw [m59]
theorem c59_0 : cod 59 0 = some (.iconst 0, 1) := cod_of b59 dX6_awayFromHome_0
theorem t59_0 {d : Nat} {h : Hp} {Q : Pst} {ls : List Value} {st : List Value} : T d 59 0 ls st h Q ↔ T d 59 1 ls (.int 0 :: st) h Q := T_iconstV c59_0 (by decide)
theorem c59_1 : cod 59 1 = some (.istore_n 1, 1) := cod_of b59 dX6_awayFromHome_1
theorem t59_1 {d : Nat} {h : Hp} {Q : Pst} {l0 l1 l2 : Value} {x : Int32} {st : List Value} : T d 59 1 [l0, l1, l2] (.int x :: st) h Q ↔ T d 59 2 [kil l0, .int x, l2] st h Q := T_istore_n c59_1 (Nat.le_of_ble_eq_true rfl)
theorem c59_2 : cod 59 2 = some (.iconst 0, 1) := cod_of b59 dX6_awayFromHome_2
theorem t59_2 {d : Nat} {h : Hp} {Q : Pst} {ls : List Value} {st : List Value} : T d 59 2 ls st h Q ↔ T d 59 3 ls (.int 0 :: st) h Q := T_iconstV c59_2 (by decide)
theorem c59_3 : cod 59 3 = some (.istore_n 2, 1) := cod_of b59 dX6_awayFromHome_3
theorem t59_3 {d : Nat} {h : Hp} {Q : Pst} {l0 l1 l2 : Value} {x : Int32} {st : List Value} : T d 59 3 [l0, l1, l2] (.int x :: st) h Q ↔ T d 59 4 [l0, kil l1, .int x] st h Q := T_istore_n c59_3 (Nat.le_of_ble_eq_true rfl)
theorem c59_4 : cod 59 4 = some (.iload_n 2, 1) := cod_of b59 dX6_awayFromHome_4
theorem t59_4 {d : Nat} {h : Hp} {Q : Pst} {l0 l1 : Value} {x : Int32} {st : List Value} : T d 59 4 [l0, l1, .int x] st h Q ↔ T d 59 5 [l0, l1, .int x] (.int x :: st) h Q := T_iload_n c59_4 rfl
theorem c59_5 : cod 59 5 = some (.aload_n 0, 1) := cod_of b59 dX6_awayFromHome_5
theorem t59_5 {d : Nat} {h : Hp} {Q : Pst} {l1 l2 : Value} {x : Nat} {st : List Value} : T d 59 5 [.ref x, l1, l2] st h Q ↔ T d 59 6 [.ref x, l1, l2] (.ref x :: st) h Q := T_aload_n c59_5 rfl
theorem c59_6 : cod 59 6 = some (.getfield 48, 3) := cod_of b59 dX6_awayFromHome_6
theorem t59_6 {d : Nat} {h : Hp} {Q : Pst} {a : Nat} {ls : List Value} {st : List Value} : T d 59 6 ls (.ref a :: st) h Q ↔ gF (h.2.2 a) 5 10 (fun v => T d 59 9 ls (v :: st) h Q) := T_getfieldR m59 c59_6 f6_48
theorem c59_9 : cod 59 9 = some (.if_icmp .ge 24, 3) := cod_of b59 dX6_awayFromHome_9
theorem t59_9 {d : Nat} {h : Hp} {Q : Pst} {x y : Int32} {ls : List Value} {st : List Value} : T d 59 9 ls (.int y :: .int x :: st) h Q ↔ (if y ≤ x then T d 59 33 ls st h Q else T d 59 12 ls st h Q) := T_icmp_ge c59_9 (by decide)
theorem c59_12 : cod 59 12 = some (.aload_n 0, 1) := cod_of b59 dX6_awayFromHome_12
theorem t59_12 {d : Nat} {h : Hp} {Q : Pst} {l1 l2 : Value} {x : Nat} {st : List Value} : T d 59 12 [.ref x, l1, l2] st h Q ↔ T d 59 13 [.ref x, l1, l2] (.ref x :: st) h Q := T_aload_n c59_12 rfl
theorem c59_13 : cod 59 13 = some (.getfield 18, 3) := cod_of b59 dX6_awayFromHome_13
theorem t59_13 {d : Nat} {h : Hp} {Q : Pst} {a : Nat} {ls : List Value} {st : List Value} : T d 59 13 ls (.ref a :: st) h Q ↔ gF (h.2.2 a) 5 2 (fun v => T d 59 16 ls (v :: st) h Q) := T_getfieldR m59 c59_13 f6_18
theorem c59_16 : cod 59 16 = some (.iload_n 2, 1) := cod_of b59 dX6_awayFromHome_16
theorem t59_16 {d : Nat} {h : Hp} {Q : Pst} {l0 l1 : Value} {x : Int32} {st : List Value} : T d 59 16 [l0, l1, .int x] st h Q ↔ T d 59 17 [l0, l1, .int x] (.int x :: st) h Q := T_iload_n c59_16 rfl
theorem c59_17 : cod 59 17 = some (.invokestatic 81, 3) := cod_of b59 dX6_awayFromHome_17
theorem t59_17 {d : Nat} {h : Hp} {Q : Pst} {a0 : Nat} {a1 : Int32} {ls : List Value} : T (d + 1) 59 17 ls [.int a1, .ref a0] h Q ↔ T d 122 0 [.ref a0, .int a1] [] h (fun x h2 => T (d + 1) 59 20 ls (rl x []) h2 Q) := T_staticR (as := [.ref a0, .int a1]) (r := []) m59 m122 c59_17 k6_81 (Or.inr rfl) rfl (by decide) rfl (by simp [wrd, Value.category]) (by simp [stk, Value.category]) rfl
theorem c59_20 : cod 59 20 = some (.iconst (-1), 1) := cod_of b59 dX6_awayFromHome_20
theorem t59_20 {d : Nat} {h : Hp} {Q : Pst} {ls : List Value} {st : List Value} : T d 59 20 ls st h Q ↔ T d 59 21 ls (.int (-1) :: st) h Q := T_iconstV c59_20 (by decide)
theorem c59_21 : cod 59 21 = some (.if_icmp .eq 6, 3) := cod_of b59 dX6_awayFromHome_21
theorem t59_21 {d : Nat} {h : Hp} {Q : Pst} {x y : Int32} {ls : List Value} {st : List Value} : T d 59 21 ls (.int y :: .int x :: st) h Q ↔ (if x = y then T d 59 27 ls st h Q else T d 59 24 ls st h Q) := T_icmp_eq c59_21 (by decide)
theorem c59_24 : cod 59 24 = some (.iinc 1 1, 3) := cod_of b59 dX6_awayFromHome_24
theorem t59_24 {d : Nat} {h : Hp} {Q : Pst} {l0 l2 : Value} {x : Int32} {st : List Value} : T d 59 24 [l0, .int x, l2] st h Q ↔ T d 59 27 [kil l0, .int (x + 1), l2] st h Q := T_iincV c59_24 rfl (Nat.le_of_ble_eq_true rfl) (by decide) rfl
theorem c59_27 : cod 59 27 = some (.iinc 2 1, 3) := cod_of b59 dX6_awayFromHome_27
theorem t59_27 {d : Nat} {h : Hp} {Q : Pst} {l0 l1 : Value} {x : Int32} {st : List Value} : T d 59 27 [l0, l1, .int x] st h Q ↔ T d 59 30 [l0, kil l1, .int (x + 1)] st h Q := T_iincV c59_27 rfl (Nat.le_of_ble_eq_true rfl) (by decide) rfl
theorem c59_30 : cod 59 30 = some (.goto (-26), 3) := cod_of b59 dX6_awayFromHome_30
theorem t59_30 {d : Nat} {h : Hp} {Q : Pst} {ls : List Value} {st : List Value} : T d 59 30 ls st h Q ↔ T d 59 4 ls st h Q := T_goto c59_30 (by decide)
theorem c59_33 : cod 59 33 = some (.iload_n 1, 1) := cod_of b59 dX6_awayFromHome_33
theorem t59_33 {d : Nat} {h : Hp} {Q : Pst} {l0 l2 : Value} {x : Int32} {st : List Value} : T d 59 33 [l0, .int x, l2] st h Q ↔ T d 59 34 [l0, .int x, l2] (.int x :: st) h Q := T_iload_n c59_33 rfl
theorem c59_34 : cod 59 34 = some (.ireturn, 1) := cod_of b59 dX6_awayFromHome_34
theorem t59_34 {d : Nat} {h : Hp} {Q : Pst} {x : Int32} {ls : List Value} : T d 59 34 ls [.int x] h Q ↔ Q (some (.int x)) h := T_iretR m59 c59_34 rfl
