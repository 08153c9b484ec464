theorem b60 : (mR 60).2.2.1 = cX6_allLiking := by rw [m60]
theorem c60_0 : cod 60 0 = some (.iconst 0, 1) := cod_of b60 dX6_allLiking_0
theorem t60_0 {d : Nat} {h : Hp} {Q : Pst} {ls : List Value} {st : List Value} : T d 60 0 ls st h Q ↔ T d 60 1 ls (.int 0 :: st) h Q := T_iconstV c60_0 (by decide)
theorem c60_1 : cod 60 1 = some (.istore_n 1, 1) := cod_of b60 dX6_allLiking_1
theorem t60_1 {d : Nat} {h : Hp} {Q : Pst} {l0 l1 l2 : Value} {x : Int32} {st : List Value} : T d 60 1 [l0, l1, l2] (.int x :: st) h Q ↔ T d 60 2 [kil l0, .int x, l2] st h Q := T_istore_n c60_1 (Nat.le_of_ble_eq_true rfl)
theorem c60_2 : cod 60 2 = some (.iconst 0, 1) := cod_of b60 dX6_allLiking_2
theorem t60_2 {d : Nat} {h : Hp} {Q : Pst} {ls : List Value} {st : List Value} : T d 60 2 ls st h Q ↔ T d 60 3 ls (.int 0 :: st) h Q := T_iconstV c60_2 (by decide)
theorem c60_3 : cod 60 3 = some (.istore_n 2, 1) := cod_of b60 dX6_allLiking_3
theorem t60_3 {d : Nat} {h : Hp} {Q : Pst} {l0 l1 l2 : Value} {x : Int32} {st : List Value} : T d 60 3 [l0, l1, l2] (.int x :: st) h Q ↔ T d 60 4 [l0, kil l1, .int x] st h Q := T_istore_n c60_3 (Nat.le_of_ble_eq_true rfl)
theorem c60_4 : cod 60 4 = some (.iload_n 2, 1) := cod_of b60 dX6_allLiking_4
theorem t60_4 {d : Nat} {h : Hp} {Q : Pst} {l0 l1 : Value} {x : Int32} {st : List Value} : T d 60 4 [l0, l1, .int x] st h Q ↔ T d 60 5 [l0, l1, .int x] (.int x :: st) h Q := T_iload_n c60_4 rfl
theorem c60_5 : cod 60 5 = some (.aload_n 0, 1) := cod_of b60 dX6_allLiking_5
theorem t60_5 {d : Nat} {h : Hp} {Q : Pst} {l1 l2 : Value} {x : Nat} {st : List Value} : T d 60 5 [.ref x, l1, l2] st h Q ↔ T d 60 6 [.ref x, l1, l2] (.ref x :: st) h Q := T_aload_n c60_5 rfl
theorem c60_6 : cod 60 6 = some (.getfield 52, 3) := cod_of b60 dX6_allLiking_6
theorem t60_6 {d : Nat} {h : Hp} {Q : Pst} {a : Nat} {ls : List Value} {st : List Value} : T d 60 6 ls (.ref a :: st) h Q ↔ gF (h.2.2 a) 5 11 (fun v => T d 60 9 ls (v :: st) h Q) := T_getfieldR m60 c60_6 f6_52
theorem c60_9 : cod 60 9 = some (.if_icmp .ge 20, 3) := cod_of b60 dX6_allLiking_9
theorem t60_9 {d : Nat} {h : Hp} {Q : Pst} {x y : Int32} {ls : List Value} {st : List Value} : T d 60 9 ls (.int y :: .int x :: st) h Q ↔ (if y ≤ x then T d 60 29 ls st h Q else T d 60 12 ls st h Q) := T_icmp_ge c60_9 (by decide)
theorem c60_12 : cod 60 12 = some (.iload_n 1, 1) := cod_of b60 dX6_allLiking_12
theorem t60_12 {d : Nat} {h : Hp} {Q : Pst} {l0 l2 : Value} {x : Int32} {st : List Value} : T d 60 12 [l0, .int x, l2] st h Q ↔ T d 60 13 [l0, .int x, l2] (.int x :: st) h Q := T_iload_n c60_12 rfl
theorem c60_13 : cod 60 13 = some (.aload_n 0, 1) := cod_of b60 dX6_allLiking_13
theorem t60_13 {d : Nat} {h : Hp} {Q : Pst} {l1 l2 : Value} {x : Nat} {st : List Value} : T d 60 13 [.ref x, l1, l2] st h Q ↔ T d 60 14 [.ref x, l1, l2] (.ref x :: st) h Q := T_aload_n c60_13 rfl
theorem c60_14 : cod 60 14 = some (.getfield 27, 3) := cod_of b60 dX6_allLiking_14
theorem t60_14 {d : Nat} {h : Hp} {Q : Pst} {a : Nat} {ls : List Value} {st : List Value} : T d 60 14 ls (.ref a :: st) h Q ↔ gF (h.2.2 a) 5 5 (fun v => T d 60 17 ls (v :: st) h Q) := T_getfieldR m60 c60_14 f6_27
theorem c60_17 : cod 60 17 = some (.iload_n 2, 1) := cod_of b60 dX6_allLiking_17
theorem t60_17 {d : Nat} {h : Hp} {Q : Pst} {l0 l1 : Value} {x : Int32} {st : List Value} : T d 60 17 [l0, l1, .int x] st h Q ↔ T d 60 18 [l0, l1, .int x] (.int x :: st) h Q := T_iload_n c60_17 rfl
theorem c60_18 : cod 60 18 = some (.invokestatic 81, 3) := cod_of b60 dX6_allLiking_18
theorem t60_18 {d : Nat} {h : Hp} {Q : Pst} {a0 : Nat} {a1 s0 : Int32} {ls : List Value} : T (d + 1) 60 18 ls [.int a1, .ref a0, .int s0] h Q ↔ T d 122 0 [.ref a0, .int a1] [] h (fun x h2 => T (d + 1) 60 21 ls (rl x [.int s0]) h2 Q) := T_staticR (as := [.ref a0, .int a1]) (r := [.int s0]) m60 m122 c60_18 k6_81 (Or.inr rfl) rfl (by decide) rfl (by simp [wrd, Value.category]) (by simp [stk, Value.category]) rfl
theorem c60_21 : cod 60 21 = some (.iadd, 1) := cod_of b60 dX6_allLiking_21
theorem t60_21 {d : Nat} {h : Hp} {Q : Pst} {x y : Int32} {ls : List Value} {st : List Value} : T d 60 21 ls (.int y :: .int x :: st) h Q ↔ T d 60 22 ls (.int (x + y) :: st) h Q := T_iadd c60_21
theorem c60_22 : cod 60 22 = some (.istore_n 1, 1) := cod_of b60 dX6_allLiking_22
theorem t60_22 {d : Nat} {h : Hp} {Q : Pst} {l0 l1 l2 : Value} {x : Int32} {st : List Value} : T d 60 22 [l0, l1, l2] (.int x :: st) h Q ↔ T d 60 23 [kil l0, .int x, l2] st h Q := T_istore_n c60_22 (Nat.le_of_ble_eq_true rfl)
theorem c60_23 : cod 60 23 = some (.iinc 2 1, 3) := cod_of b60 dX6_allLiking_23
theorem t60_23 {d : Nat} {h : Hp} {Q : Pst} {l0 l1 : Value} {x : Int32} {st : List Value} : T d 60 23 [l0, l1, .int x] st h Q ↔ T d 60 26 [l0, kil l1, .int (x + 1)] st h Q := T_iincV c60_23 rfl (Nat.le_of_ble_eq_true rfl) (by decide) rfl
theorem c60_26 : cod 60 26 = some (.goto (-22), 3) := cod_of b60 dX6_allLiking_26
theorem t60_26 {d : Nat} {h : Hp} {Q : Pst} {ls : List Value} {st : List Value} : T d 60 26 ls st h Q ↔ T d 60 4 ls st h Q := T_goto c60_26 (by decide)
theorem c60_29 : cod 60 29 = some (.iload_n 1, 1) := cod_of b60 dX6_allLiking_29
theorem t60_29 {d : Nat} {h : Hp} {Q : Pst} {l0 l2 : Value} {x : Int32} {st : List Value} : T d 60 29 [l0, .int x, l2] st h Q ↔ T d 60 30 [l0, .int x, l2] (.int x :: st) h Q := T_iload_n c60_29 rfl
theorem c60_30 : cod 60 30 = some (.ireturn, 1) := cod_of b60 dX6_allLiking_30
theorem t60_30 {d : Nat} {h : Hp} {Q : Pst} {x : Int32} {ls : List Value} : T d 60 30 ls [.int x] h Q ↔ Q (some (.int x)) h := T_iretR m60 c60_30 rfl
theorem b61 : (mR 61).2.2.1 = cX6_leastAt := by rw [m61]
theorem c61_0 : cod 61 0 = some (.aload_n 0, 1) := cod_of b61 dX6_leastAt_0
theorem t61_0 {d : Nat} {h : Hp} {Q : Pst} {l1 : Value} {x : Nat} {st : List Value} : T d 61 0 [.ref x, l1] st h Q ↔ T d 61 1 [.ref x, l1] (.ref x :: st) h Q := T_aload_n c61_0 rfl
theorem c61_1 : cod 61 1 = some (.getfield 21, 3) := cod_of b61 dX6_leastAt_1
theorem t61_1 {d : Nat} {h : Hp} {Q : Pst} {a : Nat} {ls : List Value} {st : List Value} : T d 61 1 ls (.ref a :: st) h Q ↔ gF (h.2.2 a) 5 3 (fun v => T d 61 4 ls (v :: st) h Q) := T_getfieldR m61 c61_1 f6_21
theorem c61_4 : cod 61 4 = some (.iload_n 1, 1) := cod_of b61 dX6_leastAt_4
theorem t61_4 {d : Nat} {h : Hp} {Q : Pst} {l0 : Value} {x : Int32} {st : List Value} : T d 61 4 [l0, .int x] st h Q ↔ T d 61 5 [l0, .int x] (.int x :: st) h Q := T_iload_n c61_4 rfl
theorem c61_5 : cod 61 5 = some (.invokestatic 81, 3) := cod_of b61 dX6_leastAt_5
theorem t61_5 {d : Nat} {h : Hp} {Q : Pst} {a0 : Nat} {a1 : Int32} {ls : List Value} : T (d + 1) 61 5 ls [.int a1, .ref a0] h Q ↔ T d 122 0 [.ref a0, .int a1] [] h (fun x h2 => T (d + 1) 61 8 ls (rl x []) h2 Q) := T_staticR (as := [.ref a0, .int a1]) (r := []) m61 m122 c61_5 k6_81 (Or.inr rfl) rfl (by decide) rfl (by simp [wrd, Value.category]) (by simp [stk, Value.category]) rfl
theorem c61_8 : cod 61 8 = some (.aload_n 0, 1) := cod_of b61 dX6_leastAt_8
theorem t61_8 {d : Nat} {h : Hp} {Q : Pst} {l1 : Value} {x : Nat} {st : List Value} : T d 61 8 [.ref x, l1] st h Q ↔ T d 61 9 [.ref x, l1] (.ref x :: st) h Q := T_aload_n c61_8 rfl
theorem c61_9 : cod 61 9 = some (.getfield 24, 3) := cod_of b61 dX6_leastAt_9
theorem t61_9 {d : Nat} {h : Hp} {Q : Pst} {a : Nat} {ls : List Value} {st : List Value} : T d 61 9 ls (.ref a :: st) h Q ↔ gF (h.2.2 a) 5 4 (fun v => T d 61 12 ls (v :: st) h Q) := T_getfieldR m61 c61_9 f6_24
theorem c61_12 : cod 61 12 = some (.iload_n 1, 1) := cod_of b61 dX6_leastAt_12
theorem t61_12 {d : Nat} {h : Hp} {Q : Pst} {l0 : Value} {x : Int32} {st : List Value} : T d 61 12 [l0, .int x] st h Q ↔ T d 61 13 [l0, .int x] (.int x :: st) h Q := T_iload_n c61_12 rfl
theorem c61_13 : cod 61 13 = some (.invokestatic 81, 3) := cod_of b61 dX6_leastAt_13
theorem t61_13 {d : Nat} {h : Hp} {Q : Pst} {a0 : Nat} {a1 s0 : Int32} {ls : List Value} : T (d + 1) 61 13 ls [.int a1, .ref a0, .int s0] h Q ↔ T d 122 0 [.ref a0, .int a1] [] h (fun x h2 => T (d + 1) 61 16 ls (rl x [.int s0]) h2 Q) := T_staticR (as := [.ref a0, .int a1]) (r := [.int s0]) m61 m122 c61_13 k6_81 (Or.inr rfl) rfl (by decide) rfl (by simp [wrd, Value.category]) (by simp [stk, Value.category]) rfl
theorem c61_16 : cod 61 16 = some (.aload_n 0, 1) := cod_of b61 dX6_leastAt_16
theorem t61_16 {d : Nat} {h : Hp} {Q : Pst} {l1 : Value} {x : Nat} {st : List Value} : T d 61 16 [.ref x, l1] st h Q ↔ T d 61 17 [.ref x, l1] (.ref x :: st) h Q := T_aload_n c61_16 rfl
theorem c61_17 : cod 61 17 = some (.getfield 55, 3) := cod_of b61 dX6_leastAt_17
theorem t61_17 {d : Nat} {h : Hp} {Q : Pst} {a : Nat} {ls : List Value} {st : List Value} : T d 61 17 ls (.ref a :: st) h Q ↔ gF (h.2.2 a) 5 12 (fun v => T d 61 20 ls (v :: st) h Q) := T_getfieldR m61 c61_17 f6_55
theorem c61_20 : cod 61 20 = some (.invokestatic 85, 3) := cod_of b61 dX6_leastAt_20
theorem t61_20 {d : Nat} {h : Hp} {Q : Pst} {a0 a1 a2 : Int32} {ls : List Value} : T (d + 1) 61 20 ls [.int a2, .int a1, .int a0] h Q ↔ T d 50 0 [.int a0, .int a1, .int a2, un, un, un, un] [] h (fun x h2 => T (d + 1) 61 23 ls (rl x []) h2 Q) := T_staticR (as := [.int a0, .int a1, .int a2]) (r := []) m61 m50 c61_20 k6_85 (Or.inl rfl) rfl (by decide) rfl (by simp [wrd, Value.category]) (by simp [stk, Value.category]) rfl
theorem c61_23 : cod 61 23 = some (.ireturn, 1) := cod_of b61 dX6_leastAt_23
theorem t61_23 {d : Nat} {h : Hp} {Q : Pst} {x : Int32} {ls : List Value} : T d 61 23 ls [.int x] h Q ↔ Q (some (.int x)) h := T_iretR m61 c61_23 rfl
theorem b62 : (mR 62).2.2.1 = cX6_stayBits := by rw [m62]
theorem c62_0 : cod 62 0 = some (.aload_n 0, 1) := cod_of b62 dX6_stayBits_0
theorem t62_0 {d : Nat} {h : Hp} {Q : Pst} {l1 l2 : Value} {x : Nat} {st : List Value} : T d 62 0 [.ref x, l1, l2] st h Q ↔ T d 62 1 [.ref x, l1, l2] (.ref x :: st) h Q := T_aload_n c62_0 rfl
theorem c62_1 : cod 62 1 = some (.iload_n 2, 1) := cod_of b62 dX6_stayBits_1
theorem t62_1 {d : Nat} {h : Hp} {Q : Pst} {l0 l1 : Value} {x : Int32} {st : List Value} : T d 62 1 [l0, l1, .int x] st h Q ↔ T d 62 2 [l0, l1, .int x] (.int x :: st) h Q := T_iload_n c62_1 rfl
theorem c62_2 : cod 62 2 = some (.invokevirtual 91, 3) := cod_of b62 dX6_stayBits_2
theorem t62_2 {d : Nat} {h : Hp} {Q : Pst} {a0 : Int32} {a : Nat} {ls : List Value} (ho : isO (h.2.2 a) 5) : T (d + 1) 62 2 ls [.int a0, .ref a] h Q ↔ T d 56 0 [.ref a, .int a0] [] h (fun x h2 => T (d + 1) 62 5 ls (rl x []) h2 Q) := T_virtualR (as := [.int a0]) (r := []) m62 m56 c62_2 k6_91  rfl (by decide) rfl (by simp [wrd, Value.category]) (by simp [stk, Value.category]) rfl (by decide +kernel) ho
theorem c62_5 : cod 62 5 = some (.ifCond .eq 30, 3) := cod_of b62 dX6_stayBits_5
theorem t62_5 {d : Nat} {h : Hp} {Q : Pst} {x : Int32} {ls : List Value} {st : List Value} : T d 62 5 ls (.int x :: st) h Q ↔ (if x = 0 then T d 62 35 ls st h Q else T d 62 8 ls st h Q) := T_if_eq c62_5 (by decide)
theorem c62_8 : cod 62 8 = some (.aload_n 0, 1) := cod_of b62 dX6_stayBits_8
theorem t62_8 {d : Nat} {h : Hp} {Q : Pst} {l1 l2 : Value} {x : Nat} {st : List Value} : T d 62 8 [.ref x, l1, l2] st h Q ↔ T d 62 9 [.ref x, l1, l2] (.ref x :: st) h Q := T_aload_n c62_8 rfl
theorem c62_9 : cod 62 9 = some (.getfield 9, 3) := cod_of b62 dX6_stayBits_9
theorem t62_9 {d : Nat} {h : Hp} {Q : Pst} {a : Nat} {ls : List Value} {st : List Value} : T d 62 9 ls (.ref a :: st) h Q ↔ gF (h.2.2 a) 5 0 (fun v => T d 62 12 ls (v :: st) h Q) := T_getfieldR m62 c62_9 f6_9
theorem c62_12 : cod 62 12 = some (.iload_n 1, 1) := cod_of b62 dX6_stayBits_12
theorem t62_12 {d : Nat} {h : Hp} {Q : Pst} {l0 l2 : Value} {x : Int32} {st : List Value} : T d 62 12 [l0, .int x, l2] st h Q ↔ T d 62 13 [l0, .int x, l2] (.int x :: st) h Q := T_iload_n c62_12 rfl
theorem c62_13 : cod 62 13 = some (.invokestatic 81, 3) := cod_of b62 dX6_stayBits_13
theorem t62_13 {d : Nat} {h : Hp} {Q : Pst} {a0 : Nat} {a1 : Int32} {ls : List Value} : T (d + 1) 62 13 ls [.int a1, .ref a0] h Q ↔ T d 122 0 [.ref a0, .int a1] [] h (fun x h2 => T (d + 1) 62 16 ls (rl x []) h2 Q) := T_staticR (as := [.ref a0, .int a1]) (r := []) m62 m122 c62_13 k6_81 (Or.inr rfl) rfl (by decide) rfl (by simp [wrd, Value.category]) (by simp [stk, Value.category]) rfl
theorem c62_16 : cod 62 16 = some (.aload_n 0, 1) := cod_of b62 dX6_stayBits_16
theorem t62_16 {d : Nat} {h : Hp} {Q : Pst} {l1 l2 : Value} {x : Nat} {st : List Value} : T d 62 16 [.ref x, l1, l2] st h Q ↔ T d 62 17 [.ref x, l1, l2] (.ref x :: st) h Q := T_aload_n c62_16 rfl
theorem c62_17 : cod 62 17 = some (.getfield 15, 3) := cod_of b62 dX6_stayBits_17
theorem t62_17 {d : Nat} {h : Hp} {Q : Pst} {a : Nat} {ls : List Value} {st : List Value} : T d 62 17 ls (.ref a :: st) h Q ↔ gF (h.2.2 a) 5 1 (fun v => T d 62 20 ls (v :: st) h Q) := T_getfieldR m62 c62_17 f6_15
theorem c62_20 : cod 62 20 = some (.iload_n 1, 1) := cod_of b62 dX6_stayBits_20
theorem t62_20 {d : Nat} {h : Hp} {Q : Pst} {l0 l2 : Value} {x : Int32} {st : List Value} : T d 62 20 [l0, .int x, l2] st h Q ↔ T d 62 21 [l0, .int x, l2] (.int x :: st) h Q := T_iload_n c62_20 rfl
theorem c62_21 : cod 62 21 = some (.invokestatic 81, 3) := cod_of b62 dX6_stayBits_21
theorem t62_21 {d : Nat} {h : Hp} {Q : Pst} {a0 : Nat} {a1 s0 : Int32} {ls : List Value} : T (d + 1) 62 21 ls [.int a1, .ref a0, .int s0] h Q ↔ T d 122 0 [.ref a0, .int a1] [] h (fun x h2 => T (d + 1) 62 24 ls (rl x [.int s0]) h2 Q) := T_staticR (as := [.ref a0, .int a1]) (r := [.int s0]) m62 m122 c62_21 k6_81 (Or.inr rfl) rfl (by decide) rfl (by simp [wrd, Value.category]) (by simp [stk, Value.category]) rfl
theorem c62_24 : cod 62 24 = some (.aload_n 0, 1) := cod_of b62 dX6_stayBits_24
theorem t62_24 {d : Nat} {h : Hp} {Q : Pst} {l1 l2 : Value} {x : Nat} {st : List Value} : T d 62 24 [.ref x, l1, l2] st h Q ↔ T d 62 25 [.ref x, l1, l2] (.ref x :: st) h Q := T_aload_n c62_24 rfl
theorem c62_25 : cod 62 25 = some (.iload_n 2, 1) := cod_of b62 dX6_stayBits_25
theorem t62_25 {d : Nat} {h : Hp} {Q : Pst} {l0 l1 : Value} {x : Int32} {st : List Value} : T d 62 25 [l0, l1, .int x] st h Q ↔ T d 62 26 [l0, l1, .int x] (.int x :: st) h Q := T_iload_n c62_25 rfl
theorem c62_26 : cod 62 26 = some (.invokevirtual 95, 3) := cod_of b62 dX6_stayBits_26
theorem t62_26 {d : Nat} {h : Hp} {Q : Pst} {a0 s0 s1 : Int32} {a : Nat} {ls : List Value} (ho : isO (h.2.2 a) 5) : T (d + 1) 62 26 ls [.int a0, .ref a, .int s0, .int s1] h Q ↔ T d 61 0 [.ref a, .int a0] [] h (fun x h2 => T (d + 1) 62 29 ls (rl x [.int s0, .int s1]) h2 Q) := T_virtualR (as := [.int a0]) (r := [.int s0, .int s1]) m62 m61 c62_26 k6_95  rfl (by decide) rfl (by simp [wrd, Value.category]) (by simp [stk, Value.category]) rfl (by decide +kernel) ho
theorem c62_29 : cod 62 29 = some (.invokestatic 99, 3) := cod_of b62 dX6_stayBits_29
theorem t62_29 {d : Nat} {h : Hp} {Q : Pst} {a0 a1 a2 : Int32} {ls : List Value} : T (d + 1) 62 29 ls [.int a2, .int a1, .int a0] h Q ↔ T d 51 0 [.int a0, .int a1, .int a2, un, un] [] h (fun x h2 => T (d + 1) 62 32 ls (rl x []) h2 Q) := T_staticR (as := [.int a0, .int a1, .int a2]) (r := []) m62 m51 c62_29 k6_99 (Or.inl rfl) rfl (by decide) rfl (by simp [wrd, Value.category]) (by simp [stk, Value.category]) rfl
theorem c62_32 : cod 62 32 = some (.goto 4, 3) := cod_of b62 dX6_stayBits_32
theorem t62_32 {d : Nat} {h : Hp} {Q : Pst} {ls : List Value} {st : List Value} : T d 62 32 ls st h Q ↔ T d 62 36 ls st h Q := T_goto c62_32 (by decide)
theorem c62_36 : cod 62 36 = some (.ireturn, 1) := cod_of b62 dX6_stayBits_36
theorem t62_36 {d : Nat} {h : Hp} {Q : Pst} {x : Int32} {ls : List Value} : T d 62 36 ls [.int x] h Q ↔ Q (some (.int x)) h := T_iretR m62 c62_36 rfl
theorem c62_35 : cod 62 35 = some (.iconst 0, 1) := cod_of b62 dX6_stayBits_35
theorem t62_35 {d : Nat} {h : Hp} {Q : Pst} {ls : List Value} {st : List Value} : T d 62 35 ls st h Q ↔ T d 62 36 ls (.int 0 :: st) h Q := T_iconstV c62_35 (by decide)
theorem b63 : (mR 63).2.2.1 = cX6_stayCount := by rw [m63]
theorem c63_0 : cod 63 0 = some (.aload_n 0, 1) := cod_of b63 dX6_stayCount_0
theorem t63_0 {d : Nat} {h : Hp} {Q : Pst} {l1 l2 : Value} {x : Nat} {st : List Value} : T d 63 0 [.ref x, l1, l2] st h Q ↔ T d 63 1 [.ref x, l1, l2] (.ref x :: st) h Q := T_aload_n c63_0 rfl
theorem c63_1 : cod 63 1 = some (.iload_n 1, 1) := cod_of b63 dX6_stayCount_1
theorem t63_1 {d : Nat} {h : Hp} {Q : Pst} {l0 l2 : Value} {x : Int32} {st : List Value} : T d 63 1 [l0, .int x, l2] st h Q ↔ T d 63 2 [l0, .int x, l2] (.int x :: st) h Q := T_iload_n c63_1 rfl
theorem c63_2 : cod 63 2 = some (.iload_n 2, 1) := cod_of b63 dX6_stayCount_2
theorem t63_2 {d : Nat} {h : Hp} {Q : Pst} {l0 l1 : Value} {x : Int32} {st : List Value} : T d 63 2 [l0, l1, .int x] st h Q ↔ T d 63 3 [l0, l1, .int x] (.int x :: st) h Q := T_iload_n c63_2 rfl
theorem c63_3 : cod 63 3 = some (.invokevirtual 102, 3) := cod_of b63 dX6_stayCount_3
theorem t63_3 {d : Nat} {h : Hp} {Q : Pst} {a0 a1 : Int32} {a : Nat} {ls : List Value} (ho : isO (h.2.2 a) 5) : T (d + 1) 63 3 ls [.int a1, .int a0, .ref a] h Q ↔ T d 62 0 [.ref a, .int a0, .int a1] [] h (fun x h2 => T (d + 1) 63 6 ls (rl x []) h2 Q) := T_virtualR (as := [.int a0, .int a1]) (r := []) m63 m62 c63_3 k6_102  rfl (by decide) rfl (by simp [wrd, Value.category]) (by simp [stk, Value.category]) rfl (by decide +kernel) ho
theorem c63_6 : cod 63 6 = some (.invokestatic 106, 3) := cod_of b63 dX6_stayCount_6
theorem t63_6 {d : Nat} {h : Hp} {Q : Pst} {a0 : Int32} {ls : List Value} : T (d + 1) 63 6 ls [.int a0] h Q ↔ T d 213 0 [.int a0] [] h (fun x h2 => T (d + 1) 63 9 ls (rl x []) h2 Q) := T_staticR (as := [.int a0]) (r := []) m63 m213 c63_6 k6_106 (Or.inl rfl) rfl (by decide) rfl (by simp [wrd, Value.category]) (by simp [stk, Value.category]) rfl
theorem c63_9 : cod 63 9 = some (.ireturn, 1) := cod_of b63 dX6_stayCount_9
theorem t63_9 {d : Nat} {h : Hp} {Q : Pst} {x : Int32} {ls : List Value} : T d 63 9 ls [.int x] h Q ↔ Q (some (.int x)) h := T_iretR m63 c63_9 rfl
theorem b64 : (mR 64).2.2.1 = cX6_stayCountByMesh := by rw [m64]
theorem c64_0 : cod 64 0 = some (.aload_n 0, 1) := cod_of b64 dX6_stayCountByMesh_0
theorem t64_0 {d : Nat} {h : Hp} {Q : Pst} {l1 l2 l3 l4 : Value} {x : Nat} {st : List Value} : T d 64 0 [.ref x, l1, l2, l3, l4] st h Q ↔ T d 64 1 [.ref x, l1, l2, l3, l4] (.ref x :: st) h Q := T_aload_n c64_0 rfl
theorem c64_1 : cod 64 1 = some (.getfield 21, 3) := cod_of b64 dX6_stayCountByMesh_1
theorem t64_1 {d : Nat} {h : Hp} {Q : Pst} {a : Nat} {ls : List Value} {st : List Value} : T d 64 1 ls (.ref a :: st) h Q ↔ gF (h.2.2 a) 5 3 (fun v => T d 64 4 ls (v :: st) h Q) := T_getfieldR m64 c64_1 f6_21
theorem c64_4 : cod 64 4 = some (.iload_n 2, 1) := cod_of b64 dX6_stayCountByMesh_4
theorem t64_4 {d : Nat} {h : Hp} {Q : Pst} {l0 l1 l3 l4 : Value} {x : Int32} {st : List Value} : T d 64 4 [l0, l1, .int x, l3, l4] st h Q ↔ T d 64 5 [l0, l1, .int x, l3, l4] (.int x :: st) h Q := T_iload_n c64_4 rfl
theorem c64_5 : cod 64 5 = some (.invokestatic 81, 3) := cod_of b64 dX6_stayCountByMesh_5
theorem t64_5 {d : Nat} {h : Hp} {Q : Pst} {a0 : Nat} {a1 : Int32} {ls : List Value} : T (d + 1) 64 5 ls [.int a1, .ref a0] h Q ↔ T d 122 0 [.ref a0, .int a1] [] h (fun x h2 => T (d + 1) 64 8 ls (rl x []) h2 Q) := T_staticR (as := [.ref a0, .int a1]) (r := []) m64 m122 c64_5 k6_81 (Or.inr rfl) rfl (by decide) rfl (by simp [wrd, Value.category]) (by simp [stk, Value.category]) rfl
theorem c64_8 : cod 64 8 = some (.iload_n 3, 1) := cod_of b64 dX6_stayCountByMesh_8
theorem t64_8 {d : Nat} {h : Hp} {Q : Pst} {l0 l1 l2 l4 : Value} {x : Int32} {st : List Value} : T d 64 8 [l0, l1, l2, .int x, l4] st h Q ↔ T d 64 9 [l0, l1, l2, .int x, l4] (.int x :: st) h Q := T_iload_n c64_8 rfl
theorem c64_9 : cod 64 9 = some (.aload_n 0, 1) := cod_of b64 dX6_stayCountByMesh_9
theorem t64_9 {d : Nat} {h : Hp} {Q : Pst} {l1 l2 l3 l4 : Value} {x : Nat} {st : List Value} : T d 64 9 [.ref x, l1, l2, l3, l4] st h Q ↔ T d 64 10 [.ref x, l1, l2, l3, l4] (.ref x :: st) h Q := T_aload_n c64_9 rfl
theorem c64_10 : cod 64 10 = some (.getfield 55, 3) := cod_of b64 dX6_stayCountByMesh_10
theorem t64_10 {d : Nat} {h : Hp} {Q : Pst} {a : Nat} {ls : List Value} {st : List Value} : T d 64 10 ls (.ref a :: st) h Q ↔ gF (h.2.2 a) 5 12 (fun v => T d 64 13 ls (v :: st) h Q) := T_getfieldR m64 c64_10 f6_55
theorem c64_13 : cod 64 13 = some (.invokestatic 85, 3) := cod_of b64 dX6_stayCountByMesh_13
theorem t64_13 {d : Nat} {h : Hp} {Q : Pst} {a0 a1 a2 : Int32} {ls : List Value} : T (d + 1) 64 13 ls [.int a2, .int a1, .int a0] h Q ↔ T d 50 0 [.int a0, .int a1, .int a2, un, un, un, un] [] h (fun x h2 => T (d + 1) 64 16 ls (rl x []) h2 Q) := T_staticR (as := [.int a0, .int a1, .int a2]) (r := []) m64 m50 c64_13 k6_85 (Or.inl rfl) rfl (by decide) rfl (by simp [wrd, Value.category]) (by simp [stk, Value.category]) rfl
theorem c64_16 : cod 64 16 = some (.istore 4, 2) := cod_of b64 dX6_stayCountByMesh_16
theorem t64_16 {d : Nat} {h : Hp} {Q : Pst} {l0 l1 l2 l3 l4 : Value} {x : Int32} {st : List Value} : T d 64 16 [l0, l1, l2, l3, l4] (.int x :: st) h Q ↔ T d 64 18 [l0, l1, l2, kil l3, .int x] st h Q := T_istore c64_16 (Nat.le_of_ble_eq_true rfl)
theorem c64_18 : cod 64 18 = some (.aload_n 0, 1) := cod_of b64 dX6_stayCountByMesh_18
theorem t64_18 {d : Nat} {h : Hp} {Q : Pst} {l1 l2 l3 l4 : Value} {x : Nat} {st : List Value} : T d 64 18 [.ref x, l1, l2, l3, l4] st h Q ↔ T d 64 19 [.ref x, l1, l2, l3, l4] (.ref x :: st) h Q := T_aload_n c64_18 rfl
theorem c64_19 : cod 64 19 = some (.getfield 9, 3) := cod_of b64 dX6_stayCountByMesh_19
theorem t64_19 {d : Nat} {h : Hp} {Q : Pst} {a : Nat} {ls : List Value} {st : List Value} : T d 64 19 ls (.ref a :: st) h Q ↔ gF (h.2.2 a) 5 0 (fun v => T d 64 22 ls (v :: st) h Q) := T_getfieldR m64 c64_19 f6_9
theorem c64_22 : cod 64 22 = some (.iload_n 1, 1) := cod_of b64 dX6_stayCountByMesh_22
theorem t64_22 {d : Nat} {h : Hp} {Q : Pst} {l0 l2 l3 l4 : Value} {x : Int32} {st : List Value} : T d 64 22 [l0, .int x, l2, l3, l4] st h Q ↔ T d 64 23 [l0, .int x, l2, l3, l4] (.int x :: st) h Q := T_iload_n c64_22 rfl
theorem c64_23 : cod 64 23 = some (.invokestatic 81, 3) := cod_of b64 dX6_stayCountByMesh_23
theorem t64_23 {d : Nat} {h : Hp} {Q : Pst} {a0 : Nat} {a1 : Int32} {ls : List Value} : T (d + 1) 64 23 ls [.int a1, .ref a0] h Q ↔ T d 122 0 [.ref a0, .int a1] [] h (fun x h2 => T (d + 1) 64 26 ls (rl x []) h2 Q) := T_staticR (as := [.ref a0, .int a1]) (r := []) m64 m122 c64_23 k6_81 (Or.inr rfl) rfl (by decide) rfl (by simp [wrd, Value.category]) (by simp [stk, Value.category]) rfl
theorem c64_26 : cod 64 26 = some (.aload_n 0, 1) := cod_of b64 dX6_stayCountByMesh_26
theorem t64_26 {d : Nat} {h : Hp} {Q : Pst} {l1 l2 l3 l4 : Value} {x : Nat} {st : List Value} : T d 64 26 [.ref x, l1, l2, l3, l4] st h Q ↔ T d 64 27 [.ref x, l1, l2, l3, l4] (.ref x :: st) h Q := T_aload_n c64_26 rfl
theorem c64_27 : cod 64 27 = some (.getfield 15, 3) := cod_of b64 dX6_stayCountByMesh_27
theorem t64_27 {d : Nat} {h : Hp} {Q : Pst} {a : Nat} {ls : List Value} {st : List Value} : T d 64 27 ls (.ref a :: st) h Q ↔ gF (h.2.2 a) 5 1 (fun v => T d 64 30 ls (v :: st) h Q) := T_getfieldR m64 c64_27 f6_15
theorem c64_30 : cod 64 30 = some (.iload_n 1, 1) := cod_of b64 dX6_stayCountByMesh_30
theorem t64_30 {d : Nat} {h : Hp} {Q : Pst} {l0 l2 l3 l4 : Value} {x : Int32} {st : List Value} : T d 64 30 [l0, .int x, l2, l3, l4] st h Q ↔ T d 64 31 [l0, .int x, l2, l3, l4] (.int x :: st) h Q := T_iload_n c64_30 rfl
theorem c64_31 : cod 64 31 = some (.invokestatic 81, 3) := cod_of b64 dX6_stayCountByMesh_31
theorem t64_31 {d : Nat} {h : Hp} {Q : Pst} {a0 : Nat} {a1 s0 : Int32} {ls : List Value} : T (d + 1) 64 31 ls [.int a1, .ref a0, .int s0] h Q ↔ T d 122 0 [.ref a0, .int a1] [] h (fun x h2 => T (d + 1) 64 34 ls (rl x [.int s0]) h2 Q) := T_staticR (as := [.ref a0, .int a1]) (r := [.int s0]) m64 m122 c64_31 k6_81 (Or.inr rfl) rfl (by decide) rfl (by simp [wrd, Value.category]) (by simp [stk, Value.category]) rfl
theorem c64_34 : cod 64 34 = some (.iload 4, 2) := cod_of b64 dX6_stayCountByMesh_34
theorem t64_34 {d : Nat} {h : Hp} {Q : Pst} {l0 l1 l2 l3 : Value} {x : Int32} {st : List Value} : T d 64 34 [l0, l1, l2, l3, .int x] st h Q ↔ T d 64 36 [l0, l1, l2, l3, .int x] (.int x :: st) h Q := T_iload c64_34 rfl
theorem c64_36 : cod 64 36 = some (.invokestatic 99, 3) := cod_of b64 dX6_stayCountByMesh_36
theorem t64_36 {d : Nat} {h : Hp} {Q : Pst} {a0 a1 a2 : Int32} {ls : List Value} : T (d + 1) 64 36 ls [.int a2, .int a1, .int a0] h Q ↔ T d 51 0 [.int a0, .int a1, .int a2, un, un] [] h (fun x h2 => T (d + 1) 64 39 ls (rl x []) h2 Q) := T_staticR (as := [.int a0, .int a1, .int a2]) (r := []) m64 m51 c64_36 k6_99 (Or.inl rfl) rfl (by decide) rfl (by simp [wrd, Value.category]) (by simp [stk, Value.category]) rfl
theorem c64_39 : cod 64 39 = some (.invokestatic 106, 3) := cod_of b64 dX6_stayCountByMesh_39
theorem t64_39 {d : Nat} {h : Hp} {Q : Pst} {a0 : Int32} {ls : List Value} : T (d + 1) 64 39 ls [.int a0] h Q ↔ T d 213 0 [.int a0] [] h (fun x h2 => T (d + 1) 64 42 ls (rl x []) h2 Q) := T_staticR (as := [.int a0]) (r := []) m64 m213 c64_39 k6_106 (Or.inl rfl) rfl (by decide) rfl (by simp [wrd, Value.category]) (by simp [stk, Value.category]) rfl
theorem c64_42 : cod 64 42 = some (.ireturn, 1) := cod_of b64 dX6_stayCountByMesh_42
theorem t64_42 {d : Nat} {h : Hp} {Q : Pst} {x : Int32} {ls : List Value} : T d 64 42 ls [.int x] h Q ↔ Q (some (.int x)) h := T_iretR m64 c64_42 rfl
theorem b65 : (mR 65).2.2.1 = cX6_stayCountByWet := by rw [m65]
theorem c65_0 : cod 65 0 = some (.aload_n 0, 1) := cod_of b65 dX6_stayCountByWet_0
theorem t65_0 {d : Nat} {h : Hp} {Q : Pst} {l1 l2 l3 : Value} {x : Nat} {st : List Value} : T d 65 0 [.ref x, l1, l2, l3] st h Q ↔ T d 65 1 [.ref x, l1, l2, l3] (.ref x :: st) h Q := T_aload_n c65_0 rfl
theorem c65_1 : cod 65 1 = some (.iload_n 1, 1) := cod_of b65 dX6_stayCountByWet_1
theorem t65_1 {d : Nat} {h : Hp} {Q : Pst} {l0 l2 l3 : Value} {x : Int32} {st : List Value} : T d 65 1 [l0, .int x, l2, l3] st h Q ↔ T d 65 2 [l0, .int x, l2, l3] (.int x :: st) h Q := T_iload_n c65_1 rfl
theorem c65_2 : cod 65 2 = some (.aload_n 0, 1) := cod_of b65 dX6_stayCountByWet_2
theorem t65_2 {d : Nat} {h : Hp} {Q : Pst} {l1 l2 l3 : Value} {x : Nat} {st : List Value} : T d 65 2 [.ref x, l1, l2, l3] st h Q ↔ T d 65 3 [.ref x, l1, l2, l3] (.ref x :: st) h Q := T_aload_n c65_2 rfl
theorem c65_3 : cod 65 3 = some (.getfield 15, 3) := cod_of b65 dX6_stayCountByWet_3
theorem t65_3 {d : Nat} {h : Hp} {Q : Pst} {a : Nat} {ls : List Value} {st : List Value} : T d 65 3 ls (.ref a :: st) h Q ↔ gF (h.2.2 a) 5 1 (fun v => T d 65 6 ls (v :: st) h Q) := T_getfieldR m65 c65_3 f6_15
theorem c65_6 : cod 65 6 = some (.iload_n 1, 1) := cod_of b65 dX6_stayCountByWet_6
theorem t65_6 {d : Nat} {h : Hp} {Q : Pst} {l0 l2 l3 : Value} {x : Int32} {st : List Value} : T d 65 6 [l0, .int x, l2, l3] st h Q ↔ T d 65 7 [l0, .int x, l2, l3] (.int x :: st) h Q := T_iload_n c65_6 rfl
theorem c65_7 : cod 65 7 = some (.invokestatic 81, 3) := cod_of b65 dX6_stayCountByWet_7
theorem t65_7 {d : Nat} {h : Hp} {Q : Pst} {a0 s1 : Nat} {a1 s0 : Int32} {ls : List Value} : T (d + 1) 65 7 ls [.int a1, .ref a0, .int s0, .ref s1] h Q ↔ T d 122 0 [.ref a0, .int a1] [] h (fun x h2 => T (d + 1) 65 10 ls (rl x [.int s0, .ref s1]) h2 Q) := T_staticR (as := [.ref a0, .int a1]) (r := [.int s0, .ref s1]) m65 m122 c65_7 k6_81 (Or.inr rfl) rfl (by decide) rfl (by simp [wrd, Value.category]) (by simp [stk, Value.category]) rfl
theorem c65_10 : cod 65 10 = some (.iload_n 2, 1) := cod_of b65 dX6_stayCountByWet_10
theorem t65_10 {d : Nat} {h : Hp} {Q : Pst} {l0 l1 l3 : Value} {x : Int32} {st : List Value} : T d 65 10 [l0, l1, .int x, l3] st h Q ↔ T d 65 11 [l0, l1, .int x, l3] (.int x :: st) h Q := T_iload_n c65_10 rfl
theorem c65_11 : cod 65 11 = some (.iload_n 3, 1) := cod_of b65 dX6_stayCountByWet_11
theorem t65_11 {d : Nat} {h : Hp} {Q : Pst} {l0 l1 l2 : Value} {x : Int32} {st : List Value} : T d 65 11 [l0, l1, l2, .int x] st h Q ↔ T d 65 12 [l0, l1, l2, .int x] (.int x :: st) h Q := T_iload_n c65_11 rfl
theorem c65_12 : cod 65 12 = some (.invokevirtual 111, 3) := cod_of b65 dX6_stayCountByWet_12
theorem t65_12 {d : Nat} {h : Hp} {Q : Pst} {a0 a1 a2 a3 : Int32} {a : Nat} {ls : List Value} (ho : isO (h.2.2 a) 5) : T (d + 1) 65 12 ls [.int a3, .int a2, .int a1, .int a0, .ref a] h Q ↔ T d 66 0 [.ref a, .int a0, .int a1, .int a2, .int a3, un] [] h (fun x h2 => T (d + 1) 65 15 ls (rl x []) h2 Q) := T_virtualR (as := [.int a0, .int a1, .int a2, .int a3]) (r := []) m65 m66 c65_12 k6_111  rfl (by decide) rfl (by simp [wrd, Value.category]) (by simp [stk, Value.category]) rfl (by decide +kernel) ho
theorem c65_15 : cod 65 15 = some (.ireturn, 1) := cod_of b65 dX6_stayCountByWet_15
theorem t65_15 {d : Nat} {h : Hp} {Q : Pst} {x : Int32} {ls : List Value} : T d 65 15 ls [.int x] h Q ↔ Q (some (.int x)) h := T_iretR m65 c65_15 rfl
theorem b66 : (mR 66).2.2.1 = cX6_stayCountBySize := by rw [m66]
theorem c66_0 : cod 66 0 = some (.aload_n 0, 1) := cod_of b66 dX6_stayCountBySize_0
theorem t66_0 {d : Nat} {h : Hp} {Q : Pst} {l1 l2 l3 l4 l5 : Value} {x : Nat} {st : List Value} : T d 66 0 [.ref x, l1, l2, l3, l4, l5] st h Q ↔ T d 66 1 [.ref x, l1, l2, l3, l4, l5] (.ref x :: st) h Q := T_aload_n c66_0 rfl
theorem c66_1 : cod 66 1 = some (.getfield 21, 3) := cod_of b66 dX6_stayCountBySize_1
theorem t66_1 {d : Nat} {h : Hp} {Q : Pst} {a : Nat} {ls : List Value} {st : List Value} : T d 66 1 ls (.ref a :: st) h Q ↔ gF (h.2.2 a) 5 3 (fun v => T d 66 4 ls (v :: st) h Q) := T_getfieldR m66 c66_1 f6_21
theorem c66_4 : cod 66 4 = some (.iload_n 3, 1) := cod_of b66 dX6_stayCountBySize_4
theorem t66_4 {d : Nat} {h : Hp} {Q : Pst} {l0 l1 l2 l4 l5 : Value} {x : Int32} {st : List Value} : T d 66 4 [l0, l1, l2, .int x, l4, l5] st h Q ↔ T d 66 5 [l0, l1, l2, .int x, l4, l5] (.int x :: st) h Q := T_iload_n c66_4 rfl
theorem c66_5 : cod 66 5 = some (.invokestatic 81, 3) := cod_of b66 dX6_stayCountBySize_5
theorem t66_5 {d : Nat} {h : Hp} {Q : Pst} {a0 : Nat} {a1 : Int32} {ls : List Value} : T (d + 1) 66 5 ls [.int a1, .ref a0] h Q ↔ T d 122 0 [.ref a0, .int a1] [] h (fun x h2 => T (d + 1) 66 8 ls (rl x []) h2 Q) := T_staticR (as := [.ref a0, .int a1]) (r := []) m66 m122 c66_5 k6_81 (Or.inr rfl) rfl (by decide) rfl (by simp [wrd, Value.category]) (by simp [stk, Value.category]) rfl
theorem c66_8 : cod 66 8 = some (.aload_n 0, 1) := cod_of b66 dX6_stayCountBySize_8
theorem t66_8 {d : Nat} {h : Hp} {Q : Pst} {l1 l2 l3 l4 l5 : Value} {x : Nat} {st : List Value} : T d 66 8 [.ref x, l1, l2, l3, l4, l5] st h Q ↔ T d 66 9 [.ref x, l1, l2, l3, l4, l5] (.ref x :: st) h Q := T_aload_n c66_8 rfl
theorem c66_9 : cod 66 9 = some (.getfield 24, 3) := cod_of b66 dX6_stayCountBySize_9
theorem t66_9 {d : Nat} {h : Hp} {Q : Pst} {a : Nat} {ls : List Value} {st : List Value} : T d 66 9 ls (.ref a :: st) h Q ↔ gF (h.2.2 a) 5 4 (fun v => T d 66 12 ls (v :: st) h Q) := T_getfieldR m66 c66_9 f6_24
theorem c66_12 : cod 66 12 = some (.iload_n 3, 1) := cod_of b66 dX6_stayCountBySize_12
theorem t66_12 {d : Nat} {h : Hp} {Q : Pst} {l0 l1 l2 l4 l5 : Value} {x : Int32} {st : List Value} : T d 66 12 [l0, l1, l2, .int x, l4, l5] st h Q ↔ T d 66 13 [l0, l1, l2, .int x, l4, l5] (.int x :: st) h Q := T_iload_n c66_12 rfl
theorem c66_13 : cod 66 13 = some (.invokestatic 81, 3) := cod_of b66 dX6_stayCountBySize_13
theorem t66_13 {d : Nat} {h : Hp} {Q : Pst} {a0 : Nat} {a1 s0 : Int32} {ls : List Value} : T (d + 1) 66 13 ls [.int a1, .ref a0, .int s0] h Q ↔ T d 122 0 [.ref a0, .int a1] [] h (fun x h2 => T (d + 1) 66 16 ls (rl x [.int s0]) h2 Q) := T_staticR (as := [.ref a0, .int a1]) (r := [.int s0]) m66 m122 c66_13 k6_81 (Or.inr rfl) rfl (by decide) rfl (by simp [wrd, Value.category]) (by simp [stk, Value.category]) rfl
theorem c66_16 : cod 66 16 = some (.iload 4, 2) := cod_of b66 dX6_stayCountBySize_16
theorem t66_16 {d : Nat} {h : Hp} {Q : Pst} {l0 l1 l2 l3 l5 : Value} {x : Int32} {st : List Value} : T d 66 16 [l0, l1, l2, l3, .int x, l5] st h Q ↔ T d 66 18 [l0, l1, l2, l3, .int x, l5] (.int x :: st) h Q := T_iload c66_16 rfl
theorem c66_18 : cod 66 18 = some (.invokestatic 85, 3) := cod_of b66 dX6_stayCountBySize_18
theorem t66_18 {d : Nat} {h : Hp} {Q : Pst} {a0 a1 a2 : Int32} {ls : List Value} : T (d + 1) 66 18 ls [.int a2, .int a1, .int a0] h Q ↔ T d 50 0 [.int a0, .int a1, .int a2, un, un, un, un] [] h (fun x h2 => T (d + 1) 66 21 ls (rl x []) h2 Q) := T_staticR (as := [.int a0, .int a1, .int a2]) (r := []) m66 m50 c66_18 k6_85 (Or.inl rfl) rfl (by decide) rfl (by simp [wrd, Value.category]) (by simp [stk, Value.category]) rfl
theorem c66_21 : cod 66 21 = some (.istore 5, 2) := cod_of b66 dX6_stayCountBySize_21
theorem t66_21 {d : Nat} {h : Hp} {Q : Pst} {l0 l1 l2 l3 l4 l5 : Value} {x : Int32} {st : List Value} : T d 66 21 [l0, l1, l2, l3, l4, l5] (.int x :: st) h Q ↔ T d 66 23 [l0, l1, l2, l3, kil l4, .int x] st h Q := T_istore c66_21 (Nat.le_of_ble_eq_true rfl)
theorem c66_23 : cod 66 23 = some (.aload_n 0, 1) := cod_of b66 dX6_stayCountBySize_23
theorem t66_23 {d : Nat} {h : Hp} {Q : Pst} {l1 l2 l3 l4 l5 : Value} {x : Nat} {st : List Value} : T d 66 23 [.ref x, l1, l2, l3, l4, l5] st h Q ↔ T d 66 24 [.ref x, l1, l2, l3, l4, l5] (.ref x :: st) h Q := T_aload_n c66_23 rfl
theorem c66_24 : cod 66 24 = some (.getfield 9, 3) := cod_of b66 dX6_stayCountBySize_24
theorem t66_24 {d : Nat} {h : Hp} {Q : Pst} {a : Nat} {ls : List Value} {st : List Value} : T d 66 24 ls (.ref a :: st) h Q ↔ gF (h.2.2 a) 5 0 (fun v => T d 66 27 ls (v :: st) h Q) := T_getfieldR m66 c66_24 f6_9
theorem c66_27 : cod 66 27 = some (.iload_n 1, 1) := cod_of b66 dX6_stayCountBySize_27
theorem t66_27 {d : Nat} {h : Hp} {Q : Pst} {l0 l2 l3 l4 l5 : Value} {x : Int32} {st : List Value} : T d 66 27 [l0, .int x, l2, l3, l4, l5] st h Q ↔ T d 66 28 [l0, .int x, l2, l3, l4, l5] (.int x :: st) h Q := T_iload_n c66_27 rfl
theorem c66_28 : cod 66 28 = some (.invokestatic 81, 3) := cod_of b66 dX6_stayCountBySize_28
theorem t66_28 {d : Nat} {h : Hp} {Q : Pst} {a0 : Nat} {a1 : Int32} {ls : List Value} : T (d + 1) 66 28 ls [.int a1, .ref a0] h Q ↔ T d 122 0 [.ref a0, .int a1] [] h (fun x h2 => T (d + 1) 66 31 ls (rl x []) h2 Q) := T_staticR (as := [.ref a0, .int a1]) (r := []) m66 m122 c66_28 k6_81 (Or.inr rfl) rfl (by decide) rfl (by simp [wrd, Value.category]) (by simp [stk, Value.category]) rfl
theorem c66_31 : cod 66 31 = some (.iload_n 2, 1) := cod_of b66 dX6_stayCountBySize_31
theorem t66_31 {d : Nat} {h : Hp} {Q : Pst} {l0 l1 l3 l4 l5 : Value} {x : Int32} {st : List Value} : T d 66 31 [l0, l1, .int x, l3, l4, l5] st h Q ↔ T d 66 32 [l0, l1, .int x, l3, l4, l5] (.int x :: st) h Q := T_iload_n c66_31 rfl
theorem c66_32 : cod 66 32 = some (.iload 5, 2) := cod_of b66 dX6_stayCountBySize_32
theorem t66_32 {d : Nat} {h : Hp} {Q : Pst} {l0 l1 l2 l3 l4 : Value} {x : Int32} {st : List Value} : T d 66 32 [l0, l1, l2, l3, l4, .int x] st h Q ↔ T d 66 34 [l0, l1, l2, l3, l4, .int x] (.int x :: st) h Q := T_iload c66_32 rfl
theorem c66_34 : cod 66 34 = some (.invokestatic 99, 3) := cod_of b66 dX6_stayCountBySize_34
theorem t66_34 {d : Nat} {h : Hp} {Q : Pst} {a0 a1 a2 : Int32} {ls : List Value} : T (d + 1) 66 34 ls [.int a2, .int a1, .int a0] h Q ↔ T d 51 0 [.int a0, .int a1, .int a2, un, un] [] h (fun x h2 => T (d + 1) 66 37 ls (rl x []) h2 Q) := T_staticR (as := [.int a0, .int a1, .int a2]) (r := []) m66 m51 c66_34 k6_99 (Or.inl rfl) rfl (by decide) rfl (by simp [wrd, Value.category]) (by simp [stk, Value.category]) rfl
theorem c66_37 : cod 66 37 = some (.invokestatic 106, 3) := cod_of b66 dX6_stayCountBySize_37
theorem t66_37 {d : Nat} {h : Hp} {Q : Pst} {a0 : Int32} {ls : List Value} : T (d + 1) 66 37 ls [.int a0] h Q ↔ T d 213 0 [.int a0] [] h (fun x h2 => T (d + 1) 66 40 ls (rl x []) h2 Q) := T_staticR (as := [.int a0]) (r := []) m66 m213 c66_37 k6_106 (Or.inl rfl) rfl (by decide) rfl (by simp [wrd, Value.category]) (by simp [stk, Value.category]) rfl
theorem c66_40 : cod 66 40 = some (.ireturn, 1) := cod_of b66 dX6_stayCountBySize_40
theorem t66_40 {d : Nat} {h : Hp} {Q : Pst} {x : Int32} {ls : List Value} : T d 66 40 ls [.int x] h Q ↔ Q (some (.int x)) h := T_iretR m66 c66_40 rfl
theorem b67 : (mR 67).2.2.1 = cX6_stayRound := by rw [m67]
theorem c67_0 : cod 67 0 = some (.iconst 0, 1) := cod_of b67 dX6_stayRound_0
theorem t67_0 {d : Nat} {h : Hp} {Q : Pst} {ls : List Value} {st : List Value} : T d 67 0 ls st h Q ↔ T d 67 1 ls (.int 0 :: st) h Q := T_iconstV c67_0 (by decide)
theorem c67_1 : cod 67 1 = some (.istore_n 3, 1) := cod_of b67 dX6_stayRound_1
theorem t67_1 {d : Nat} {h : Hp} {Q : Pst} {l0 l1 l2 l3 l4 : Value} {x : Int32} {st : List Value} : T d 67 1 [l0, l1, l2, l3, l4] (.int x :: st) h Q ↔ T d 67 2 [l0, l1, kil l2, .int x, l4] st h Q := T_istore_n c67_1 (Nat.le_of_ble_eq_true rfl)
theorem c67_2 : cod 67 2 = some (.iconst 0, 1) := cod_of b67 dX6_stayRound_2
theorem t67_2 {d : Nat} {h : Hp} {Q : Pst} {ls : List Value} {st : List Value} : T d 67 2 ls st h Q ↔ T d 67 3 ls (.int 0 :: st) h Q := T_iconstV c67_2 (by decide)
theorem c67_3 : cod 67 3 = some (.istore 4, 2) := cod_of b67 dX6_stayRound_3
theorem t67_3 {d : Nat} {h : Hp} {Q : Pst} {l0 l1 l2 l3 l4 : Value} {x : Int32} {st : List Value} : T d 67 3 [l0, l1, l2, l3, l4] (.int x :: st) h Q ↔ T d 67 5 [l0, l1, l2, kil l3, .int x] st h Q := T_istore c67_3 (Nat.le_of_ble_eq_true rfl)
theorem c67_5 : cod 67 5 = some (.iload 4, 2) := cod_of b67 dX6_stayRound_5
theorem t67_5 {d : Nat} {h : Hp} {Q : Pst} {l0 l1 l2 l3 : Value} {x : Int32} {st : List Value} : T d 67 5 [l0, l1, l2, l3, .int x] st h Q ↔ T d 67 7 [l0, l1, l2, l3, .int x] (.int x :: st) h Q := T_iload c67_5 rfl
theorem c67_7 : cod 67 7 = some (.aload_n 0, 1) := cod_of b67 dX6_stayRound_7
theorem t67_7 {d : Nat} {h : Hp} {Q : Pst} {l1 l2 l3 l4 : Value} {x : Nat} {st : List Value} : T d 67 7 [.ref x, l1, l2, l3, l4] st h Q ↔ T d 67 8 [.ref x, l1, l2, l3, l4] (.ref x :: st) h Q := T_aload_n c67_7 rfl
theorem c67_8 : cod 67 8 = some (.getfield 52, 3) := cod_of b67 dX6_stayRound_8
theorem t67_8 {d : Nat} {h : Hp} {Q : Pst} {a : Nat} {ls : List Value} {st : List Value} : T d 67 8 ls (.ref a :: st) h Q ↔ gF (h.2.2 a) 5 11 (fun v => T d 67 11 ls (v :: st) h Q) := T_getfieldR m67 c67_8 f6_52
theorem c67_11 : cod 67 11 = some (.if_icmp .ge 28, 3) := cod_of b67 dX6_stayRound_11
theorem t67_11 {d : Nat} {h : Hp} {Q : Pst} {x y : Int32} {ls : List Value} {st : List Value} : T d 67 11 ls (.int y :: .int x :: st) h Q ↔ (if y ≤ x then T d 67 39 ls st h Q else T d 67 14 ls st h Q) := T_icmp_ge c67_11 (by decide)
theorem c67_14 : cod 67 14 = some (.iload_n 2, 1) := cod_of b67 dX6_stayRound_14
theorem t67_14 {d : Nat} {h : Hp} {Q : Pst} {l0 l1 l3 l4 : Value} {x : Int32} {st : List Value} : T d 67 14 [l0, l1, .int x, l3, l4] st h Q ↔ T d 67 15 [l0, l1, .int x, l3, l4] (.int x :: st) h Q := T_iload_n c67_14 rfl
theorem c67_15 : cod 67 15 = some (.iload 4, 2) := cod_of b67 dX6_stayRound_15
theorem t67_15 {d : Nat} {h : Hp} {Q : Pst} {l0 l1 l2 l3 : Value} {x : Int32} {st : List Value} : T d 67 15 [l0, l1, l2, l3, .int x] st h Q ↔ T d 67 17 [l0, l1, l2, l3, .int x] (.int x :: st) h Q := T_iload c67_15 rfl
theorem c67_17 : cod 67 17 = some (.invokestatic 115, 3) := cod_of b67 dX6_stayRound_17
theorem t67_17 {d : Nat} {h : Hp} {Q : Pst} {a0 a1 : Int32} {ls : List Value} : T (d + 1) 67 17 ls [.int a1, .int a0] h Q ↔ T d 119 0 [.int a0, .int a1] [] h (fun x h2 => T (d + 1) 67 20 ls (rl x []) h2 Q) := T_staticR (as := [.int a0, .int a1]) (r := []) m67 m119 c67_17 k6_115 (Or.inr rfl) rfl (by decide) rfl (by simp [wrd, Value.category]) (by simp [stk, Value.category]) rfl
theorem c67_20 : cod 67 20 = some (.ifCond .eq 13, 3) := cod_of b67 dX6_stayRound_20
theorem t67_20 {d : Nat} {h : Hp} {Q : Pst} {x : Int32} {ls : List Value} {st : List Value} : T d 67 20 ls (.int x :: st) h Q ↔ (if x = 0 then T d 67 33 ls st h Q else T d 67 23 ls st h Q) := T_if_eq c67_20 (by decide)
theorem c67_23 : cod 67 23 = some (.iload_n 3, 1) := cod_of b67 dX6_stayRound_23
theorem t67_23 {d : Nat} {h : Hp} {Q : Pst} {l0 l1 l2 l4 : Value} {x : Int32} {st : List Value} : T d 67 23 [l0, l1, l2, .int x, l4] st h Q ↔ T d 67 24 [l0, l1, l2, .int x, l4] (.int x :: st) h Q := T_iload_n c67_23 rfl
theorem c67_24 : cod 67 24 = some (.aload_n 0, 1) := cod_of b67 dX6_stayRound_24
theorem t67_24 {d : Nat} {h : Hp} {Q : Pst} {l1 l2 l3 l4 : Value} {x : Nat} {st : List Value} : T d 67 24 [.ref x, l1, l2, l3, l4] st h Q ↔ T d 67 25 [.ref x, l1, l2, l3, l4] (.ref x :: st) h Q := T_aload_n c67_24 rfl
theorem c67_25 : cod 67 25 = some (.iload_n 1, 1) := cod_of b67 dX6_stayRound_25
theorem t67_25 {d : Nat} {h : Hp} {Q : Pst} {l0 l2 l3 l4 : Value} {x : Int32} {st : List Value} : T d 67 25 [l0, .int x, l2, l3, l4] st h Q ↔ T d 67 26 [l0, .int x, l2, l3, l4] (.int x :: st) h Q := T_iload_n c67_25 rfl
theorem c67_26 : cod 67 26 = some (.iload 4, 2) := cod_of b67 dX6_stayRound_26
theorem t67_26 {d : Nat} {h : Hp} {Q : Pst} {l0 l1 l2 l3 : Value} {x : Int32} {st : List Value} : T d 67 26 [l0, l1, l2, l3, .int x] st h Q ↔ T d 67 28 [l0, l1, l2, l3, .int x] (.int x :: st) h Q := T_iload c67_26 rfl
theorem c67_28 : cod 67 28 = some (.invokevirtual 102, 3) := cod_of b67 dX6_stayRound_28
theorem t67_28 {d : Nat} {h : Hp} {Q : Pst} {a0 a1 s0 : Int32} {a : Nat} {ls : List Value} (ho : isO (h.2.2 a) 5) : T (d + 1) 67 28 ls [.int a1, .int a0, .ref a, .int s0] h Q ↔ T d 62 0 [.ref a, .int a0, .int a1] [] h (fun x h2 => T (d + 1) 67 31 ls (rl x [.int s0]) h2 Q) := T_virtualR (as := [.int a0, .int a1]) (r := [.int s0]) m67 m62 c67_28 k6_102  rfl (by decide) rfl (by simp [wrd, Value.category]) (by simp [stk, Value.category]) rfl (by decide +kernel) ho
theorem c67_31 : cod 67 31 = some (.ior, 1) := cod_of b67 dX6_stayRound_31
theorem t67_31 {d : Nat} {h : Hp} {Q : Pst} {x y : Int32} {ls : List Value} {st : List Value} : T d 67 31 ls (.int y :: .int x :: st) h Q ↔ T d 67 32 ls (.int (x ||| y) :: st) h Q := T_ior c67_31
theorem c67_32 : cod 67 32 = some (.istore_n 3, 1) := cod_of b67 dX6_stayRound_32
theorem t67_32 {d : Nat} {h : Hp} {Q : Pst} {l0 l1 l2 l3 l4 : Value} {x : Int32} {st : List Value} : T d 67 32 [l0, l1, l2, l3, l4] (.int x :: st) h Q ↔ T d 67 33 [l0, l1, kil l2, .int x, l4] st h Q := T_istore_n c67_32 (Nat.le_of_ble_eq_true rfl)
theorem c67_33 : cod 67 33 = some (.iinc 4 1, 3) := cod_of b67 dX6_stayRound_33
theorem t67_33 {d : Nat} {h : Hp} {Q : Pst} {l0 l1 l2 l3 : Value} {x : Int32} {st : List Value} : T d 67 33 [l0, l1, l2, l3, .int x] st h Q ↔ T d 67 36 [l0, l1, l2, kil l3, .int (x + 1)] st h Q := T_iincV c67_33 rfl (Nat.le_of_ble_eq_true rfl) (by decide) rfl
theorem c67_36 : cod 67 36 = some (.goto (-31), 3) := cod_of b67 dX6_stayRound_36
theorem t67_36 {d : Nat} {h : Hp} {Q : Pst} {ls : List Value} {st : List Value} : T d 67 36 ls st h Q ↔ T d 67 5 ls st h Q := T_goto c67_36 (by decide)
theorem c67_39 : cod 67 39 = some (.iload_n 3, 1) := cod_of b67 dX6_stayRound_39
theorem t67_39 {d : Nat} {h : Hp} {Q : Pst} {l0 l1 l2 l4 : Value} {x : Int32} {st : List Value} : T d 67 39 [l0, l1, l2, .int x, l4] st h Q ↔ T d 67 40 [l0, l1, l2, .int x, l4] (.int x :: st) h Q := T_iload_n c67_39 rfl
theorem c67_40 : cod 67 40 = some (.ireturn, 1) := cod_of b67 dX6_stayRound_40
theorem t67_40 {d : Nat} {h : Hp} {Q : Pst} {x : Int32} {ls : List Value} : T d 67 40 ls [.int x] h Q ↔ Q (some (.int x)) h := T_iretR m67 c67_40 rfl
theorem b68 : (mR 68).2.2.1 = cX6_company := by rw [m68]
theorem c68_0 : cod 68 0 = some (.aload_n 0, 1) := cod_of b68 dX6_company_0
theorem t68_0 {d : Nat} {h : Hp} {Q : Pst} {l1 l2 l3 l4 : Value} {x : Nat} {st : List Value} : T d 68 0 [.ref x, l1, l2, l3, l4] st h Q ↔ T d 68 1 [.ref x, l1, l2, l3, l4] (.ref x :: st) h Q := T_aload_n c68_0 rfl
theorem c68_1 : cod 68 1 = some (.iload_n 1, 1) := cod_of b68 dX6_company_1
theorem t68_1 {d : Nat} {h : Hp} {Q : Pst} {l0 l2 l3 l4 : Value} {x : Int32} {st : List Value} : T d 68 1 [l0, .int x, l2, l3, l4] st h Q ↔ T d 68 2 [l0, .int x, l2, l3, l4] (.int x :: st) h Q := T_iload_n c68_1 rfl
theorem c68_2 : cod 68 2 = some (.invokevirtual 95, 3) := cod_of b68 dX6_company_2
theorem t68_2 {d : Nat} {h : Hp} {Q : Pst} {a0 : Int32} {a : Nat} {ls : List Value} (ho : isO (h.2.2 a) 5) : T (d + 1) 68 2 ls [.int a0, .ref a] h Q ↔ T d 61 0 [.ref a, .int a0] [] h (fun x h2 => T (d + 1) 68 5 ls (rl x []) h2 Q) := T_virtualR (as := [.int a0]) (r := []) m68 m61 c68_2 k6_95  rfl (by decide) rfl (by simp [wrd, Value.category]) (by simp [stk, Value.category]) rfl (by decide +kernel) ho
theorem c68_5 : cod 68 5 = some (.istore_n 2, 1) := cod_of b68 dX6_company_5
theorem t68_5 {d : Nat} {h : Hp} {Q : Pst} {l0 l1 l2 l3 l4 : Value} {x : Int32} {st : List Value} : T d 68 5 [l0, l1, l2, l3, l4] (.int x :: st) h Q ↔ T d 68 6 [l0, kil l1, .int x, l3, l4] st h Q := T_istore_n c68_5 (Nat.le_of_ble_eq_true rfl)
theorem c68_6 : cod 68 6 = some (.iconst 0, 1) := cod_of b68 dX6_company_6
theorem t68_6 {d : Nat} {h : Hp} {Q : Pst} {ls : List Value} {st : List Value} : T d 68 6 ls st h Q ↔ T d 68 7 ls (.int 0 :: st) h Q := T_iconstV c68_6 (by decide)
theorem c68_7 : cod 68 7 = some (.istore_n 3, 1) := cod_of b68 dX6_company_7
theorem t68_7 {d : Nat} {h : Hp} {Q : Pst} {l0 l1 l2 l3 l4 : Value} {x : Int32} {st : List Value} : T d 68 7 [l0, l1, l2, l3, l4] (.int x :: st) h Q ↔ T d 68 8 [l0, l1, kil l2, .int x, l4] st h Q := T_istore_n c68_7 (Nat.le_of_ble_eq_true rfl)
theorem c68_8 : cod 68 8 = some (.iconst 0, 1) := cod_of b68 dX6_company_8
theorem t68_8 {d : Nat} {h : Hp} {Q : Pst} {ls : List Value} {st : List Value} : T d 68 8 ls st h Q ↔ T d 68 9 ls (.int 0 :: st) h Q := T_iconstV c68_8 (by decide)
theorem c68_9 : cod 68 9 = some (.istore 4, 2) := cod_of b68 dX6_company_9
theorem t68_9 {d : Nat} {h : Hp} {Q : Pst} {l0 l1 l2 l3 l4 : Value} {x : Int32} {st : List Value} : T d 68 9 [l0, l1, l2, l3, l4] (.int x :: st) h Q ↔ T d 68 11 [l0, l1, l2, kil l3, .int x] st h Q := T_istore c68_9 (Nat.le_of_ble_eq_true rfl)
theorem c68_11 : cod 68 11 = some (.iload 4, 2) := cod_of b68 dX6_company_11
theorem t68_11 {d : Nat} {h : Hp} {Q : Pst} {l0 l1 l2 l3 : Value} {x : Int32} {st : List Value} : T d 68 11 [l0, l1, l2, l3, .int x] st h Q ↔ T d 68 13 [l0, l1, l2, l3, .int x] (.int x :: st) h Q := T_iload c68_11 rfl
theorem c68_13 : cod 68 13 = some (.aload_n 0, 1) := cod_of b68 dX6_company_13
theorem t68_13 {d : Nat} {h : Hp} {Q : Pst} {l1 l2 l3 l4 : Value} {x : Nat} {st : List Value} : T d 68 13 [.ref x, l1, l2, l3, l4] st h Q ↔ T d 68 14 [.ref x, l1, l2, l3, l4] (.ref x :: st) h Q := T_aload_n c68_13 rfl
theorem c68_14 : cod 68 14 = some (.getfield 48, 3) := cod_of b68 dX6_company_14
theorem t68_14 {d : Nat} {h : Hp} {Q : Pst} {a : Nat} {ls : List Value} {st : List Value} : T d 68 14 ls (.ref a :: st) h Q ↔ gF (h.2.2 a) 5 10 (fun v => T d 68 17 ls (v :: st) h Q) := T_getfieldR m68 c68_14 f6_48
theorem c68_17 : cod 68 17 = some (.if_icmp .ge 50, 3) := cod_of b68 dX6_company_17
theorem t68_17 {d : Nat} {h : Hp} {Q : Pst} {x y : Int32} {ls : List Value} {st : List Value} : T d 68 17 ls (.int y :: .int x :: st) h Q ↔ (if y ≤ x then T d 68 67 ls st h Q else T d 68 20 ls st h Q) := T_icmp_ge c68_17 (by decide)
theorem c68_20 : cod 68 20 = some (.aload_n 0, 1) := cod_of b68 dX6_company_20
theorem t68_20 {d : Nat} {h : Hp} {Q : Pst} {l1 l2 l3 l4 : Value} {x : Nat} {st : List Value} : T d 68 20 [.ref x, l1, l2, l3, l4] st h Q ↔ T d 68 21 [.ref x, l1, l2, l3, l4] (.ref x :: st) h Q := T_aload_n c68_20 rfl
theorem c68_21 : cod 68 21 = some (.getfield 18, 3) := cod_of b68 dX6_company_21
theorem t68_21 {d : Nat} {h : Hp} {Q : Pst} {a : Nat} {ls : List Value} {st : List Value} : T d 68 21 ls (.ref a :: st) h Q ↔ gF (h.2.2 a) 5 2 (fun v => T d 68 24 ls (v :: st) h Q) := T_getfieldR m68 c68_21 f6_18
theorem c68_24 : cod 68 24 = some (.iload 4, 2) := cod_of b68 dX6_company_24
theorem t68_24 {d : Nat} {h : Hp} {Q : Pst} {l0 l1 l2 l3 : Value} {x : Int32} {st : List Value} : T d 68 24 [l0, l1, l2, l3, .int x] st h Q ↔ T d 68 26 [l0, l1, l2, l3, .int x] (.int x :: st) h Q := T_iload c68_24 rfl
theorem c68_26 : cod 68 26 = some (.invokestatic 81, 3) := cod_of b68 dX6_company_26
theorem t68_26 {d : Nat} {h : Hp} {Q : Pst} {a0 : Nat} {a1 : Int32} {ls : List Value} : T (d + 1) 68 26 ls [.int a1, .ref a0] h Q ↔ T d 122 0 [.ref a0, .int a1] [] h (fun x h2 => T (d + 1) 68 29 ls (rl x []) h2 Q) := T_staticR (as := [.ref a0, .int a1]) (r := []) m68 m122 c68_26 k6_81 (Or.inr rfl) rfl (by decide) rfl (by simp [wrd, Value.category]) (by simp [stk, Value.category]) rfl
theorem c68_29 : cod 68 29 = some (.iload_n 1, 1) := cod_of b68 dX6_company_29
theorem t68_29 {d : Nat} {h : Hp} {Q : Pst} {l0 l2 l3 l4 : Value} {x : Int32} {st : List Value} : T d 68 29 [l0, .int x, l2, l3, l4] st h Q ↔ T d 68 30 [l0, .int x, l2, l3, l4] (.int x :: st) h Q := T_iload_n c68_29 rfl
theorem c68_30 : cod 68 30 = some (.if_icmp .ne 31, 3) := cod_of b68 dX6_company_30
theorem t68_30 {d : Nat} {h : Hp} {Q : Pst} {x y : Int32} {ls : List Value} {st : List Value} : T d 68 30 ls (.int y :: .int x :: st) h Q ↔ (if ¬ x = y then T d 68 61 ls st h Q else T d 68 33 ls st h Q) := T_icmp_ne c68_30 (by decide)
theorem c68_33 : cod 68 33 = some (.iload_n 3, 1) := cod_of b68 dX6_company_33
theorem t68_33 {d : Nat} {h : Hp} {Q : Pst} {l0 l1 l2 l4 : Value} {x : Int32} {st : List Value} : T d 68 33 [l0, l1, l2, .int x, l4] st h Q ↔ T d 68 34 [l0, l1, l2, .int x, l4] (.int x :: st) h Q := T_iload_n c68_33 rfl
theorem c68_34 : cod 68 34 = some (.aload_n 0, 1) := cod_of b68 dX6_company_34
theorem t68_34 {d : Nat} {h : Hp} {Q : Pst} {l1 l2 l3 l4 : Value} {x : Nat} {st : List Value} : T d 68 34 [.ref x, l1, l2, l3, l4] st h Q ↔ T d 68 35 [.ref x, l1, l2, l3, l4] (.ref x :: st) h Q := T_aload_n c68_34 rfl
theorem c68_35 : cod 68 35 = some (.getfield 9, 3) := cod_of b68 dX6_company_35
theorem t68_35 {d : Nat} {h : Hp} {Q : Pst} {a : Nat} {ls : List Value} {st : List Value} : T d 68 35 ls (.ref a :: st) h Q ↔ gF (h.2.2 a) 5 0 (fun v => T d 68 38 ls (v :: st) h Q) := T_getfieldR m68 c68_35 f6_9
theorem c68_38 : cod 68 38 = some (.iload 4, 2) := cod_of b68 dX6_company_38
theorem t68_38 {d : Nat} {h : Hp} {Q : Pst} {l0 l1 l2 l3 : Value} {x : Int32} {st : List Value} : T d 68 38 [l0, l1, l2, l3, .int x] st h Q ↔ T d 68 40 [l0, l1, l2, l3, .int x] (.int x :: st) h Q := T_iload c68_38 rfl
theorem c68_40 : cod 68 40 = some (.invokestatic 81, 3) := cod_of b68 dX6_company_40
theorem t68_40 {d : Nat} {h : Hp} {Q : Pst} {a0 : Nat} {a1 s0 : Int32} {ls : List Value} : T (d + 1) 68 40 ls [.int a1, .ref a0, .int s0] h Q ↔ T d 122 0 [.ref a0, .int a1] [] h (fun x h2 => T (d + 1) 68 43 ls (rl x [.int s0]) h2 Q) := T_staticR (as := [.ref a0, .int a1]) (r := [.int s0]) m68 m122 c68_40 k6_81 (Or.inr rfl) rfl (by decide) rfl (by simp [wrd, Value.category]) (by simp [stk, Value.category]) rfl
theorem c68_43 : cod 68 43 = some (.aload_n 0, 1) := cod_of b68 dX6_company_43
theorem t68_43 {d : Nat} {h : Hp} {Q : Pst} {l1 l2 l3 l4 : Value} {x : Nat} {st : List Value} : T d 68 43 [.ref x, l1, l2, l3, l4] st h Q ↔ T d 68 44 [.ref x, l1, l2, l3, l4] (.ref x :: st) h Q := T_aload_n c68_43 rfl
theorem c68_44 : cod 68 44 = some (.getfield 15, 3) := cod_of b68 dX6_company_44
theorem t68_44 {d : Nat} {h : Hp} {Q : Pst} {a : Nat} {ls : List Value} {st : List Value} : T d 68 44 ls (.ref a :: st) h Q ↔ gF (h.2.2 a) 5 1 (fun v => T d 68 47 ls (v :: st) h Q) := T_getfieldR m68 c68_44 f6_15
theorem c68_47 : cod 68 47 = some (.iload 4, 2) := cod_of b68 dX6_company_47
theorem t68_47 {d : Nat} {h : Hp} {Q : Pst} {l0 l1 l2 l3 : Value} {x : Int32} {st : List Value} : T d 68 47 [l0, l1, l2, l3, .int x] st h Q ↔ T d 68 49 [l0, l1, l2, l3, .int x] (.int x :: st) h Q := T_iload c68_47 rfl
theorem c68_49 : cod 68 49 = some (.invokestatic 81, 3) := cod_of b68 dX6_company_49
theorem t68_49 {d : Nat} {h : Hp} {Q : Pst} {a0 : Nat} {a1 s0 s1 : Int32} {ls : List Value} : T (d + 1) 68 49 ls [.int a1, .ref a0, .int s0, .int s1] h Q ↔ T d 122 0 [.ref a0, .int a1] [] h (fun x h2 => T (d + 1) 68 52 ls (rl x [.int s0, .int s1]) h2 Q) := T_staticR (as := [.ref a0, .int a1]) (r := [.int s0, .int s1]) m68 m122 c68_49 k6_81 (Or.inr rfl) rfl (by decide) rfl (by simp [wrd, Value.category]) (by simp [stk, Value.category]) rfl
theorem c68_52 : cod 68 52 = some (.iload_n 2, 1) := cod_of b68 dX6_company_52
theorem t68_52 {d : Nat} {h : Hp} {Q : Pst} {l0 l1 l3 l4 : Value} {x : Int32} {st : List Value} : T d 68 52 [l0, l1, .int x, l3, l4] st h Q ↔ T d 68 53 [l0, l1, .int x, l3, l4] (.int x :: st) h Q := T_iload_n c68_52 rfl
theorem c68_53 : cod 68 53 = some (.invokestatic 99, 3) := cod_of b68 dX6_company_53
theorem t68_53 {d : Nat} {h : Hp} {Q : Pst} {a0 a1 a2 s0 : Int32} {ls : List Value} : T (d + 1) 68 53 ls [.int a2, .int a1, .int a0, .int s0] h Q ↔ T d 51 0 [.int a0, .int a1, .int a2, un, un] [] h (fun x h2 => T (d + 1) 68 56 ls (rl x [.int s0]) h2 Q) := T_staticR (as := [.int a0, .int a1, .int a2]) (r := [.int s0]) m68 m51 c68_53 k6_99 (Or.inl rfl) rfl (by decide) rfl (by simp [wrd, Value.category]) (by simp [stk, Value.category]) rfl
theorem c68_56 : cod 68 56 = some (.invokestatic 106, 3) := cod_of b68 dX6_company_56
theorem t68_56 {d : Nat} {h : Hp} {Q : Pst} {a0 s0 : Int32} {ls : List Value} : T (d + 1) 68 56 ls [.int a0, .int s0] h Q ↔ T d 213 0 [.int a0] [] h (fun x h2 => T (d + 1) 68 59 ls (rl x [.int s0]) h2 Q) := T_staticR (as := [.int a0]) (r := [.int s0]) m68 m213 c68_56 k6_106 (Or.inl rfl) rfl (by decide) rfl (by simp [wrd, Value.category]) (by simp [stk, Value.category]) rfl
theorem c68_59 : cod 68 59 = some (.iadd, 1) := cod_of b68 dX6_company_59
theorem t68_59 {d : Nat} {h : Hp} {Q : Pst} {x y : Int32} {ls : List Value} {st : List Value} : T d 68 59 ls (.int y :: .int x :: st) h Q ↔ T d 68 60 ls (.int (x + y) :: st) h Q := T_iadd c68_59
theorem c68_60 : cod 68 60 = some (.istore_n 3, 1) := cod_of b68 dX6_company_60
theorem t68_60 {d : Nat} {h : Hp} {Q : Pst} {l0 l1 l2 l3 l4 : Value} {x : Int32} {st : List Value} : T d 68 60 [l0, l1, l2, l3, l4] (.int x :: st) h Q ↔ T d 68 61 [l0, l1, kil l2, .int x, l4] st h Q := T_istore_n c68_60 (Nat.le_of_ble_eq_true rfl)
theorem c68_61 : cod 68 61 = some (.iinc 4 1, 3) := cod_of b68 dX6_company_61
theorem t68_61 {d : Nat} {h : Hp} {Q : Pst} {l0 l1 l2 l3 : Value} {x : Int32} {st : List Value} : T d 68 61 [l0, l1, l2, l3, .int x] st h Q ↔ T d 68 64 [l0, l1, l2, kil l3, .int (x + 1)] st h Q := T_iincV c68_61 rfl (Nat.le_of_ble_eq_true rfl) (by decide) rfl
theorem c68_64 : cod 68 64 = some (.goto (-53), 3) := cod_of b68 dX6_company_64
theorem t68_64 {d : Nat} {h : Hp} {Q : Pst} {ls : List Value} {st : List Value} : T d 68 64 ls st h Q ↔ T d 68 11 ls st h Q := T_goto c68_64 (by decide)
theorem c68_67 : cod 68 67 = some (.iload_n 3, 1) := cod_of b68 dX6_company_67
theorem t68_67 {d : Nat} {h : Hp} {Q : Pst} {l0 l1 l2 l4 : Value} {x : Int32} {st : List Value} : T d 68 67 [l0, l1, l2, .int x, l4] st h Q ↔ T d 68 68 [l0, l1, l2, .int x, l4] (.int x :: st) h Q := T_iload_n c68_67 rfl
theorem c68_68 : cod 68 68 = some (.ireturn, 1) := cod_of b68 dX6_company_68
theorem t68_68 {d : Nat} {h : Hp} {Q : Pst} {x : Int32} {ls : List Value} : T d 68 68 ls [.int x] h Q ↔ Q (some (.int x)) h := T_iretR m68 c68_68 rfl
theorem b69 : (mR 69).2.2.1 = cX6_pairs := by rw [m69]
theorem c69_0 : cod 69 0 = some (.aload_n 0, 1) := cod_of b69 dX6_pairs_0
theorem t69_0 {d : Nat} {h : Hp} {Q : Pst} {l1 l2 l3 l4 l5 : Value} {x : Nat} {st : List Value} : T d 69 0 [.ref x, l1, l2, l3, l4, l5] st h Q ↔ T d 69 1 [.ref x, l1, l2, l3, l4, l5] (.ref x :: st) h Q := T_aload_n c69_0 rfl
theorem c69_1 : cod 69 1 = some (.iload_n 1, 1) := cod_of b69 dX6_pairs_1
theorem t69_1 {d : Nat} {h : Hp} {Q : Pst} {l0 l2 l3 l4 l5 : Value} {x : Int32} {st : List Value} : T d 69 1 [l0, .int x, l2, l3, l4, l5] st h Q ↔ T d 69 2 [l0, .int x, l2, l3, l4, l5] (.int x :: st) h Q := T_iload_n c69_1 rfl
theorem c69_2 : cod 69 2 = some (.invokevirtual 95, 3) := cod_of b69 dX6_pairs_2
theorem t69_2 {d : Nat} {h : Hp} {Q : Pst} {a0 : Int32} {a : Nat} {ls : List Value} (ho : isO (h.2.2 a) 5) : T (d + 1) 69 2 ls [.int a0, .ref a] h Q ↔ T d 61 0 [.ref a, .int a0] [] h (fun x h2 => T (d + 1) 69 5 ls (rl x []) h2 Q) := T_virtualR (as := [.int a0]) (r := []) m69 m61 c69_2 k6_95  rfl (by decide) rfl (by simp [wrd, Value.category]) (by simp [stk, Value.category]) rfl (by decide +kernel) ho
theorem c69_5 : cod 69 5 = some (.istore_n 2, 1) := cod_of b69 dX6_pairs_5
theorem t69_5 {d : Nat} {h : Hp} {Q : Pst} {l0 l1 l2 l3 l4 l5 : Value} {x : Int32} {st : List Value} : T d 69 5 [l0, l1, l2, l3, l4, l5] (.int x :: st) h Q ↔ T d 69 6 [l0, kil l1, .int x, l3, l4, l5] st h Q := T_istore_n c69_5 (Nat.le_of_ble_eq_true rfl)
theorem c69_6 : cod 69 6 = some (.iconst 0, 1) := cod_of b69 dX6_pairs_6
theorem t69_6 {d : Nat} {h : Hp} {Q : Pst} {ls : List Value} {st : List Value} : T d 69 6 ls st h Q ↔ T d 69 7 ls (.int 0 :: st) h Q := T_iconstV c69_6 (by decide)
theorem c69_7 : cod 69 7 = some (.istore_n 3, 1) := cod_of b69 dX6_pairs_7
theorem t69_7 {d : Nat} {h : Hp} {Q : Pst} {l0 l1 l2 l3 l4 l5 : Value} {x : Int32} {st : List Value} : T d 69 7 [l0, l1, l2, l3, l4, l5] (.int x :: st) h Q ↔ T d 69 8 [l0, l1, kil l2, .int x, l4, l5] st h Q := T_istore_n c69_7 (Nat.le_of_ble_eq_true rfl)
theorem c69_8 : cod 69 8 = some (.iconst 0, 1) := cod_of b69 dX6_pairs_8
theorem t69_8 {d : Nat} {h : Hp} {Q : Pst} {ls : List Value} {st : List Value} : T d 69 8 ls st h Q ↔ T d 69 9 ls (.int 0 :: st) h Q := T_iconstV c69_8 (by decide)
theorem c69_9 : cod 69 9 = some (.istore 4, 2) := cod_of b69 dX6_pairs_9
theorem t69_9 {d : Nat} {h : Hp} {Q : Pst} {l0 l1 l2 l3 l4 l5 : Value} {x : Int32} {st : List Value} : T d 69 9 [l0, l1, l2, l3, l4, l5] (.int x :: st) h Q ↔ T d 69 11 [l0, l1, l2, kil l3, .int x, l5] st h Q := T_istore c69_9 (Nat.le_of_ble_eq_true rfl)
theorem c69_11 : cod 69 11 = some (.iload 4, 2) := cod_of b69 dX6_pairs_11
theorem t69_11 {d : Nat} {h : Hp} {Q : Pst} {l0 l1 l2 l3 l5 : Value} {x : Int32} {st : List Value} : T d 69 11 [l0, l1, l2, l3, .int x, l5] st h Q ↔ T d 69 13 [l0, l1, l2, l3, .int x, l5] (.int x :: st) h Q := T_iload c69_11 rfl
theorem c69_13 : cod 69 13 = some (.aload_n 0, 1) := cod_of b69 dX6_pairs_13
theorem t69_13 {d : Nat} {h : Hp} {Q : Pst} {l1 l2 l3 l4 l5 : Value} {x : Nat} {st : List Value} : T d 69 13 [.ref x, l1, l2, l3, l4, l5] st h Q ↔ T d 69 14 [.ref x, l1, l2, l3, l4, l5] (.ref x :: st) h Q := T_aload_n c69_13 rfl
theorem c69_14 : cod 69 14 = some (.getfield 48, 3) := cod_of b69 dX6_pairs_14
theorem t69_14 {d : Nat} {h : Hp} {Q : Pst} {a : Nat} {ls : List Value} {st : List Value} : T d 69 14 ls (.ref a :: st) h Q ↔ gF (h.2.2 a) 5 10 (fun v => T d 69 17 ls (v :: st) h Q) := T_getfieldR m69 c69_14 f6_48
theorem c69_17 : cod 69 17 = some (.if_icmp .ge 62, 3) := cod_of b69 dX6_pairs_17
theorem t69_17 {d : Nat} {h : Hp} {Q : Pst} {x y : Int32} {ls : List Value} {st : List Value} : T d 69 17 ls (.int y :: .int x :: st) h Q ↔ (if y ≤ x then T d 69 79 ls st h Q else T d 69 20 ls st h Q) := T_icmp_ge c69_17 (by decide)
theorem c69_20 : cod 69 20 = some (.aload_n 0, 1) := cod_of b69 dX6_pairs_20
theorem t69_20 {d : Nat} {h : Hp} {Q : Pst} {l1 l2 l3 l4 l5 : Value} {x : Nat} {st : List Value} : T d 69 20 [.ref x, l1, l2, l3, l4, l5] st h Q ↔ T d 69 21 [.ref x, l1, l2, l3, l4, l5] (.ref x :: st) h Q := T_aload_n c69_20 rfl
theorem c69_21 : cod 69 21 = some (.getfield 9, 3) := cod_of b69 dX6_pairs_21
theorem t69_21 {d : Nat} {h : Hp} {Q : Pst} {a : Nat} {ls : List Value} {st : List Value} : T d 69 21 ls (.ref a :: st) h Q ↔ gF (h.2.2 a) 5 0 (fun v => T d 69 24 ls (v :: st) h Q) := T_getfieldR m69 c69_21 f6_9
theorem c69_24 : cod 69 24 = some (.iload 4, 2) := cod_of b69 dX6_pairs_24
theorem t69_24 {d : Nat} {h : Hp} {Q : Pst} {l0 l1 l2 l3 l5 : Value} {x : Int32} {st : List Value} : T d 69 24 [l0, l1, l2, l3, .int x, l5] st h Q ↔ T d 69 26 [l0, l1, l2, l3, .int x, l5] (.int x :: st) h Q := T_iload c69_24 rfl
theorem c69_26 : cod 69 26 = some (.invokestatic 81, 3) := cod_of b69 dX6_pairs_26
theorem t69_26 {d : Nat} {h : Hp} {Q : Pst} {a0 : Nat} {a1 : Int32} {ls : List Value} : T (d + 1) 69 26 ls [.int a1, .ref a0] h Q ↔ T d 122 0 [.ref a0, .int a1] [] h (fun x h2 => T (d + 1) 69 29 ls (rl x []) h2 Q) := T_staticR (as := [.ref a0, .int a1]) (r := []) m69 m122 c69_26 k6_81 (Or.inr rfl) rfl (by decide) rfl (by simp [wrd, Value.category]) (by simp [stk, Value.category]) rfl
theorem c69_29 : cod 69 29 = some (.aload_n 0, 1) := cod_of b69 dX6_pairs_29
theorem t69_29 {d : Nat} {h : Hp} {Q : Pst} {l1 l2 l3 l4 l5 : Value} {x : Nat} {st : List Value} : T d 69 29 [.ref x, l1, l2, l3, l4, l5] st h Q ↔ T d 69 30 [.ref x, l1, l2, l3, l4, l5] (.ref x :: st) h Q := T_aload_n c69_29 rfl
theorem c69_30 : cod 69 30 = some (.getfield 15, 3) := cod_of b69 dX6_pairs_30
theorem t69_30 {d : Nat} {h : Hp} {Q : Pst} {a : Nat} {ls : List Value} {st : List Value} : T d 69 30 ls (.ref a :: st) h Q ↔ gF (h.2.2 a) 5 1 (fun v => T d 69 33 ls (v :: st) h Q) := T_getfieldR m69 c69_30 f6_15
theorem c69_33 : cod 69 33 = some (.iload 4, 2) := cod_of b69 dX6_pairs_33
theorem t69_33 {d : Nat} {h : Hp} {Q : Pst} {l0 l1 l2 l3 l5 : Value} {x : Int32} {st : List Value} : T d 69 33 [l0, l1, l2, l3, .int x, l5] st h Q ↔ T d 69 35 [l0, l1, l2, l3, .int x, l5] (.int x :: st) h Q := T_iload c69_33 rfl
theorem c69_35 : cod 69 35 = some (.invokestatic 81, 3) := cod_of b69 dX6_pairs_35
theorem t69_35 {d : Nat} {h : Hp} {Q : Pst} {a0 : Nat} {a1 s0 : Int32} {ls : List Value} : T (d + 1) 69 35 ls [.int a1, .ref a0, .int s0] h Q ↔ T d 122 0 [.ref a0, .int a1] [] h (fun x h2 => T (d + 1) 69 38 ls (rl x [.int s0]) h2 Q) := T_staticR (as := [.ref a0, .int a1]) (r := [.int s0]) m69 m122 c69_35 k6_81 (Or.inr rfl) rfl (by decide) rfl (by simp [wrd, Value.category]) (by simp [stk, Value.category]) rfl
theorem c69_38 : cod 69 38 = some (.iload_n 2, 1) := cod_of b69 dX6_pairs_38
theorem t69_38 {d : Nat} {h : Hp} {Q : Pst} {l0 l1 l3 l4 l5 : Value} {x : Int32} {st : List Value} : T d 69 38 [l0, l1, .int x, l3, l4, l5] st h Q ↔ T d 69 39 [l0, l1, .int x, l3, l4, l5] (.int x :: st) h Q := T_iload_n c69_38 rfl
theorem c69_39 : cod 69 39 = some (.invokestatic 99, 3) := cod_of b69 dX6_pairs_39
theorem t69_39 {d : Nat} {h : Hp} {Q : Pst} {a0 a1 a2 : Int32} {ls : List Value} : T (d + 1) 69 39 ls [.int a2, .int a1, .int a0] h Q ↔ T d 51 0 [.int a0, .int a1, .int a2, un, un] [] h (fun x h2 => T (d + 1) 69 42 ls (rl x []) h2 Q) := T_staticR (as := [.int a0, .int a1, .int a2]) (r := []) m69 m51 c69_39 k6_99 (Or.inl rfl) rfl (by decide) rfl (by simp [wrd, Value.category]) (by simp [stk, Value.category]) rfl
theorem c69_42 : cod 69 42 = some (.ifCond .eq 7, 3) := cod_of b69 dX6_pairs_42
theorem t69_42 {d : Nat} {h : Hp} {Q : Pst} {x : Int32} {ls : List Value} {st : List Value} : T d 69 42 ls (.int x :: st) h Q ↔ (if x = 0 then T d 69 49 ls st h Q else T d 69 45 ls st h Q) := T_if_eq c69_42 (by decide)
theorem c69_45 : cod 69 45 = some (.iconst 1, 1) := cod_of b69 dX6_pairs_45
theorem t69_45 {d : Nat} {h : Hp} {Q : Pst} {ls : List Value} {st : List Value} : T d 69 45 ls st h Q ↔ T d 69 46 ls (.int 1 :: st) h Q := T_iconstV c69_45 (by decide)
theorem c69_46 : cod 69 46 = some (.goto 4, 3) := cod_of b69 dX6_pairs_46
theorem t69_46 {d : Nat} {h : Hp} {Q : Pst} {ls : List Value} {st : List Value} : T d 69 46 ls st h Q ↔ T d 69 50 ls st h Q := T_goto c69_46 (by decide)
theorem c69_50 : cod 69 50 = some (.istore 5, 2) := cod_of b69 dX6_pairs_50
theorem t69_50 {d : Nat} {h : Hp} {Q : Pst} {l0 l1 l2 l3 l4 l5 : Value} {x : Int32} {st : List Value} : T d 69 50 [l0, l1, l2, l3, l4, l5] (.int x :: st) h Q ↔ T d 69 52 [l0, l1, l2, l3, kil l4, .int x] st h Q := T_istore c69_50 (Nat.le_of_ble_eq_true rfl)
theorem c69_52 : cod 69 52 = some (.aload_n 0, 1) := cod_of b69 dX6_pairs_52
theorem t69_52 {d : Nat} {h : Hp} {Q : Pst} {l1 l2 l3 l4 l5 : Value} {x : Nat} {st : List Value} : T d 69 52 [.ref x, l1, l2, l3, l4, l5] st h Q ↔ T d 69 53 [.ref x, l1, l2, l3, l4, l5] (.ref x :: st) h Q := T_aload_n c69_52 rfl
theorem c69_53 : cod 69 53 = some (.getfield 18, 3) := cod_of b69 dX6_pairs_53
theorem t69_53 {d : Nat} {h : Hp} {Q : Pst} {a : Nat} {ls : List Value} {st : List Value} : T d 69 53 ls (.ref a :: st) h Q ↔ gF (h.2.2 a) 5 2 (fun v => T d 69 56 ls (v :: st) h Q) := T_getfieldR m69 c69_53 f6_18
theorem c69_56 : cod 69 56 = some (.iload 4, 2) := cod_of b69 dX6_pairs_56
theorem t69_56 {d : Nat} {h : Hp} {Q : Pst} {l0 l1 l2 l3 l5 : Value} {x : Int32} {st : List Value} : T d 69 56 [l0, l1, l2, l3, .int x, l5] st h Q ↔ T d 69 58 [l0, l1, l2, l3, .int x, l5] (.int x :: st) h Q := T_iload c69_56 rfl
theorem c69_58 : cod 69 58 = some (.invokestatic 81, 3) := cod_of b69 dX6_pairs_58
theorem t69_58 {d : Nat} {h : Hp} {Q : Pst} {a0 : Nat} {a1 : Int32} {ls : List Value} : T (d + 1) 69 58 ls [.int a1, .ref a0] h Q ↔ T d 122 0 [.ref a0, .int a1] [] h (fun x h2 => T (d + 1) 69 61 ls (rl x []) h2 Q) := T_staticR (as := [.ref a0, .int a1]) (r := []) m69 m122 c69_58 k6_81 (Or.inr rfl) rfl (by decide) rfl (by simp [wrd, Value.category]) (by simp [stk, Value.category]) rfl
theorem c69_61 : cod 69 61 = some (.iload_n 1, 1) := cod_of b69 dX6_pairs_61
theorem t69_61 {d : Nat} {h : Hp} {Q : Pst} {l0 l2 l3 l4 l5 : Value} {x : Int32} {st : List Value} : T d 69 61 [l0, .int x, l2, l3, l4, l5] st h Q ↔ T d 69 62 [l0, .int x, l2, l3, l4, l5] (.int x :: st) h Q := T_iload_n c69_61 rfl
theorem c69_62 : cod 69 62 = some (.if_icmp .ne 11, 3) := cod_of b69 dX6_pairs_62
theorem t69_62 {d : Nat} {h : Hp} {Q : Pst} {x y : Int32} {ls : List Value} {st : List Value} : T d 69 62 ls (.int y :: .int x :: st) h Q ↔ (if ¬ x = y then T d 69 73 ls st h Q else T d 69 65 ls st h Q) := T_icmp_ne c69_62 (by decide)
theorem c69_65 : cod 69 65 = some (.iload 5, 2) := cod_of b69 dX6_pairs_65
theorem t69_65 {d : Nat} {h : Hp} {Q : Pst} {l0 l1 l2 l3 l4 : Value} {x : Int32} {st : List Value} : T d 69 65 [l0, l1, l2, l3, l4, .int x] st h Q ↔ T d 69 67 [l0, l1, l2, l3, l4, .int x] (.int x :: st) h Q := T_iload c69_65 rfl
theorem c69_67 : cod 69 67 = some (.ifCond .eq 6, 3) := cod_of b69 dX6_pairs_67
theorem t69_67 {d : Nat} {h : Hp} {Q : Pst} {x : Int32} {ls : List Value} {st : List Value} : T d 69 67 ls (.int x :: st) h Q ↔ (if x = 0 then T d 69 73 ls st h Q else T d 69 70 ls st h Q) := T_if_eq c69_67 (by decide)
theorem c69_70 : cod 69 70 = some (.iinc 3 1, 3) := cod_of b69 dX6_pairs_70
theorem t69_70 {d : Nat} {h : Hp} {Q : Pst} {l0 l1 l2 l4 l5 : Value} {x : Int32} {st : List Value} : T d 69 70 [l0, l1, l2, .int x, l4, l5] st h Q ↔ T d 69 73 [l0, l1, kil l2, .int (x + 1), l4, l5] st h Q := T_iincV c69_70 rfl (Nat.le_of_ble_eq_true rfl) (by decide) rfl
theorem c69_73 : cod 69 73 = some (.iinc 4 1, 3) := cod_of b69 dX6_pairs_73
theorem t69_73 {d : Nat} {h : Hp} {Q : Pst} {l0 l1 l2 l3 l5 : Value} {x : Int32} {st : List Value} : T d 69 73 [l0, l1, l2, l3, .int x, l5] st h Q ↔ T d 69 76 [l0, l1, l2, kil l3, .int (x + 1), l5] st h Q := T_iincV c69_73 rfl (Nat.le_of_ble_eq_true rfl) (by decide) rfl
theorem c69_76 : cod 69 76 = some (.goto (-65), 3) := cod_of b69 dX6_pairs_76
theorem t69_76 {d : Nat} {h : Hp} {Q : Pst} {ls : List Value} {st : List Value} : T d 69 76 ls st h Q ↔ T d 69 11 ls st h Q := T_goto c69_76 (by decide)
theorem c69_49 : cod 69 49 = some (.iconst 0, 1) := cod_of b69 dX6_pairs_49
theorem t69_49 {d : Nat} {h : Hp} {Q : Pst} {ls : List Value} {st : List Value} : T d 69 49 ls st h Q ↔ T d 69 50 ls (.int 0 :: st) h Q := T_iconstV c69_49 (by decide)
theorem c69_79 : cod 69 79 = some (.iload_n 3, 1) := cod_of b69 dX6_pairs_79
theorem t69_79 {d : Nat} {h : Hp} {Q : Pst} {l0 l1 l2 l4 l5 : Value} {x : Int32} {st : List Value} : T d 69 79 [l0, l1, l2, .int x, l4, l5] st h Q ↔ T d 69 80 [l0, l1, l2, .int x, l4, l5] (.int x :: st) h Q := T_iload_n c69_79 rfl
theorem c69_80 : cod 69 80 = some (.iload_n 3, 1) := cod_of b69 dX6_pairs_80
theorem t69_80 {d : Nat} {h : Hp} {Q : Pst} {l0 l1 l2 l4 l5 : Value} {x : Int32} {st : List Value} : T d 69 80 [l0, l1, l2, .int x, l4, l5] st h Q ↔ T d 69 81 [l0, l1, l2, .int x, l4, l5] (.int x :: st) h Q := T_iload_n c69_80 rfl
theorem c69_81 : cod 69 81 = some (.iconst 1, 1) := cod_of b69 dX6_pairs_81
theorem t69_81 {d : Nat} {h : Hp} {Q : Pst} {ls : List Value} {st : List Value} : T d 69 81 ls st h Q ↔ T d 69 82 ls (.int 1 :: st) h Q := T_iconstV c69_81 (by decide)
theorem c69_82 : cod 69 82 = some (.isub, 1) := cod_of b69 dX6_pairs_82
theorem t69_82 {d : Nat} {h : Hp} {Q : Pst} {x y : Int32} {ls : List Value} {st : List Value} : T d 69 82 ls (.int y :: .int x :: st) h Q ↔ T d 69 83 ls (.int (x - y) :: st) h Q := T_isub c69_82
theorem c69_83 : cod 69 83 = some (.imul, 1) := cod_of b69 dX6_pairs_83
theorem t69_83 {d : Nat} {h : Hp} {Q : Pst} {x y : Int32} {ls : List Value} {st : List Value} : T d 69 83 ls (.int y :: .int x :: st) h Q ↔ T d 69 84 ls (.int (x * y) :: st) h Q := T_imul c69_83
theorem c69_84 : cod 69 84 = some (.iconst 2, 1) := cod_of b69 dX6_pairs_84
theorem t69_84 {d : Nat} {h : Hp} {Q : Pst} {ls : List Value} {st : List Value} : T d 69 84 ls st h Q ↔ T d 69 85 ls (.int 2 :: st) h Q := T_iconstV c69_84 (by decide)
theorem c69_85 : cod 69 85 = some (.idiv, 1) := cod_of b69 dX6_pairs_85
theorem t69_85 {d : Nat} {h : Hp} {Q : Pst} {x y : Int32} {ls : List Value} {st : List Value} : T d 69 85 ls (.int y :: .int x :: st) h Q ↔ (¬ y = 0 ∧ T d 69 86 ls (.int (x / y) :: st) h Q) := T_idiv c69_85
theorem c69_86 : cod 69 86 = some (.ireturn, 1) := cod_of b69 dX6_pairs_86
theorem t69_86 {d : Nat} {h : Hp} {Q : Pst} {x : Int32} {ls : List Value} : T d 69 86 ls [.int x] h Q ↔ Q (some (.int x)) h := T_iretR m69 c69_86 rfl
theorem b70 : (mR 70).2.2.1 = cX6_likingAfter := by rw [m70]
theorem c70_0 : cod 70 0 = some (.aload_n 0, 1) := cod_of b70 dX6_likingAfter_0
theorem t70_0 {d : Nat} {h : Hp} {Q : Pst} {l1 l2 l3 : Value} {x : Nat} {st : List Value} : T d 70 0 [.ref x, l1, l2, l3] st h Q ↔ T d 70 1 [.ref x, l1, l2, l3] (.ref x :: st) h Q := T_aload_n c70_0 rfl
theorem c70_1 : cod 70 1 = some (.iload_n 1, 1) := cod_of b70 dX6_likingAfter_1
theorem t70_1 {d : Nat} {h : Hp} {Q : Pst} {l0 l2 l3 : Value} {x : Int32} {st : List Value} : T d 70 1 [l0, .int x, l2, l3] st h Q ↔ T d 70 2 [l0, .int x, l2, l3] (.int x :: st) h Q := T_iload_n c70_1 rfl
theorem c70_2 : cod 70 2 = some (.invokevirtual 119, 3) := cod_of b70 dX6_likingAfter_2
theorem t70_2 {d : Nat} {h : Hp} {Q : Pst} {a0 : Int32} {a : Nat} {ls : List Value} (ho : isO (h.2.2 a) 5) : T (d + 1) 70 2 ls [.int a0, .ref a] h Q ↔ T d 68 0 [.ref a, .int a0, un, un, un] [] h (fun x h2 => T (d + 1) 70 5 ls (rl x []) h2 Q) := T_virtualR (as := [.int a0]) (r := []) m70 m68 c70_2 k6_119  rfl (by decide) rfl (by simp [wrd, Value.category]) (by simp [stk, Value.category]) rfl (by decide +kernel) ho
theorem c70_5 : cod 70 5 = some (.iconst 2, 1) := cod_of b70 dX6_likingAfter_5
theorem t70_5 {d : Nat} {h : Hp} {Q : Pst} {ls : List Value} {st : List Value} : T d 70 5 ls st h Q ↔ T d 70 6 ls (.int 2 :: st) h Q := T_iconstV c70_5 (by decide)
theorem c70_6 : cod 70 6 = some (.aload_n 0, 1) := cod_of b70 dX6_likingAfter_6
theorem t70_6 {d : Nat} {h : Hp} {Q : Pst} {l1 l2 l3 : Value} {x : Nat} {st : List Value} : T d 70 6 [.ref x, l1, l2, l3] st h Q ↔ T d 70 7 [.ref x, l1, l2, l3] (.ref x :: st) h Q := T_aload_n c70_6 rfl
theorem c70_7 : cod 70 7 = some (.iload_n 1, 1) := cod_of b70 dX6_likingAfter_7
theorem t70_7 {d : Nat} {h : Hp} {Q : Pst} {l0 l2 l3 : Value} {x : Int32} {st : List Value} : T d 70 7 [l0, .int x, l2, l3] st h Q ↔ T d 70 8 [l0, .int x, l2, l3] (.int x :: st) h Q := T_iload_n c70_7 rfl
theorem c70_8 : cod 70 8 = some (.invokevirtual 122, 3) := cod_of b70 dX6_likingAfter_8
theorem t70_8 {d : Nat} {h : Hp} {Q : Pst} {a0 s0 s1 : Int32} {a : Nat} {ls : List Value} (ho : isO (h.2.2 a) 5) : T (d + 1) 70 8 ls [.int a0, .ref a, .int s0, .int s1] h Q ↔ T d 69 0 [.ref a, .int a0, un, un, un, un] [] h (fun x h2 => T (d + 1) 70 11 ls (rl x [.int s0, .int s1]) h2 Q) := T_virtualR (as := [.int a0]) (r := [.int s0, .int s1]) m70 m69 c70_8 k6_122  rfl (by decide) rfl (by simp [wrd, Value.category]) (by simp [stk, Value.category]) rfl (by decide +kernel) ho
theorem c70_11 : cod 70 11 = some (.imul, 1) := cod_of b70 dX6_likingAfter_11
theorem t70_11 {d : Nat} {h : Hp} {Q : Pst} {x y : Int32} {ls : List Value} {st : List Value} : T d 70 11 ls (.int y :: .int x :: st) h Q ↔ T d 70 12 ls (.int (x * y) :: st) h Q := T_imul c70_11
theorem c70_12 : cod 70 12 = some (.iadd, 1) := cod_of b70 dX6_likingAfter_12
theorem t70_12 {d : Nat} {h : Hp} {Q : Pst} {x y : Int32} {ls : List Value} {st : List Value} : T d 70 12 ls (.int y :: .int x :: st) h Q ↔ T d 70 13 ls (.int (x + y) :: st) h Q := T_iadd c70_12
theorem c70_13 : cod 70 13 = some (.istore_n 3, 1) := cod_of b70 dX6_likingAfter_13
theorem t70_13 {d : Nat} {h : Hp} {Q : Pst} {l0 l1 l2 l3 : Value} {x : Int32} {st : List Value} : T d 70 13 [l0, l1, l2, l3] (.int x :: st) h Q ↔ T d 70 14 [l0, l1, kil l2, .int x] st h Q := T_istore_n c70_13 (Nat.le_of_ble_eq_true rfl)
theorem c70_14 : cod 70 14 = some (.sipush 9999, 3) := cod_of b70 dX6_likingAfter_14
theorem t70_14 {d : Nat} {h : Hp} {Q : Pst} {ls : List Value} {st : List Value} : T d 70 14 ls st h Q ↔ T d 70 17 ls (.int 9999 :: st) h Q := T_sipushV c70_14 (by decide)
theorem c70_17 : cod 70 17 = some (.aload_n 0, 1) := cod_of b70 dX6_likingAfter_17
theorem t70_17 {d : Nat} {h : Hp} {Q : Pst} {l1 l2 l3 : Value} {x : Nat} {st : List Value} : T d 70 17 [.ref x, l1, l2, l3] st h Q ↔ T d 70 18 [.ref x, l1, l2, l3] (.ref x :: st) h Q := T_aload_n c70_17 rfl
theorem c70_18 : cod 70 18 = some (.getfield 27, 3) := cod_of b70 dX6_likingAfter_18
theorem t70_18 {d : Nat} {h : Hp} {Q : Pst} {a : Nat} {ls : List Value} {st : List Value} : T d 70 18 ls (.ref a :: st) h Q ↔ gF (h.2.2 a) 5 5 (fun v => T d 70 21 ls (v :: st) h Q) := T_getfieldR m70 c70_18 f6_27
theorem c70_21 : cod 70 21 = some (.iload_n 1, 1) := cod_of b70 dX6_likingAfter_21
theorem t70_21 {d : Nat} {h : Hp} {Q : Pst} {l0 l2 l3 : Value} {x : Int32} {st : List Value} : T d 70 21 [l0, .int x, l2, l3] st h Q ↔ T d 70 22 [l0, .int x, l2, l3] (.int x :: st) h Q := T_iload_n c70_21 rfl
theorem c70_22 : cod 70 22 = some (.invokestatic 81, 3) := cod_of b70 dX6_likingAfter_22
theorem t70_22 {d : Nat} {h : Hp} {Q : Pst} {a0 : Nat} {a1 s0 : Int32} {ls : List Value} : T (d + 1) 70 22 ls [.int a1, .ref a0, .int s0] h Q ↔ T d 122 0 [.ref a0, .int a1] [] h (fun x h2 => T (d + 1) 70 25 ls (rl x [.int s0]) h2 Q) := T_staticR (as := [.ref a0, .int a1]) (r := [.int s0]) m70 m122 c70_22 k6_81 (Or.inr rfl) rfl (by decide) rfl (by simp [wrd, Value.category]) (by simp [stk, Value.category]) rfl
theorem c70_25 : cod 70 25 = some (.iload_n 2, 1) := cod_of b70 dX6_likingAfter_25
theorem t70_25 {d : Nat} {h : Hp} {Q : Pst} {l0 l1 l3 : Value} {x : Int32} {st : List Value} : T d 70 25 [l0, l1, .int x, l3] st h Q ↔ T d 70 26 [l0, l1, .int x, l3] (.int x :: st) h Q := T_iload_n c70_25 rfl
theorem c70_26 : cod 70 26 = some (.iload_n 3, 1) := cod_of b70 dX6_likingAfter_26
theorem t70_26 {d : Nat} {h : Hp} {Q : Pst} {l0 l1 l2 : Value} {x : Int32} {st : List Value} : T d 70 26 [l0, l1, l2, .int x] st h Q ↔ T d 70 27 [l0, l1, l2, .int x] (.int x :: st) h Q := T_iload_n c70_26 rfl
theorem c70_27 : cod 70 27 = some (.imul, 1) := cod_of b70 dX6_likingAfter_27
theorem t70_27 {d : Nat} {h : Hp} {Q : Pst} {x y : Int32} {ls : List Value} {st : List Value} : T d 70 27 ls (.int y :: .int x :: st) h Q ↔ T d 70 28 ls (.int (x * y) :: st) h Q := T_imul c70_27
theorem c70_28 : cod 70 28 = some (.iadd, 1) := cod_of b70 dX6_likingAfter_28
theorem t70_28 {d : Nat} {h : Hp} {Q : Pst} {x y : Int32} {ls : List Value} {st : List Value} : T d 70 28 ls (.int y :: .int x :: st) h Q ↔ T d 70 29 ls (.int (x + y) :: st) h Q := T_iadd c70_28
theorem c70_29 : cod 70 29 = some (.invokestatic 125, 3) := cod_of b70 dX6_likingAfter_29
theorem t70_29 {d : Nat} {h : Hp} {Q : Pst} {x y : Int32} {ls : List Value} : T (d + 1) 70 29 ls [.int y, .int x] h Q ↔ T (d + 1) 70 32 ls [.int (if y < x then y else x)] h Q := T_minR m70 c70_29 k6_125 (by simp [stk, Value.category])
theorem c70_32 : cod 70 32 = some (.ireturn, 1) := cod_of b70 dX6_likingAfter_32
theorem t70_32 {d : Nat} {h : Hp} {Q : Pst} {x : Int32} {ls : List Value} : T d 70 32 ls [.int x] h Q ↔ Q (some (.int x)) h := T_iretR m70 c70_32 rfl
theorem b71 : (mR 71).2.2.1 = cX6_passEvenings := by rw [m71]
theorem c71_0 : cod 71 0 = some (.iload_n 1, 1) := cod_of b71 dX6_passEvenings_0
theorem t71_0 {d : Nat} {h : Hp} {Q : Pst} {l0 l2 l3 : Value} {x : Int32} {st : List Value} : T d 71 0 [l0, .int x, l2, l3] st h Q ↔ T d 71 1 [l0, .int x, l2, l3] (.int x :: st) h Q := T_iload_n c71_0 rfl
theorem c71_1 : cod 71 1 = some (.sipush 999, 3) := cod_of b71 dX6_passEvenings_1
theorem t71_1 {d : Nat} {h : Hp} {Q : Pst} {ls : List Value} {st : List Value} : T d 71 1 ls st h Q ↔ T d 71 4 ls (.int 999 :: st) h Q := T_sipushV c71_1 (by decide)
theorem c71_4 : cod 71 4 = some (.aload_n 0, 1) := cod_of b71 dX6_passEvenings_4
theorem t71_4 {d : Nat} {h : Hp} {Q : Pst} {l1 l2 l3 : Value} {x : Nat} {st : List Value} : T d 71 4 [.ref x, l1, l2, l3] st h Q ↔ T d 71 5 [.ref x, l1, l2, l3] (.ref x :: st) h Q := T_aload_n c71_4 rfl
theorem c71_5 : cod 71 5 = some (.getfield 58, 3) := cod_of b71 dX6_passEvenings_5
theorem t71_5 {d : Nat} {h : Hp} {Q : Pst} {a : Nat} {ls : List Value} {st : List Value} : T d 71 5 ls (.ref a :: st) h Q ↔ gF (h.2.2 a) 5 13 (fun v => T d 71 8 ls (v :: st) h Q) := T_getfieldR m71 c71_5 f6_58
theorem c71_8 : cod 71 8 = some (.isub, 1) := cod_of b71 dX6_passEvenings_8
theorem t71_8 {d : Nat} {h : Hp} {Q : Pst} {x y : Int32} {ls : List Value} {st : List Value} : T d 71 8 ls (.int y :: .int x :: st) h Q ↔ T d 71 9 ls (.int (x - y) :: st) h Q := T_isub c71_8
theorem c71_9 : cod 71 9 = some (.invokestatic 125, 3) := cod_of b71 dX6_passEvenings_9
theorem t71_9 {d : Nat} {h : Hp} {Q : Pst} {x y : Int32} {ls : List Value} : T (d + 1) 71 9 ls [.int y, .int x] h Q ↔ T (d + 1) 71 12 ls [.int (if y < x then y else x)] h Q := T_minR m71 c71_9 k6_125 (by simp [stk, Value.category])
theorem c71_12 : cod 71 12 = some (.istore_n 2, 1) := cod_of b71 dX6_passEvenings_12
theorem t71_12 {d : Nat} {h : Hp} {Q : Pst} {l0 l1 l2 l3 : Value} {x : Int32} {st : List Value} : T d 71 12 [l0, l1, l2, l3] (.int x :: st) h Q ↔ T d 71 13 [l0, kil l1, .int x, l3] st h Q := T_istore_n c71_12 (Nat.le_of_ble_eq_true rfl)
theorem c71_13 : cod 71 13 = some (.iconst 0, 1) := cod_of b71 dX6_passEvenings_13
theorem t71_13 {d : Nat} {h : Hp} {Q : Pst} {ls : List Value} {st : List Value} : T d 71 13 ls st h Q ↔ T d 71 14 ls (.int 0 :: st) h Q := T_iconstV c71_13 (by decide)
theorem c71_14 : cod 71 14 = some (.istore_n 3, 1) := cod_of b71 dX6_passEvenings_14
theorem t71_14 {d : Nat} {h : Hp} {Q : Pst} {l0 l1 l2 l3 : Value} {x : Int32} {st : List Value} : T d 71 14 [l0, l1, l2, l3] (.int x :: st) h Q ↔ T d 71 15 [l0, l1, kil l2, .int x] st h Q := T_istore_n c71_14 (Nat.le_of_ble_eq_true rfl)
theorem c71_15 : cod 71 15 = some (.iload_n 3, 1) := cod_of b71 dX6_passEvenings_15
theorem t71_15 {d : Nat} {h : Hp} {Q : Pst} {l0 l1 l2 : Value} {x : Int32} {st : List Value} : T d 71 15 [l0, l1, l2, .int x] st h Q ↔ T d 71 16 [l0, l1, l2, .int x] (.int x :: st) h Q := T_iload_n c71_15 rfl
theorem c71_16 : cod 71 16 = some (.aload_n 0, 1) := cod_of b71 dX6_passEvenings_16
theorem t71_16 {d : Nat} {h : Hp} {Q : Pst} {l1 l2 l3 : Value} {x : Nat} {st : List Value} : T d 71 16 [.ref x, l1, l2, l3] st h Q ↔ T d 71 17 [.ref x, l1, l2, l3] (.ref x :: st) h Q := T_aload_n c71_16 rfl
theorem c71_17 : cod 71 17 = some (.getfield 52, 3) := cod_of b71 dX6_passEvenings_17
theorem t71_17 {d : Nat} {h : Hp} {Q : Pst} {a : Nat} {ls : List Value} {st : List Value} : T d 71 17 ls (.ref a :: st) h Q ↔ gF (h.2.2 a) 5 11 (fun v => T d 71 20 ls (v :: st) h Q) := T_getfieldR m71 c71_17 f6_52
theorem c71_20 : cod 71 20 = some (.if_icmp .ge 23, 3) := cod_of b71 dX6_passEvenings_20
theorem t71_20 {d : Nat} {h : Hp} {Q : Pst} {x y : Int32} {ls : List Value} {st : List Value} : T d 71 20 ls (.int y :: .int x :: st) h Q ↔ (if y ≤ x then T d 71 43 ls st h Q else T d 71 23 ls st h Q) := T_icmp_ge c71_20 (by decide)
theorem c71_23 : cod 71 23 = some (.aload_n 0, 1) := cod_of b71 dX6_passEvenings_23
theorem t71_23 {d : Nat} {h : Hp} {Q : Pst} {l1 l2 l3 : Value} {x : Nat} {st : List Value} : T d 71 23 [.ref x, l1, l2, l3] st h Q ↔ T d 71 24 [.ref x, l1, l2, l3] (.ref x :: st) h Q := T_aload_n c71_23 rfl
theorem c71_24 : cod 71 24 = some (.getfield 27, 3) := cod_of b71 dX6_passEvenings_24
theorem t71_24 {d : Nat} {h : Hp} {Q : Pst} {a : Nat} {ls : List Value} {st : List Value} : T d 71 24 ls (.ref a :: st) h Q ↔ gF (h.2.2 a) 5 5 (fun v => T d 71 27 ls (v :: st) h Q) := T_getfieldR m71 c71_24 f6_27
theorem c71_27 : cod 71 27 = some (.iload_n 3, 1) := cod_of b71 dX6_passEvenings_27
theorem t71_27 {d : Nat} {h : Hp} {Q : Pst} {l0 l1 l2 : Value} {x : Int32} {st : List Value} : T d 71 27 [l0, l1, l2, .int x] st h Q ↔ T d 71 28 [l0, l1, l2, .int x] (.int x :: st) h Q := T_iload_n c71_27 rfl
theorem c71_28 : cod 71 28 = some (.aload_n 0, 1) := cod_of b71 dX6_passEvenings_28
theorem t71_28 {d : Nat} {h : Hp} {Q : Pst} {l1 l2 l3 : Value} {x : Nat} {st : List Value} : T d 71 28 [.ref x, l1, l2, l3] st h Q ↔ T d 71 29 [.ref x, l1, l2, l3] (.ref x :: st) h Q := T_aload_n c71_28 rfl
theorem c71_29 : cod 71 29 = some (.iload_n 3, 1) := cod_of b71 dX6_passEvenings_29
theorem t71_29 {d : Nat} {h : Hp} {Q : Pst} {l0 l1 l2 : Value} {x : Int32} {st : List Value} : T d 71 29 [l0, l1, l2, .int x] st h Q ↔ T d 71 30 [l0, l1, l2, .int x] (.int x :: st) h Q := T_iload_n c71_29 rfl
theorem c71_30 : cod 71 30 = some (.iload_n 2, 1) := cod_of b71 dX6_passEvenings_30
theorem t71_30 {d : Nat} {h : Hp} {Q : Pst} {l0 l1 l3 : Value} {x : Int32} {st : List Value} : T d 71 30 [l0, l1, .int x, l3] st h Q ↔ T d 71 31 [l0, l1, .int x, l3] (.int x :: st) h Q := T_iload_n c71_30 rfl
theorem c71_31 : cod 71 31 = some (.invokevirtual 130, 3) := cod_of b71 dX6_passEvenings_31
theorem t71_31 {d : Nat} {h : Hp} {Q : Pst} {a0 a1 s0 : Int32} {s1 a : Nat} {ls : List Value} (ho : isO (h.2.2 a) 5) : T (d + 1) 71 31 ls [.int a1, .int a0, .ref a, .int s0, .ref s1] h Q ↔ T d 70 0 [.ref a, .int a0, .int a1, un] [] h (fun x h2 => T (d + 1) 71 34 ls (rl x [.int s0, .ref s1]) h2 Q) := T_virtualR (as := [.int a0, .int a1]) (r := [.int s0, .ref s1]) m71 m70 c71_31 k6_130  rfl (by decide) rfl (by simp [wrd, Value.category]) (by simp [stk, Value.category]) rfl (by decide +kernel) ho
theorem c71_34 : cod 71 34 = some (.invokestatic 77, 3) := cod_of b71 dX6_passEvenings_34
theorem t71_34 {d : Nat} {h : Hp} {Q : Pst} {a0 : Nat} {a1 a2 : Int32} {ls : List Value} : T (d + 1) 71 34 ls [.int a2, .int a1, .ref a0] h Q ↔ T d 123 0 [.ref a0, .int a1, .int a2] [] h (fun x h2 => T (d + 1) 71 37 ls (rl x []) h2 Q) := T_staticR (as := [.ref a0, .int a1, .int a2]) (r := []) m71 m123 c71_34 k6_77 (Or.inr rfl) rfl (by decide) rfl (by simp [wrd, Value.category]) (by simp [stk, Value.category]) rfl
theorem c71_37 : cod 71 37 = some (.iinc 3 1, 3) := cod_of b71 dX6_passEvenings_37
theorem t71_37 {d : Nat} {h : Hp} {Q : Pst} {l0 l1 l2 : Value} {x : Int32} {st : List Value} : T d 71 37 [l0, l1, l2, .int x] st h Q ↔ T d 71 40 [l0, l1, kil l2, .int (x + 1)] st h Q := T_iincV c71_37 rfl (Nat.le_of_ble_eq_true rfl) (by decide) rfl
theorem c71_40 : cod 71 40 = some (.goto (-25), 3) := cod_of b71 dX6_passEvenings_40
theorem t71_40 {d : Nat} {h : Hp} {Q : Pst} {ls : List Value} {st : List Value} : T d 71 40 ls st h Q ↔ T d 71 15 ls st h Q := T_goto c71_40 (by decide)
theorem c71_43 : cod 71 43 = some (.aload_n 0, 1) := cod_of b71 dX6_passEvenings_43
theorem t71_43 {d : Nat} {h : Hp} {Q : Pst} {l1 l2 l3 : Value} {x : Nat} {st : List Value} : T d 71 43 [.ref x, l1, l2, l3] st h Q ↔ T d 71 44 [.ref x, l1, l2, l3] (.ref x :: st) h Q := T_aload_n c71_43 rfl
theorem c71_44 : cod 71 44 = some (.dup, 1) := cod_of b71 dX6_passEvenings_44
theorem t71_44 {d : Nat} {h : Hp} {Q : Pst} {x : Nat} {ls : List Value} {st : List Value} : T d 71 44 ls (.ref x :: st) h Q ↔ T d 71 45 ls (.ref x :: .ref x :: st) h Q := T_dup c71_44 rfl
theorem c71_45 : cod 71 45 = some (.getfield 58, 3) := cod_of b71 dX6_passEvenings_45
theorem t71_45 {d : Nat} {h : Hp} {Q : Pst} {a : Nat} {ls : List Value} {st : List Value} : T d 71 45 ls (.ref a :: st) h Q ↔ gF (h.2.2 a) 5 13 (fun v => T d 71 48 ls (v :: st) h Q) := T_getfieldR m71 c71_45 f6_58
theorem c71_48 : cod 71 48 = some (.iload_n 2, 1) := cod_of b71 dX6_passEvenings_48
theorem t71_48 {d : Nat} {h : Hp} {Q : Pst} {l0 l1 l3 : Value} {x : Int32} {st : List Value} : T d 71 48 [l0, l1, .int x, l3] st h Q ↔ T d 71 49 [l0, l1, .int x, l3] (.int x :: st) h Q := T_iload_n c71_48 rfl
theorem c71_49 : cod 71 49 = some (.iadd, 1) := cod_of b71 dX6_passEvenings_49
theorem t71_49 {d : Nat} {h : Hp} {Q : Pst} {x y : Int32} {ls : List Value} {st : List Value} : T d 71 49 ls (.int y :: .int x :: st) h Q ↔ T d 71 50 ls (.int (x + y) :: st) h Q := T_iadd c71_49
theorem c71_50 : cod 71 50 = some (.putfield 58, 3) := cod_of b71 dX6_passEvenings_50
theorem t71_50 {d : Nat} {h : Hp} {Q : Pst} {a : Nat} {x : Int32} {ls : List Value} {st : List Value} : T d 71 50 ls (.int x :: .ref a :: st) h Q ↔ pF (h.2.2 a) 5 13 (.int x) (fun cell => T d 71 53 ls st (hup h a cell) Q) := T_putfieldR m71 c71_50 f6_58 (by decide +kernel)
theorem c71_53 : cod 71 53 = some (.return_, 1) := cod_of b71 dX6_passEvenings_53
theorem t71_53 {d : Nat} {h : Hp} {Q : Pst} {ls : List Value} : T d 71 53 ls [] h Q ↔ Q none h := T_retR m71 c71_53 rfl
theorem b72 : (mR 72).2.2.1 = cX6_keepStep := by rw [m72]
theorem c72_0 : cod 72 0 = some (.aload_n 0, 1) := cod_of b72 dX6_keepStep_0
theorem t72_0 {d : Nat} {h : Hp} {Q : Pst} {l1 : Value} {x : Nat} {st : List Value} : T d 72 0 [.ref x, l1] st h Q ↔ T d 72 1 [.ref x, l1] (.ref x :: st) h Q := T_aload_n c72_0 rfl
theorem c72_1 : cod 72 1 = some (.getfield 45, 3) := cod_of b72 dX6_keepStep_1
theorem t72_1 {d : Nat} {h : Hp} {Q : Pst} {a : Nat} {ls : List Value} {st : List Value} : T d 72 1 ls (.ref a :: st) h Q ↔ gF (h.2.2 a) 5 9 (fun v => T d 72 4 ls (v :: st) h Q) := T_getfieldR m72 c72_1 f6_45
theorem c72_4 : cod 72 4 = some (.invokevirtual 133, 3) := cod_of b72 dX6_keepStep_4
theorem t72_4 {d : Nat} {h : Hp} {Q : Pst} {a : Nat} {ls : List Value} (ho : isO (h.2.2 a) 3) : T (d + 1) 72 4 ls [.ref a] h Q ↔ T d 36 0 [.ref a] [] h (fun x h2 => T (d + 1) 72 7 ls (rl x []) h2 Q) := T_virtualR (as := []) (r := []) m72 m36 c72_4 k6_133  rfl (by decide) rfl (by simp [wrd, Value.category]) (by simp [stk, Value.category]) rfl (by decide +kernel) ho
theorem c72_7 : cod 72 7 = some (.iconst 0, 1) := cod_of b72 dX6_keepStep_7
theorem t72_7 {d : Nat} {h : Hp} {Q : Pst} {ls : List Value} {st : List Value} : T d 72 7 ls st h Q ↔ T d 72 8 ls (.int 0 :: st) h Q := T_iconstV c72_7 (by decide)
theorem c72_8 : cod 72 8 = some (.istore_n 1, 1) := cod_of b72 dX6_keepStep_8
theorem t72_8 {d : Nat} {h : Hp} {Q : Pst} {l0 l1 : Value} {x : Int32} {st : List Value} : T d 72 8 [l0, l1] (.int x :: st) h Q ↔ T d 72 9 [kil l0, .int x] st h Q := T_istore_n c72_8 (Nat.le_of_ble_eq_true rfl)
theorem c72_9 : cod 72 9 = some (.iload_n 1, 1) := cod_of b72 dX6_keepStep_9
theorem t72_9 {d : Nat} {h : Hp} {Q : Pst} {l0 : Value} {x : Int32} {st : List Value} : T d 72 9 [l0, .int x] st h Q ↔ T d 72 10 [l0, .int x] (.int x :: st) h Q := T_iload_n c72_9 rfl
theorem c72_10 : cod 72 10 = some (.bipush 6, 2) := cod_of b72 dX6_keepStep_10
theorem t72_10 {d : Nat} {h : Hp} {Q : Pst} {ls : List Value} {st : List Value} : T d 72 10 ls st h Q ↔ T d 72 12 ls (.int 6 :: st) h Q := T_bipushV c72_10 (by decide)
theorem c72_12 : cod 72 12 = some (.if_icmp .ge 25, 3) := cod_of b72 dX6_keepStep_12
theorem t72_12 {d : Nat} {h : Hp} {Q : Pst} {x y : Int32} {ls : List Value} {st : List Value} : T d 72 12 ls (.int y :: .int x :: st) h Q ↔ (if y ≤ x then T d 72 37 ls st h Q else T d 72 15 ls st h Q) := T_icmp_ge c72_12 (by decide)
theorem c72_15 : cod 72 15 = some (.aload_n 0, 1) := cod_of b72 dX6_keepStep_15
theorem t72_15 {d : Nat} {h : Hp} {Q : Pst} {l1 : Value} {x : Nat} {st : List Value} : T d 72 15 [.ref x, l1] st h Q ↔ T d 72 16 [.ref x, l1] (.ref x :: st) h Q := T_aload_n c72_15 rfl
theorem c72_16 : cod 72 16 = some (.getfield 45, 3) := cod_of b72 dX6_keepStep_16
theorem t72_16 {d : Nat} {h : Hp} {Q : Pst} {a : Nat} {ls : List Value} {st : List Value} : T d 72 16 ls (.ref a :: st) h Q ↔ gF (h.2.2 a) 5 9 (fun v => T d 72 19 ls (v :: st) h Q) := T_getfieldR m72 c72_16 f6_45
theorem c72_19 : cod 72 19 = some (.iload_n 1, 1) := cod_of b72 dX6_keepStep_19
theorem t72_19 {d : Nat} {h : Hp} {Q : Pst} {l0 : Value} {x : Int32} {st : List Value} : T d 72 19 [l0, .int x] st h Q ↔ T d 72 20 [l0, .int x] (.int x :: st) h Q := T_iload_n c72_19 rfl
theorem c72_20 : cod 72 20 = some (.aload_n 0, 1) := cod_of b72 dX6_keepStep_20
theorem t72_20 {d : Nat} {h : Hp} {Q : Pst} {l1 : Value} {x : Nat} {st : List Value} : T d 72 20 [.ref x, l1] st h Q ↔ T d 72 21 [.ref x, l1] (.ref x :: st) h Q := T_aload_n c72_20 rfl
theorem c72_21 : cod 72 21 = some (.getfield 18, 3) := cod_of b72 dX6_keepStep_21
theorem t72_21 {d : Nat} {h : Hp} {Q : Pst} {a : Nat} {ls : List Value} {st : List Value} : T d 72 21 ls (.ref a :: st) h Q ↔ gF (h.2.2 a) 5 2 (fun v => T d 72 24 ls (v :: st) h Q) := T_getfieldR m72 c72_21 f6_18
theorem c72_24 : cod 72 24 = some (.iload_n 1, 1) := cod_of b72 dX6_keepStep_24
theorem t72_24 {d : Nat} {h : Hp} {Q : Pst} {l0 : Value} {x : Int32} {st : List Value} : T d 72 24 [l0, .int x] st h Q ↔ T d 72 25 [l0, .int x] (.int x :: st) h Q := T_iload_n c72_24 rfl
theorem c72_25 : cod 72 25 = some (.invokestatic 81, 3) := cod_of b72 dX6_keepStep_25
theorem t72_25 {d : Nat} {h : Hp} {Q : Pst} {a0 s1 : Nat} {a1 s0 : Int32} {ls : List Value} : T (d + 1) 72 25 ls [.int a1, .ref a0, .int s0, .ref s1] h Q ↔ T d 122 0 [.ref a0, .int a1] [] h (fun x h2 => T (d + 1) 72 28 ls (rl x [.int s0, .ref s1]) h2 Q) := T_staticR (as := [.ref a0, .int a1]) (r := [.int s0, .ref s1]) m72 m122 c72_25 k6_81 (Or.inr rfl) rfl (by decide) rfl (by simp [wrd, Value.category]) (by simp [stk, Value.category]) rfl
theorem c72_28 : cod 72 28 = some (.invokevirtual 136, 3) := cod_of b72 dX6_keepStep_28
theorem t72_28 {d : Nat} {h : Hp} {Q : Pst} {a0 a1 : Int32} {a : Nat} {ls : List Value} (ho : isO (h.2.2 a) 3) : T (d + 1) 72 28 ls [.int a1, .int a0, .ref a] h Q ↔ T d 37 0 [.ref a, .int a0, .int a1] [] h (fun x h2 => T (d + 1) 72 31 ls (rl x []) h2 Q) := T_virtualR (as := [.int a0, .int a1]) (r := []) m72 m37 c72_28 k6_136  rfl (by decide) rfl (by simp [wrd, Value.category]) (by simp [stk, Value.category]) rfl (by decide +kernel) ho
theorem c72_31 : cod 72 31 = some (.iinc 1 1, 3) := cod_of b72 dX6_keepStep_31
theorem t72_31 {d : Nat} {h : Hp} {Q : Pst} {l0 : Value} {x : Int32} {st : List Value} : T d 72 31 [l0, .int x] st h Q ↔ T d 72 34 [kil l0, .int (x + 1)] st h Q := T_iincV c72_31 rfl (Nat.le_of_ble_eq_true rfl) (by decide) rfl
theorem c72_34 : cod 72 34 = some (.goto (-25), 3) := cod_of b72 dX6_keepStep_34
theorem t72_34 {d : Nat} {h : Hp} {Q : Pst} {ls : List Value} {st : List Value} : T d 72 34 ls st h Q ↔ T d 72 9 ls st h Q := T_goto c72_34 (by decide)
theorem c72_37 : cod 72 37 = some (.iconst 0, 1) := cod_of b72 dX6_keepStep_37
theorem t72_37 {d : Nat} {h : Hp} {Q : Pst} {ls : List Value} {st : List Value} : T d 72 37 ls st h Q ↔ T d 72 38 ls (.int 0 :: st) h Q := T_iconstV c72_37 (by decide)
theorem c72_38 : cod 72 38 = some (.istore_n 1, 1) := cod_of b72 dX6_keepStep_38
theorem t72_38 {d : Nat} {h : Hp} {Q : Pst} {l0 l1 : Value} {x : Int32} {st : List Value} : T d 72 38 [l0, l1] (.int x :: st) h Q ↔ T d 72 39 [kil l0, .int x] st h Q := T_istore_n c72_38 (Nat.le_of_ble_eq_true rfl)
theorem c72_39 : cod 72 39 = some (.iload_n 1, 1) := cod_of b72 dX6_keepStep_39
theorem t72_39 {d : Nat} {h : Hp} {Q : Pst} {l0 : Value} {x : Int32} {st : List Value} : T d 72 39 [l0, .int x] st h Q ↔ T d 72 40 [l0, .int x] (.int x :: st) h Q := T_iload_n c72_39 rfl
theorem c72_40 : cod 72 40 = some (.iconst 4, 1) := cod_of b72 dX6_keepStep_40
theorem t72_40 {d : Nat} {h : Hp} {Q : Pst} {ls : List Value} {st : List Value} : T d 72 40 ls st h Q ↔ T d 72 41 ls (.int 4 :: st) h Q := T_iconstV c72_40 (by decide)
theorem c72_41 : cod 72 41 = some (.if_icmp .ge 28, 3) := cod_of b72 dX6_keepStep_41
theorem t72_41 {d : Nat} {h : Hp} {Q : Pst} {x y : Int32} {ls : List Value} {st : List Value} : T d 72 41 ls (.int y :: .int x :: st) h Q ↔ (if y ≤ x then T d 72 69 ls st h Q else T d 72 44 ls st h Q) := T_icmp_ge c72_41 (by decide)
theorem c72_44 : cod 72 44 = some (.aload_n 0, 1) := cod_of b72 dX6_keepStep_44
theorem t72_44 {d : Nat} {h : Hp} {Q : Pst} {l1 : Value} {x : Nat} {st : List Value} : T d 72 44 [.ref x, l1] st h Q ↔ T d 72 45 [.ref x, l1] (.ref x :: st) h Q := T_aload_n c72_44 rfl
theorem c72_45 : cod 72 45 = some (.getfield 45, 3) := cod_of b72 dX6_keepStep_45
theorem t72_45 {d : Nat} {h : Hp} {Q : Pst} {a : Nat} {ls : List Value} {st : List Value} : T d 72 45 ls (.ref a :: st) h Q ↔ gF (h.2.2 a) 5 9 (fun v => T d 72 48 ls (v :: st) h Q) := T_getfieldR m72 c72_45 f6_45
theorem c72_48 : cod 72 48 = some (.bipush 6, 2) := cod_of b72 dX6_keepStep_48
theorem t72_48 {d : Nat} {h : Hp} {Q : Pst} {ls : List Value} {st : List Value} : T d 72 48 ls st h Q ↔ T d 72 50 ls (.int 6 :: st) h Q := T_bipushV c72_48 (by decide)
theorem c72_50 : cod 72 50 = some (.iload_n 1, 1) := cod_of b72 dX6_keepStep_50
theorem t72_50 {d : Nat} {h : Hp} {Q : Pst} {l0 : Value} {x : Int32} {st : List Value} : T d 72 50 [l0, .int x] st h Q ↔ T d 72 51 [l0, .int x] (.int x :: st) h Q := T_iload_n c72_50 rfl
theorem c72_51 : cod 72 51 = some (.iadd, 1) := cod_of b72 dX6_keepStep_51
theorem t72_51 {d : Nat} {h : Hp} {Q : Pst} {x y : Int32} {ls : List Value} {st : List Value} : T d 72 51 ls (.int y :: .int x :: st) h Q ↔ T d 72 52 ls (.int (x + y) :: st) h Q := T_iadd c72_51
theorem c72_52 : cod 72 52 = some (.aload_n 0, 1) := cod_of b72 dX6_keepStep_52
theorem t72_52 {d : Nat} {h : Hp} {Q : Pst} {l1 : Value} {x : Nat} {st : List Value} : T d 72 52 [.ref x, l1] st h Q ↔ T d 72 53 [.ref x, l1] (.ref x :: st) h Q := T_aload_n c72_52 rfl
theorem c72_53 : cod 72 53 = some (.getfield 27, 3) := cod_of b72 dX6_keepStep_53
theorem t72_53 {d : Nat} {h : Hp} {Q : Pst} {a : Nat} {ls : List Value} {st : List Value} : T d 72 53 ls (.ref a :: st) h Q ↔ gF (h.2.2 a) 5 5 (fun v => T d 72 56 ls (v :: st) h Q) := T_getfieldR m72 c72_53 f6_27
theorem c72_56 : cod 72 56 = some (.iload_n 1, 1) := cod_of b72 dX6_keepStep_56
theorem t72_56 {d : Nat} {h : Hp} {Q : Pst} {l0 : Value} {x : Int32} {st : List Value} : T d 72 56 [l0, .int x] st h Q ↔ T d 72 57 [l0, .int x] (.int x :: st) h Q := T_iload_n c72_56 rfl
theorem c72_57 : cod 72 57 = some (.invokestatic 81, 3) := cod_of b72 dX6_keepStep_57
theorem t72_57 {d : Nat} {h : Hp} {Q : Pst} {a0 s1 : Nat} {a1 s0 : Int32} {ls : List Value} : T (d + 1) 72 57 ls [.int a1, .ref a0, .int s0, .ref s1] h Q ↔ T d 122 0 [.ref a0, .int a1] [] h (fun x h2 => T (d + 1) 72 60 ls (rl x [.int s0, .ref s1]) h2 Q) := T_staticR (as := [.ref a0, .int a1]) (r := [.int s0, .ref s1]) m72 m122 c72_57 k6_81 (Or.inr rfl) rfl (by decide) rfl (by simp [wrd, Value.category]) (by simp [stk, Value.category]) rfl
theorem c72_60 : cod 72 60 = some (.invokevirtual 136, 3) := cod_of b72 dX6_keepStep_60
theorem t72_60 {d : Nat} {h : Hp} {Q : Pst} {a0 a1 : Int32} {a : Nat} {ls : List Value} (ho : isO (h.2.2 a) 3) : T (d + 1) 72 60 ls [.int a1, .int a0, .ref a] h Q ↔ T d 37 0 [.ref a, .int a0, .int a1] [] h (fun x h2 => T (d + 1) 72 63 ls (rl x []) h2 Q) := T_virtualR (as := [.int a0, .int a1]) (r := []) m72 m37 c72_60 k6_136  rfl (by decide) rfl (by simp [wrd, Value.category]) (by simp [stk, Value.category]) rfl (by decide +kernel) ho
theorem c72_63 : cod 72 63 = some (.iinc 1 1, 3) := cod_of b72 dX6_keepStep_63
theorem t72_63 {d : Nat} {h : Hp} {Q : Pst} {l0 : Value} {x : Int32} {st : List Value} : T d 72 63 [l0, .int x] st h Q ↔ T d 72 66 [kil l0, .int (x + 1)] st h Q := T_iincV c72_63 rfl (Nat.le_of_ble_eq_true rfl) (by decide) rfl
theorem c72_66 : cod 72 66 = some (.goto (-27), 3) := cod_of b72 dX6_keepStep_66
theorem t72_66 {d : Nat} {h : Hp} {Q : Pst} {ls : List Value} {st : List Value} : T d 72 66 ls st h Q ↔ T d 72 39 ls st h Q := T_goto c72_66 (by decide)
theorem c72_69 : cod 72 69 = some (.aload_n 0, 1) := cod_of b72 dX6_keepStep_69
theorem t72_69 {d : Nat} {h : Hp} {Q : Pst} {l1 : Value} {x : Nat} {st : List Value} : T d 72 69 [.ref x, l1] st h Q ↔ T d 72 70 [.ref x, l1] (.ref x :: st) h Q := T_aload_n c72_69 rfl
theorem c72_70 : cod 72 70 = some (.getfield 45, 3) := cod_of b72 dX6_keepStep_70
theorem t72_70 {d : Nat} {h : Hp} {Q : Pst} {a : Nat} {ls : List Value} {st : List Value} : T d 72 70 ls (.ref a :: st) h Q ↔ gF (h.2.2 a) 5 9 (fun v => T d 72 73 ls (v :: st) h Q) := T_getfieldR m72 c72_70 f6_45
theorem c72_73 : cod 72 73 = some (.bipush 10, 2) := cod_of b72 dX6_keepStep_73
theorem t72_73 {d : Nat} {h : Hp} {Q : Pst} {ls : List Value} {st : List Value} : T d 72 73 ls st h Q ↔ T d 72 75 ls (.int 10 :: st) h Q := T_bipushV c72_73 (by decide)
theorem c72_75 : cod 72 75 = some (.aload_n 0, 1) := cod_of b72 dX6_keepStep_75
theorem t72_75 {d : Nat} {h : Hp} {Q : Pst} {l1 : Value} {x : Nat} {st : List Value} : T d 72 75 [.ref x, l1] st h Q ↔ T d 72 76 [.ref x, l1] (.ref x :: st) h Q := T_aload_n c72_75 rfl
theorem c72_76 : cod 72 76 = some (.getfield 55, 3) := cod_of b72 dX6_keepStep_76
theorem t72_76 {d : Nat} {h : Hp} {Q : Pst} {a : Nat} {ls : List Value} {st : List Value} : T d 72 76 ls (.ref a :: st) h Q ↔ gF (h.2.2 a) 5 12 (fun v => T d 72 79 ls (v :: st) h Q) := T_getfieldR m72 c72_76 f6_55
theorem c72_79 : cod 72 79 = some (.invokevirtual 136, 3) := cod_of b72 dX6_keepStep_79
theorem t72_79 {d : Nat} {h : Hp} {Q : Pst} {a0 a1 : Int32} {a : Nat} {ls : List Value} (ho : isO (h.2.2 a) 3) : T (d + 1) 72 79 ls [.int a1, .int a0, .ref a] h Q ↔ T d 37 0 [.ref a, .int a0, .int a1] [] h (fun x h2 => T (d + 1) 72 82 ls (rl x []) h2 Q) := T_virtualR (as := [.int a0, .int a1]) (r := []) m72 m37 c72_79 k6_136  rfl (by decide) rfl (by simp [wrd, Value.category]) (by simp [stk, Value.category]) rfl (by decide +kernel) ho
theorem c72_82 : cod 72 82 = some (.aload_n 0, 1) := cod_of b72 dX6_keepStep_82
theorem t72_82 {d : Nat} {h : Hp} {Q : Pst} {l1 : Value} {x : Nat} {st : List Value} : T d 72 82 [.ref x, l1] st h Q ↔ T d 72 83 [.ref x, l1] (.ref x :: st) h Q := T_aload_n c72_82 rfl
theorem c72_83 : cod 72 83 = some (.getfield 45, 3) := cod_of b72 dX6_keepStep_83
theorem t72_83 {d : Nat} {h : Hp} {Q : Pst} {a : Nat} {ls : List Value} {st : List Value} : T d 72 83 ls (.ref a :: st) h Q ↔ gF (h.2.2 a) 5 9 (fun v => T d 72 86 ls (v :: st) h Q) := T_getfieldR m72 c72_83 f6_45
theorem c72_86 : cod 72 86 = some (.bipush 11, 2) := cod_of b72 dX6_keepStep_86
theorem t72_86 {d : Nat} {h : Hp} {Q : Pst} {ls : List Value} {st : List Value} : T d 72 86 ls st h Q ↔ T d 72 88 ls (.int 11 :: st) h Q := T_bipushV c72_86 (by decide)
theorem c72_88 : cod 72 88 = some (.aload_n 0, 1) := cod_of b72 dX6_keepStep_88
theorem t72_88 {d : Nat} {h : Hp} {Q : Pst} {l1 : Value} {x : Nat} {st : List Value} : T d 72 88 [.ref x, l1] st h Q ↔ T d 72 89 [.ref x, l1] (.ref x :: st) h Q := T_aload_n c72_88 rfl
theorem c72_89 : cod 72 89 = some (.getfield 58, 3) := cod_of b72 dX6_keepStep_89
theorem t72_89 {d : Nat} {h : Hp} {Q : Pst} {a : Nat} {ls : List Value} {st : List Value} : T d 72 89 ls (.ref a :: st) h Q ↔ gF (h.2.2 a) 5 13 (fun v => T d 72 92 ls (v :: st) h Q) := T_getfieldR m72 c72_89 f6_58
theorem c72_92 : cod 72 92 = some (.invokevirtual 136, 3) := cod_of b72 dX6_keepStep_92
theorem t72_92 {d : Nat} {h : Hp} {Q : Pst} {a0 a1 : Int32} {a : Nat} {ls : List Value} (ho : isO (h.2.2 a) 3) : T (d + 1) 72 92 ls [.int a1, .int a0, .ref a] h Q ↔ T d 37 0 [.ref a, .int a0, .int a1] [] h (fun x h2 => T (d + 1) 72 95 ls (rl x []) h2 Q) := T_virtualR (as := [.int a0, .int a1]) (r := []) m72 m37 c72_92 k6_136  rfl (by decide) rfl (by simp [wrd, Value.category]) (by simp [stk, Value.category]) rfl (by decide +kernel) ho
theorem c72_95 : cod 72 95 = some (.return_, 1) := cod_of b72 dX6_keepStep_95
theorem t72_95 {d : Nat} {h : Hp} {Q : Pst} {ls : List Value} : T d 72 95 ls [] h Q ↔ Q none h := T_retR m72 c72_95 rfl
theorem b73 : (mR 73).2.2.1 = cX6_stepBack := by rw [m73]
theorem c73_0 : cod 73 0 = some (.iconst 0, 1) := cod_of b73 dX6_stepBack_0
theorem t73_0 {d : Nat} {h : Hp} {Q : Pst} {ls : List Value} {st : List Value} : T d 73 0 ls st h Q ↔ T d 73 1 ls (.int 0 :: st) h Q := T_iconstV c73_0 (by decide)
theorem c73_1 : cod 73 1 = some (.istore_n 1, 1) := cod_of b73 dX6_stepBack_1
theorem t73_1 {d : Nat} {h : Hp} {Q : Pst} {l0 l1 : Value} {x : Int32} {st : List Value} : T d 73 1 [l0, l1] (.int x :: st) h Q ↔ T d 73 2 [kil l0, .int x] st h Q := T_istore_n c73_1 (Nat.le_of_ble_eq_true rfl)
theorem c73_2 : cod 73 2 = some (.iload_n 1, 1) := cod_of b73 dX6_stepBack_2
theorem t73_2 {d : Nat} {h : Hp} {Q : Pst} {l0 : Value} {x : Int32} {st : List Value} : T d 73 2 [l0, .int x] st h Q ↔ T d 73 3 [l0, .int x] (.int x :: st) h Q := T_iload_n c73_2 rfl
theorem c73_3 : cod 73 3 = some (.bipush 6, 2) := cod_of b73 dX6_stepBack_3
theorem t73_3 {d : Nat} {h : Hp} {Q : Pst} {ls : List Value} {st : List Value} : T d 73 3 ls st h Q ↔ T d 73 5 ls (.int 6 :: st) h Q := T_bipushV c73_3 (by decide)
theorem c73_5 : cod 73 5 = some (.if_icmp .ge 25, 3) := cod_of b73 dX6_stepBack_5
theorem t73_5 {d : Nat} {h : Hp} {Q : Pst} {x y : Int32} {ls : List Value} {st : List Value} : T d 73 5 ls (.int y :: .int x :: st) h Q ↔ (if y ≤ x then T d 73 30 ls st h Q else T d 73 8 ls st h Q) := T_icmp_ge c73_5 (by decide)
theorem c73_8 : cod 73 8 = some (.aload_n 0, 1) := cod_of b73 dX6_stepBack_8
theorem t73_8 {d : Nat} {h : Hp} {Q : Pst} {l1 : Value} {x : Nat} {st : List Value} : T d 73 8 [.ref x, l1] st h Q ↔ T d 73 9 [.ref x, l1] (.ref x :: st) h Q := T_aload_n c73_8 rfl
theorem c73_9 : cod 73 9 = some (.getfield 18, 3) := cod_of b73 dX6_stepBack_9
theorem t73_9 {d : Nat} {h : Hp} {Q : Pst} {a : Nat} {ls : List Value} {st : List Value} : T d 73 9 ls (.ref a :: st) h Q ↔ gF (h.2.2 a) 5 2 (fun v => T d 73 12 ls (v :: st) h Q) := T_getfieldR m73 c73_9 f6_18
theorem c73_12 : cod 73 12 = some (.iload_n 1, 1) := cod_of b73 dX6_stepBack_12
theorem t73_12 {d : Nat} {h : Hp} {Q : Pst} {l0 : Value} {x : Int32} {st : List Value} : T d 73 12 [l0, .int x] st h Q ↔ T d 73 13 [l0, .int x] (.int x :: st) h Q := T_iload_n c73_12 rfl
theorem c73_13 : cod 73 13 = some (.aload_n 0, 1) := cod_of b73 dX6_stepBack_13
theorem t73_13 {d : Nat} {h : Hp} {Q : Pst} {l1 : Value} {x : Nat} {st : List Value} : T d 73 13 [.ref x, l1] st h Q ↔ T d 73 14 [.ref x, l1] (.ref x :: st) h Q := T_aload_n c73_13 rfl
theorem c73_14 : cod 73 14 = some (.getfield 45, 3) := cod_of b73 dX6_stepBack_14
theorem t73_14 {d : Nat} {h : Hp} {Q : Pst} {a : Nat} {ls : List Value} {st : List Value} : T d 73 14 ls (.ref a :: st) h Q ↔ gF (h.2.2 a) 5 9 (fun v => T d 73 17 ls (v :: st) h Q) := T_getfieldR m73 c73_14 f6_45
theorem c73_17 : cod 73 17 = some (.iload_n 1, 1) := cod_of b73 dX6_stepBack_17
theorem t73_17 {d : Nat} {h : Hp} {Q : Pst} {l0 : Value} {x : Int32} {st : List Value} : T d 73 17 [l0, .int x] st h Q ↔ T d 73 18 [l0, .int x] (.int x :: st) h Q := T_iload_n c73_17 rfl
theorem c73_18 : cod 73 18 = some (.invokevirtual 139, 3) := cod_of b73 dX6_stepBack_18
theorem t73_18 {d : Nat} {h : Hp} {Q : Pst} {a0 s0 : Int32} {s1 a : Nat} {ls : List Value} (ho : isO (h.2.2 a) 3) : T (d + 1) 73 18 ls [.int a0, .ref a, .int s0, .ref s1] h Q ↔ T d 40 0 [.ref a, .int a0] [] h (fun x h2 => T (d + 1) 73 21 ls (rl x [.int s0, .ref s1]) h2 Q) := T_virtualR (as := [.int a0]) (r := [.int s0, .ref s1]) m73 m40 c73_18 k6_139  rfl (by decide) rfl (by simp [wrd, Value.category]) (by simp [stk, Value.category]) rfl (by decide +kernel) ho
theorem c73_21 : cod 73 21 = some (.invokestatic 77, 3) := cod_of b73 dX6_stepBack_21
theorem t73_21 {d : Nat} {h : Hp} {Q : Pst} {a0 : Nat} {a1 a2 : Int32} {ls : List Value} : T (d + 1) 73 21 ls [.int a2, .int a1, .ref a0] h Q ↔ T d 123 0 [.ref a0, .int a1, .int a2] [] h (fun x h2 => T (d + 1) 73 24 ls (rl x []) h2 Q) := T_staticR (as := [.ref a0, .int a1, .int a2]) (r := []) m73 m123 c73_21 k6_77 (Or.inr rfl) rfl (by decide) rfl (by simp [wrd, Value.category]) (by simp [stk, Value.category]) rfl
theorem c73_24 : cod 73 24 = some (.iinc 1 1, 3) := cod_of b73 dX6_stepBack_24
theorem t73_24 {d : Nat} {h : Hp} {Q : Pst} {l0 : Value} {x : Int32} {st : List Value} : T d 73 24 [l0, .int x] st h Q ↔ T d 73 27 [kil l0, .int (x + 1)] st h Q := T_iincV c73_24 rfl (Nat.le_of_ble_eq_true rfl) (by decide) rfl
theorem c73_27 : cod 73 27 = some (.goto (-25), 3) := cod_of b73 dX6_stepBack_27
theorem t73_27 {d : Nat} {h : Hp} {Q : Pst} {ls : List Value} {st : List Value} : T d 73 27 ls st h Q ↔ T d 73 2 ls st h Q := T_goto c73_27 (by decide)
theorem c73_30 : cod 73 30 = some (.iconst 0, 1) := cod_of b73 dX6_stepBack_30
theorem t73_30 {d : Nat} {h : Hp} {Q : Pst} {ls : List Value} {st : List Value} : T d 73 30 ls st h Q ↔ T d 73 31 ls (.int 0 :: st) h Q := T_iconstV c73_30 (by decide)
theorem c73_31 : cod 73 31 = some (.istore_n 1, 1) := cod_of b73 dX6_stepBack_31
theorem t73_31 {d : Nat} {h : Hp} {Q : Pst} {l0 l1 : Value} {x : Int32} {st : List Value} : T d 73 31 [l0, l1] (.int x :: st) h Q ↔ T d 73 32 [kil l0, .int x] st h Q := T_istore_n c73_31 (Nat.le_of_ble_eq_true rfl)
theorem c73_32 : cod 73 32 = some (.iload_n 1, 1) := cod_of b73 dX6_stepBack_32
theorem t73_32 {d : Nat} {h : Hp} {Q : Pst} {l0 : Value} {x : Int32} {st : List Value} : T d 73 32 [l0, .int x] st h Q ↔ T d 73 33 [l0, .int x] (.int x :: st) h Q := T_iload_n c73_32 rfl
theorem c73_33 : cod 73 33 = some (.iconst 4, 1) := cod_of b73 dX6_stepBack_33
theorem t73_33 {d : Nat} {h : Hp} {Q : Pst} {ls : List Value} {st : List Value} : T d 73 33 ls st h Q ↔ T d 73 34 ls (.int 4 :: st) h Q := T_iconstV c73_33 (by decide)
theorem c73_34 : cod 73 34 = some (.if_icmp .ge 28, 3) := cod_of b73 dX6_stepBack_34
theorem t73_34 {d : Nat} {h : Hp} {Q : Pst} {x y : Int32} {ls : List Value} {st : List Value} : T d 73 34 ls (.int y :: .int x :: st) h Q ↔ (if y ≤ x then T d 73 62 ls st h Q else T d 73 37 ls st h Q) := T_icmp_ge c73_34 (by decide)
theorem c73_37 : cod 73 37 = some (.aload_n 0, 1) := cod_of b73 dX6_stepBack_37
theorem t73_37 {d : Nat} {h : Hp} {Q : Pst} {l1 : Value} {x : Nat} {st : List Value} : T d 73 37 [.ref x, l1] st h Q ↔ T d 73 38 [.ref x, l1] (.ref x :: st) h Q := T_aload_n c73_37 rfl
theorem c73_38 : cod 73 38 = some (.getfield 27, 3) := cod_of b73 dX6_stepBack_38
theorem t73_38 {d : Nat} {h : Hp} {Q : Pst} {a : Nat} {ls : List Value} {st : List Value} : T d 73 38 ls (.ref a :: st) h Q ↔ gF (h.2.2 a) 5 5 (fun v => T d 73 41 ls (v :: st) h Q) := T_getfieldR m73 c73_38 f6_27
theorem c73_41 : cod 73 41 = some (.iload_n 1, 1) := cod_of b73 dX6_stepBack_41
theorem t73_41 {d : Nat} {h : Hp} {Q : Pst} {l0 : Value} {x : Int32} {st : List Value} : T d 73 41 [l0, .int x] st h Q ↔ T d 73 42 [l0, .int x] (.int x :: st) h Q := T_iload_n c73_41 rfl
theorem c73_42 : cod 73 42 = some (.aload_n 0, 1) := cod_of b73 dX6_stepBack_42
theorem t73_42 {d : Nat} {h : Hp} {Q : Pst} {l1 : Value} {x : Nat} {st : List Value} : T d 73 42 [.ref x, l1] st h Q ↔ T d 73 43 [.ref x, l1] (.ref x :: st) h Q := T_aload_n c73_42 rfl
theorem c73_43 : cod 73 43 = some (.getfield 45, 3) := cod_of b73 dX6_stepBack_43
theorem t73_43 {d : Nat} {h : Hp} {Q : Pst} {a : Nat} {ls : List Value} {st : List Value} : T d 73 43 ls (.ref a :: st) h Q ↔ gF (h.2.2 a) 5 9 (fun v => T d 73 46 ls (v :: st) h Q) := T_getfieldR m73 c73_43 f6_45
theorem c73_46 : cod 73 46 = some (.bipush 6, 2) := cod_of b73 dX6_stepBack_46
theorem t73_46 {d : Nat} {h : Hp} {Q : Pst} {ls : List Value} {st : List Value} : T d 73 46 ls st h Q ↔ T d 73 48 ls (.int 6 :: st) h Q := T_bipushV c73_46 (by decide)
theorem c73_48 : cod 73 48 = some (.iload_n 1, 1) := cod_of b73 dX6_stepBack_48
theorem t73_48 {d : Nat} {h : Hp} {Q : Pst} {l0 : Value} {x : Int32} {st : List Value} : T d 73 48 [l0, .int x] st h Q ↔ T d 73 49 [l0, .int x] (.int x :: st) h Q := T_iload_n c73_48 rfl
theorem c73_49 : cod 73 49 = some (.iadd, 1) := cod_of b73 dX6_stepBack_49
theorem t73_49 {d : Nat} {h : Hp} {Q : Pst} {x y : Int32} {ls : List Value} {st : List Value} : T d 73 49 ls (.int y :: .int x :: st) h Q ↔ T d 73 50 ls (.int (x + y) :: st) h Q := T_iadd c73_49
theorem c73_50 : cod 73 50 = some (.invokevirtual 139, 3) := cod_of b73 dX6_stepBack_50
theorem t73_50 {d : Nat} {h : Hp} {Q : Pst} {a0 s0 : Int32} {s1 a : Nat} {ls : List Value} (ho : isO (h.2.2 a) 3) : T (d + 1) 73 50 ls [.int a0, .ref a, .int s0, .ref s1] h Q ↔ T d 40 0 [.ref a, .int a0] [] h (fun x h2 => T (d + 1) 73 53 ls (rl x [.int s0, .ref s1]) h2 Q) := T_virtualR (as := [.int a0]) (r := [.int s0, .ref s1]) m73 m40 c73_50 k6_139  rfl (by decide) rfl (by simp [wrd, Value.category]) (by simp [stk, Value.category]) rfl (by decide +kernel) ho
theorem c73_53 : cod 73 53 = some (.invokestatic 77, 3) := cod_of b73 dX6_stepBack_53
theorem t73_53 {d : Nat} {h : Hp} {Q : Pst} {a0 : Nat} {a1 a2 : Int32} {ls : List Value} : T (d + 1) 73 53 ls [.int a2, .int a1, .ref a0] h Q ↔ T d 123 0 [.ref a0, .int a1, .int a2] [] h (fun x h2 => T (d + 1) 73 56 ls (rl x []) h2 Q) := T_staticR (as := [.ref a0, .int a1, .int a2]) (r := []) m73 m123 c73_53 k6_77 (Or.inr rfl) rfl (by decide) rfl (by simp [wrd, Value.category]) (by simp [stk, Value.category]) rfl
theorem c73_56 : cod 73 56 = some (.iinc 1 1, 3) := cod_of b73 dX6_stepBack_56
theorem t73_56 {d : Nat} {h : Hp} {Q : Pst} {l0 : Value} {x : Int32} {st : List Value} : T d 73 56 [l0, .int x] st h Q ↔ T d 73 59 [kil l0, .int (x + 1)] st h Q := T_iincV c73_56 rfl (Nat.le_of_ble_eq_true rfl) (by decide) rfl
theorem c73_59 : cod 73 59 = some (.goto (-27), 3) := cod_of b73 dX6_stepBack_59
theorem t73_59 {d : Nat} {h : Hp} {Q : Pst} {ls : List Value} {st : List Value} : T d 73 59 ls st h Q ↔ T d 73 32 ls st h Q := T_goto c73_59 (by decide)
theorem c73_62 : cod 73 62 = some (.aload_n 0, 1) := cod_of b73 dX6_stepBack_62
theorem t73_62 {d : Nat} {h : Hp} {Q : Pst} {l1 : Value} {x : Nat} {st : List Value} : T d 73 62 [.ref x, l1] st h Q ↔ T d 73 63 [.ref x, l1] (.ref x :: st) h Q := T_aload_n c73_62 rfl
theorem c73_63 : cod 73 63 = some (.aload_n 0, 1) := cod_of b73 dX6_stepBack_63
theorem t73_63 {d : Nat} {h : Hp} {Q : Pst} {l1 : Value} {x : Nat} {st : List Value} : T d 73 63 [.ref x, l1] st h Q ↔ T d 73 64 [.ref x, l1] (.ref x :: st) h Q := T_aload_n c73_63 rfl
theorem c73_64 : cod 73 64 = some (.getfield 45, 3) := cod_of b73 dX6_stepBack_64
theorem t73_64 {d : Nat} {h : Hp} {Q : Pst} {a : Nat} {ls : List Value} {st : List Value} : T d 73 64 ls (.ref a :: st) h Q ↔ gF (h.2.2 a) 5 9 (fun v => T d 73 67 ls (v :: st) h Q) := T_getfieldR m73 c73_64 f6_45
theorem c73_67 : cod 73 67 = some (.bipush 10, 2) := cod_of b73 dX6_stepBack_67
theorem t73_67 {d : Nat} {h : Hp} {Q : Pst} {ls : List Value} {st : List Value} : T d 73 67 ls st h Q ↔ T d 73 69 ls (.int 10 :: st) h Q := T_bipushV c73_67 (by decide)
theorem c73_69 : cod 73 69 = some (.invokevirtual 139, 3) := cod_of b73 dX6_stepBack_69
theorem t73_69 {d : Nat} {h : Hp} {Q : Pst} {a0 : Int32} {s0 a : Nat} {ls : List Value} (ho : isO (h.2.2 a) 3) : T (d + 1) 73 69 ls [.int a0, .ref a, .ref s0] h Q ↔ T d 40 0 [.ref a, .int a0] [] h (fun x h2 => T (d + 1) 73 72 ls (rl x [.ref s0]) h2 Q) := T_virtualR (as := [.int a0]) (r := [.ref s0]) m73 m40 c73_69 k6_139  rfl (by decide) rfl (by simp [wrd, Value.category]) (by simp [stk, Value.category]) rfl (by decide +kernel) ho
theorem c73_72 : cod 73 72 = some (.putfield 55, 3) := cod_of b73 dX6_stepBack_72
theorem t73_72 {d : Nat} {h : Hp} {Q : Pst} {a : Nat} {x : Int32} {ls : List Value} {st : List Value} : T d 73 72 ls (.int x :: .ref a :: st) h Q ↔ pF (h.2.2 a) 5 12 (.int x) (fun cell => T d 73 75 ls st (hup h a cell) Q) := T_putfieldR m73 c73_72 f6_55 (by decide +kernel)
theorem c73_75 : cod 73 75 = some (.aload_n 0, 1) := cod_of b73 dX6_stepBack_75
theorem t73_75 {d : Nat} {h : Hp} {Q : Pst} {l1 : Value} {x : Nat} {st : List Value} : T d 73 75 [.ref x, l1] st h Q ↔ T d 73 76 [.ref x, l1] (.ref x :: st) h Q := T_aload_n c73_75 rfl
theorem c73_76 : cod 73 76 = some (.aload_n 0, 1) := cod_of b73 dX6_stepBack_76
theorem t73_76 {d : Nat} {h : Hp} {Q : Pst} {l1 : Value} {x : Nat} {st : List Value} : T d 73 76 [.ref x, l1] st h Q ↔ T d 73 77 [.ref x, l1] (.ref x :: st) h Q := T_aload_n c73_76 rfl
theorem c73_77 : cod 73 77 = some (.getfield 45, 3) := cod_of b73 dX6_stepBack_77
theorem t73_77 {d : Nat} {h : Hp} {Q : Pst} {a : Nat} {ls : List Value} {st : List Value} : T d 73 77 ls (.ref a :: st) h Q ↔ gF (h.2.2 a) 5 9 (fun v => T d 73 80 ls (v :: st) h Q) := T_getfieldR m73 c73_77 f6_45
theorem c73_80 : cod 73 80 = some (.bipush 11, 2) := cod_of b73 dX6_stepBack_80
theorem t73_80 {d : Nat} {h : Hp} {Q : Pst} {ls : List Value} {st : List Value} : T d 73 80 ls st h Q ↔ T d 73 82 ls (.int 11 :: st) h Q := T_bipushV c73_80 (by decide)
theorem c73_82 : cod 73 82 = some (.invokevirtual 139, 3) := cod_of b73 dX6_stepBack_82
theorem t73_82 {d : Nat} {h : Hp} {Q : Pst} {a0 : Int32} {s0 a : Nat} {ls : List Value} (ho : isO (h.2.2 a) 3) : T (d + 1) 73 82 ls [.int a0, .ref a, .ref s0] h Q ↔ T d 40 0 [.ref a, .int a0] [] h (fun x h2 => T (d + 1) 73 85 ls (rl x [.ref s0]) h2 Q) := T_virtualR (as := [.int a0]) (r := [.ref s0]) m73 m40 c73_82 k6_139  rfl (by decide) rfl (by simp [wrd, Value.category]) (by simp [stk, Value.category]) rfl (by decide +kernel) ho
theorem c73_85 : cod 73 85 = some (.putfield 58, 3) := cod_of b73 dX6_stepBack_85
theorem t73_85 {d : Nat} {h : Hp} {Q : Pst} {a : Nat} {x : Int32} {ls : List Value} {st : List Value} : T d 73 85 ls (.int x :: .ref a :: st) h Q ↔ pF (h.2.2 a) 5 13 (.int x) (fun cell => T d 73 88 ls st (hup h a cell) Q) := T_putfieldR m73 c73_85 f6_58 (by decide +kernel)
theorem c73_88 : cod 73 88 = some (.aload_n 0, 1) := cod_of b73 dX6_stepBack_88
theorem t73_88 {d : Nat} {h : Hp} {Q : Pst} {l1 : Value} {x : Nat} {st : List Value} : T d 73 88 [.ref x, l1] st h Q ↔ T d 73 89 [.ref x, l1] (.ref x :: st) h Q := T_aload_n c73_88 rfl
theorem c73_89 : cod 73 89 = some (.getfield 45, 3) := cod_of b73 dX6_stepBack_89
theorem t73_89 {d : Nat} {h : Hp} {Q : Pst} {a : Nat} {ls : List Value} {st : List Value} : T d 73 89 ls (.ref a :: st) h Q ↔ gF (h.2.2 a) 5 9 (fun v => T d 73 92 ls (v :: st) h Q) := T_getfieldR m73 c73_89 f6_45
theorem c73_92 : cod 73 92 = some (.invokevirtual 142, 3) := cod_of b73 dX6_stepBack_92
theorem t73_92 {d : Nat} {h : Hp} {Q : Pst} {a : Nat} {ls : List Value} (ho : isO (h.2.2 a) 3) : T (d + 1) 73 92 ls [.ref a] h Q ↔ T d 41 0 [.ref a] [] h (fun x h2 => T (d + 1) 73 95 ls (rl x []) h2 Q) := T_virtualR (as := []) (r := []) m73 m41 c73_92 k6_142  rfl (by decide) rfl (by simp [wrd, Value.category]) (by simp [stk, Value.category]) rfl (by decide +kernel) ho
theorem c73_95 : cod 73 95 = some (.return_, 1) := cod_of b73 dX6_stepBack_95
theorem t73_95 {d : Nat} {h : Hp} {Q : Pst} {ls : List Value} : T d 73 95 ls [] h Q ↔ Q none h := T_retR m73 c73_95 rfl
theorem b74 : (mR 74).2.2.1 = cX7_init := by rw [m74]
theorem c74_0 : cod 74 0 = some (.aload_n 0, 1) := cod_of b74 dX7_init_0
theorem t74_0 {d : Nat} {h : Hp} {Q : Pst} {x : Nat} {st : List Value} : T d 74 0 [.ref x] st h Q ↔ T d 74 1 [.ref x] (.ref x :: st) h Q := T_aload_n c74_0 rfl
theorem c74_1 : cod 74 1 = some (.invokespecial 1, 3) := cod_of b74 dX7_init_1
theorem t74_1 {d : Nat} {h : Hp} {Q : Pst} {a : Nat} {ls : List Value} : T (d + 1) 74 1 ls [.ref a] h Q ↔ T (d + 1) 74 4 ls [] h Q := T_objinitR m74 c74_1 k7_1 (by simp [stk, Value.category])
theorem c74_4 : cod 74 4 = some (.aload_n 0, 1) := cod_of b74 dX7_init_4
theorem t74_4 {d : Nat} {h : Hp} {Q : Pst} {x : Nat} {st : List Value} : T d 74 4 [.ref x] st h Q ↔ T d 74 5 [.ref x] (.ref x :: st) h Q := T_aload_n c74_4 rfl
theorem c74_5 : cod 74 5 = some (.new 7, 3) := cod_of b74 dX7_init_5
theorem t74_5 {d : Nat} {h : Hp} {Q : Pst} {ls : List Value} {st : List Value} : T d 74 5 ls st h Q ↔ T d 74 8 ls (.ref h.1 :: st) (hnew h 14 (oO 5 (dfl 5))) Q := T_newR m74 c74_5 (by decide +kernel) (by decide)
theorem c74_8 : cod 74 8 = some (.dup, 1) := cod_of b74 dX7_init_8
theorem t74_8 {d : Nat} {h : Hp} {Q : Pst} {x : Nat} {ls : List Value} {st : List Value} : T d 74 8 ls (.ref x :: st) h Q ↔ T d 74 9 ls (.ref x :: .ref x :: st) h Q := T_dup c74_8 rfl
theorem c74_9 : cod 74 9 = some (.invokespecial 9, 3) := cod_of b74 dX7_init_9
theorem t74_9 {d : Nat} {h : Hp} {Q : Pst} {s0 s1 a : Nat} {ls : List Value} : T (d + 1) 74 9 ls [.ref a, .ref s0, .ref s1] h Q ↔ T d 52 0 [.ref a] [] h (fun x h2 => T (d + 1) 74 12 ls (rl x [.ref s0, .ref s1]) h2 Q) := T_specialR (as := []) (r := [.ref s0, .ref s1]) m74 m52 c74_9 k7_9 (Or.inr rfl) rfl (by decide) rfl (by simp [wrd, Value.category]) (by simp [stk, Value.category]) rfl
theorem c74_12 : cod 74 12 = some (.putfield 10, 3) := cod_of b74 dX7_init_12
theorem t74_12 {d : Nat} {h : Hp} {Q : Pst} {a x : Nat} {ls : List Value} {st : List Value} : T d 74 12 ls (.ref x :: .ref a :: st) h Q ↔ pF (h.2.2 a) 6 0 (.ref x) (fun cell => T d 74 15 ls st (hup h a cell) Q) := T_putfieldR m74 c74_12 f7_10 (by decide +kernel)
theorem c74_15 : cod 74 15 = some (.aload_n 0, 1) := cod_of b74 dX7_init_15
theorem t74_15 {d : Nat} {h : Hp} {Q : Pst} {x : Nat} {st : List Value} : T d 74 15 [.ref x] st h Q ↔ T d 74 16 [.ref x] (.ref x :: st) h Q := T_aload_n c74_15 rfl
theorem c74_16 : cod 74 16 = some (.new 7, 3) := cod_of b74 dX7_init_16
theorem t74_16 {d : Nat} {h : Hp} {Q : Pst} {ls : List Value} {st : List Value} : T d 74 16 ls st h Q ↔ T d 74 19 ls (.ref h.1 :: st) (hnew h 14 (oO 5 (dfl 5))) Q := T_newR m74 c74_16 (by decide +kernel) (by decide)
theorem c74_19 : cod 74 19 = some (.dup, 1) := cod_of b74 dX7_init_19
theorem t74_19 {d : Nat} {h : Hp} {Q : Pst} {x : Nat} {ls : List Value} {st : List Value} : T d 74 19 ls (.ref x :: st) h Q ↔ T d 74 20 ls (.ref x :: .ref x :: st) h Q := T_dup c74_19 rfl
theorem c74_20 : cod 74 20 = some (.invokespecial 9, 3) := cod_of b74 dX7_init_20
theorem t74_20 {d : Nat} {h : Hp} {Q : Pst} {s0 s1 a : Nat} {ls : List Value} : T (d + 1) 74 20 ls [.ref a, .ref s0, .ref s1] h Q ↔ T d 52 0 [.ref a] [] h (fun x h2 => T (d + 1) 74 23 ls (rl x [.ref s0, .ref s1]) h2 Q) := T_specialR (as := []) (r := [.ref s0, .ref s1]) m74 m52 c74_20 k7_9 (Or.inr rfl) rfl (by decide) rfl (by simp [wrd, Value.category]) (by simp [stk, Value.category]) rfl
theorem c74_23 : cod 74 23 = some (.putfield 16, 3) := cod_of b74 dX7_init_23
theorem t74_23 {d : Nat} {h : Hp} {Q : Pst} {a x : Nat} {ls : List Value} {st : List Value} : T d 74 23 ls (.ref x :: .ref a :: st) h Q ↔ pF (h.2.2 a) 6 1 (.ref x) (fun cell => T d 74 26 ls st (hup h a cell) Q) := T_putfieldR m74 c74_23 f7_16 (by decide +kernel)
theorem c74_26 : cod 74 26 = some (.aload_n 0, 1) := cod_of b74 dX7_init_26
theorem t74_26 {d : Nat} {h : Hp} {Q : Pst} {x : Nat} {st : List Value} : T d 74 26 [.ref x] st h Q ↔ T d 74 27 [.ref x] (.ref x :: st) h Q := T_aload_n c74_26 rfl
theorem c74_27 : cod 74 27 = some (.iconst 2, 1) := cod_of b74 dX7_init_27
theorem t74_27 {d : Nat} {h : Hp} {Q : Pst} {ls : List Value} {st : List Value} : T d 74 27 ls st h Q ↔ T d 74 28 ls (.int 2 :: st) h Q := T_iconstV c74_27 (by decide)
theorem c74_28 : cod 74 28 = some (.anewarray 7, 3) := cod_of b74 dX7_init_28
theorem t74_28 {d : Nat} {h : Hp} {Q : Pst} {x : Int32} {ls : List Value} {st : List Value} : T d 74 28 ls (.int x :: st) h Q ↔ ((0 ≤ x.toInt ∧ x.toInt ≤ 100000) ∧ T d 74 31 ls (.ref h.1 :: st) (hnew h x.toNatClampNeg (oQ x.toNatClampNeg fun _ => none)) Q) := T_anewR m74 c74_28 (by decide +kernel)
theorem c74_31 : cod 74 31 = some (.putfield 19, 3) := cod_of b74 dX7_init_31
theorem t74_31 {d : Nat} {h : Hp} {Q : Pst} {a x : Nat} {ls : List Value} {st : List Value} : T d 74 31 ls (.ref x :: .ref a :: st) h Q ↔ pF (h.2.2 a) 6 2 (.ref x) (fun cell => T d 74 34 ls st (hup h a cell) Q) := T_putfieldR m74 c74_31 f7_19 (by decide +kernel)
theorem c74_34 : cod 74 34 = some (.aload_n 0, 1) := cod_of b74 dX7_init_34
theorem t74_34 {d : Nat} {h : Hp} {Q : Pst} {x : Nat} {st : List Value} : T d 74 34 [.ref x] st h Q ↔ T d 74 35 [.ref x] (.ref x :: st) h Q := T_aload_n c74_34 rfl
theorem c74_35 : cod 74 35 = some (.new 23, 3) := cod_of b74 dX7_init_35
theorem t74_35 {d : Nat} {h : Hp} {Q : Pst} {ls : List Value} {st : List Value} : T d 74 35 ls st h Q ↔ T d 74 38 ls (.ref h.1 :: st) (hnew h 9 (oO 2 (dfl 2))) Q := T_newR m74 c74_35 (by decide +kernel) (by decide)
theorem c74_38 : cod 74 38 = some (.dup, 1) := cod_of b74 dX7_init_38
theorem t74_38 {d : Nat} {h : Hp} {Q : Pst} {x : Nat} {ls : List Value} {st : List Value} : T d 74 38 ls (.ref x :: st) h Q ↔ T d 74 39 ls (.ref x :: .ref x :: st) h Q := T_dup c74_38 rfl
theorem c74_39 : cod 74 39 = some (.invokespecial 25, 3) := cod_of b74 dX7_init_39
theorem t74_39 {d : Nat} {h : Hp} {Q : Pst} {s0 s1 a : Nat} {ls : List Value} : T (d + 1) 74 39 ls [.ref a, .ref s0, .ref s1] h Q ↔ T d 18 0 [.ref a] [] h (fun x h2 => T (d + 1) 74 42 ls (rl x [.ref s0, .ref s1]) h2 Q) := T_specialR (as := []) (r := [.ref s0, .ref s1]) m74 m18 c74_39 k7_25 (Or.inr rfl) rfl (by decide) rfl (by simp [wrd, Value.category]) (by simp [stk, Value.category]) rfl
theorem c74_42 : cod 74 42 = some (.putfield 26, 3) := cod_of b74 dX7_init_42
theorem t74_42 {d : Nat} {h : Hp} {Q : Pst} {a x : Nat} {ls : List Value} {st : List Value} : T d 74 42 ls (.ref x :: .ref a :: st) h Q ↔ pF (h.2.2 a) 6 3 (.ref x) (fun cell => T d 74 45 ls st (hup h a cell) Q) := T_putfieldR m74 c74_42 f7_26 (by decide +kernel)
theorem c74_45 : cod 74 45 = some (.aload_n 0, 1) := cod_of b74 dX7_init_45
theorem t74_45 {d : Nat} {h : Hp} {Q : Pst} {x : Nat} {st : List Value} : T d 74 45 [.ref x] st h Q ↔ T d 74 46 [.ref x] (.ref x :: st) h Q := T_aload_n c74_45 rfl
theorem c74_46 : cod 74 46 = some (.new 30, 3) := cod_of b74 dX7_init_46
theorem t74_46 {d : Nat} {h : Hp} {Q : Pst} {ls : List Value} {st : List Value} : T d 74 46 ls st h Q ↔ T d 74 49 ls (.ref h.1 :: st) (hnew h 1 (oO 1 (dfl 1))) Q := T_newR m74 c74_46 (by decide +kernel) (by decide)
theorem c74_49 : cod 74 49 = some (.dup, 1) := cod_of b74 dX7_init_49
theorem t74_49 {d : Nat} {h : Hp} {Q : Pst} {x : Nat} {ls : List Value} {st : List Value} : T d 74 49 ls (.ref x :: st) h Q ↔ T d 74 50 ls (.ref x :: .ref x :: st) h Q := T_dup c74_49 rfl
theorem c74_50 : cod 74 50 = some (.invokespecial 32, 3) := cod_of b74 dX7_init_50
theorem t74_50 {d : Nat} {h : Hp} {Q : Pst} {s0 s1 a : Nat} {ls : List Value} : T (d + 1) 74 50 ls [.ref a, .ref s0, .ref s1] h Q ↔ T d 5 0 [.ref a] [] h (fun x h2 => T (d + 1) 74 53 ls (rl x [.ref s0, .ref s1]) h2 Q) := T_specialR (as := []) (r := [.ref s0, .ref s1]) m74 m5 c74_50 k7_32 (Or.inr rfl) rfl (by decide) rfl (by simp [wrd, Value.category]) (by simp [stk, Value.category]) rfl
theorem c74_53 : cod 74 53 = some (.putfield 33, 3) := cod_of b74 dX7_init_53
theorem t74_53 {d : Nat} {h : Hp} {Q : Pst} {a x : Nat} {ls : List Value} {st : List Value} : T d 74 53 ls (.ref x :: .ref a :: st) h Q ↔ pF (h.2.2 a) 6 4 (.ref x) (fun cell => T d 74 56 ls st (hup h a cell) Q) := T_putfieldR m74 c74_53 f7_33 (by decide +kernel)
theorem c74_56 : cod 74 56 = some (.aload_n 0, 1) := cod_of b74 dX7_init_56
theorem t74_56 {d : Nat} {h : Hp} {Q : Pst} {x : Nat} {st : List Value} : T d 74 56 [.ref x] st h Q ↔ T d 74 57 [.ref x] (.ref x :: st) h Q := T_aload_n c74_56 rfl
theorem c74_57 : cod 74 57 = some (.new 37, 3) := cod_of b74 dX7_init_57
theorem t74_57 {d : Nat} {h : Hp} {Q : Pst} {ls : List Value} {st : List Value} : T d 74 57 ls st h Q ↔ T d 74 60 ls (.ref h.1 :: st) (hnew h 7 (oO 4 (dfl 4))) Q := T_newR m74 c74_57 (by decide +kernel) (by decide)
theorem c74_60 : cod 74 60 = some (.dup, 1) := cod_of b74 dX7_init_60
theorem t74_60 {d : Nat} {h : Hp} {Q : Pst} {x : Nat} {ls : List Value} {st : List Value} : T d 74 60 ls (.ref x :: st) h Q ↔ T d 74 61 ls (.ref x :: .ref x :: st) h Q := T_dup c74_60 rfl
theorem c74_61 : cod 74 61 = some (.invokespecial 39, 3) := cod_of b74 dX7_init_61
theorem t74_61 {d : Nat} {h : Hp} {Q : Pst} {s0 s1 a : Nat} {ls : List Value} : T (d + 1) 74 61 ls [.ref a, .ref s0, .ref s1] h Q ↔ T d 45 0 [.ref a] [] h (fun x h2 => T (d + 1) 74 64 ls (rl x [.ref s0, .ref s1]) h2 Q) := T_specialR (as := []) (r := [.ref s0, .ref s1]) m74 m45 c74_61 k7_39 (Or.inr rfl) rfl (by decide) rfl (by simp [wrd, Value.category]) (by simp [stk, Value.category]) rfl
theorem c74_64 : cod 74 64 = some (.putfield 40, 3) := cod_of b74 dX7_init_64
theorem t74_64 {d : Nat} {h : Hp} {Q : Pst} {a x : Nat} {ls : List Value} {st : List Value} : T d 74 64 ls (.ref x :: .ref a :: st) h Q ↔ pF (h.2.2 a) 6 5 (.ref x) (fun cell => T d 74 67 ls st (hup h a cell) Q) := T_putfieldR m74 c74_64 f7_40 (by decide +kernel)
theorem c74_67 : cod 74 67 = some (.aload_n 0, 1) := cod_of b74 dX7_init_67
theorem t74_67 {d : Nat} {h : Hp} {Q : Pst} {x : Nat} {st : List Value} : T d 74 67 [.ref x] st h Q ↔ T d 74 68 [.ref x] (.ref x :: st) h Q := T_aload_n c74_67 rfl
theorem c74_68 : cod 74 68 = some (.new 44, 3) := cod_of b74 dX7_init_68
theorem t74_68 {d : Nat} {h : Hp} {Q : Pst} {ls : List Value} {st : List Value} : T d 74 68 ls st h Q ↔ T d 74 71 ls (.ref h.1 :: st) (hnew h 2 (oO 0 (dfl 0))) Q := T_newR m74 c74_68 (by decide +kernel) (by decide)
theorem c74_71 : cod 74 71 = some (.dup, 1) := cod_of b74 dX7_init_71
theorem t74_71 {d : Nat} {h : Hp} {Q : Pst} {x : Nat} {ls : List Value} {st : List Value} : T d 74 71 ls (.ref x :: st) h Q ↔ T d 74 72 ls (.ref x :: .ref x :: st) h Q := T_dup c74_71 rfl
theorem c74_72 : cod 74 72 = some (.invokespecial 46, 3) := cod_of b74 dX7_init_72
theorem t74_72 {d : Nat} {h : Hp} {Q : Pst} {s0 s1 a : Nat} {ls : List Value} : T (d + 1) 74 72 ls [.ref a, .ref s0, .ref s1] h Q ↔ T d 0 0 [.ref a] [] h (fun x h2 => T (d + 1) 74 75 ls (rl x [.ref s0, .ref s1]) h2 Q) := T_specialR (as := []) (r := [.ref s0, .ref s1]) m74 m0 c74_72 k7_46 (Or.inr rfl) rfl (by decide) rfl (by simp [wrd, Value.category]) (by simp [stk, Value.category]) rfl
theorem c74_75 : cod 74 75 = some (.putfield 47, 3) := cod_of b74 dX7_init_75
theorem t74_75 {d : Nat} {h : Hp} {Q : Pst} {a x : Nat} {ls : List Value} {st : List Value} : T d 74 75 ls (.ref x :: .ref a :: st) h Q ↔ pF (h.2.2 a) 6 6 (.ref x) (fun cell => T d 74 78 ls st (hup h a cell) Q) := T_putfieldR m74 c74_75 f7_47 (by decide +kernel)
theorem c74_78 : cod 74 78 = some (.aload_n 0, 1) := cod_of b74 dX7_init_78
theorem t74_78 {d : Nat} {h : Hp} {Q : Pst} {x : Nat} {st : List Value} : T d 74 78 [.ref x] st h Q ↔ T d 74 79 [.ref x] (.ref x :: st) h Q := T_aload_n c74_78 rfl
theorem c74_79 : cod 74 79 = some (.iconst 3, 1) := cod_of b74 dX7_init_79
theorem t74_79 {d : Nat} {h : Hp} {Q : Pst} {ls : List Value} {st : List Value} : T d 74 79 ls st h Q ↔ T d 74 80 ls (.int 3 :: st) h Q := T_iconstV c74_79 (by decide)
theorem c74_80 : cod 74 80 = some (.newarray .int, 2) := cod_of b74 dX7_init_80
theorem t74_80 {d : Nat} {h : Hp} {Q : Pst} {x : Int32} {ls : List Value} {st : List Value} : T d 74 80 ls (.int x :: st) h Q ↔ ((0 ≤ x.toInt ∧ x.toInt ≤ 100000) ∧ T d 74 82 ls (.ref h.1 :: st) (hnew h x.toNatClampNeg (oI x.toNatClampNeg fun _ => 0)) Q) := T_newi c74_80
theorem c74_82 : cod 74 82 = some (.putfield 51, 3) := cod_of b74 dX7_init_82
theorem t74_82 {d : Nat} {h : Hp} {Q : Pst} {a x : Nat} {ls : List Value} {st : List Value} : T d 74 82 ls (.ref x :: .ref a :: st) h Q ↔ pF (h.2.2 a) 6 7 (.ref x) (fun cell => T d 74 85 ls st (hup h a cell) Q) := T_putfieldR m74 c74_82 f7_51 (by decide +kernel)
theorem c74_85 : cod 74 85 = some (.aload_n 0, 1) := cod_of b74 dX7_init_85
theorem t74_85 {d : Nat} {h : Hp} {Q : Pst} {x : Nat} {st : List Value} : T d 74 85 [.ref x] st h Q ↔ T d 74 86 [.ref x] (.ref x :: st) h Q := T_aload_n c74_85 rfl
theorem c74_86 : cod 74 86 = some (.iconst 0, 1) := cod_of b74 dX7_init_86
theorem t74_86 {d : Nat} {h : Hp} {Q : Pst} {ls : List Value} {st : List Value} : T d 74 86 ls st h Q ↔ T d 74 87 ls (.int 0 :: st) h Q := T_iconstV c74_86 (by decide)
theorem c74_87 : cod 74 87 = some (.putfield 55, 3) := cod_of b74 dX7_init_87
theorem t74_87 {d : Nat} {h : Hp} {Q : Pst} {a : Nat} {x : Int32} {ls : List Value} {st : List Value} : T d 74 87 ls (.int x :: .ref a :: st) h Q ↔ pF (h.2.2 a) 6 8 (.int x) (fun cell => T d 74 90 ls st (hup h a cell) Q) := T_putfieldR m74 c74_87 f7_55 (by decide +kernel)
theorem c74_90 : cod 74 90 = some (.aload_n 0, 1) := cod_of b74 dX7_init_90
theorem t74_90 {d : Nat} {h : Hp} {Q : Pst} {x : Nat} {st : List Value} : T d 74 90 [.ref x] st h Q ↔ T d 74 91 [.ref x] (.ref x :: st) h Q := T_aload_n c74_90 rfl
theorem c74_91 : cod 74 91 = some (.iconst 1, 1) := cod_of b74 dX7_init_91
theorem t74_91 {d : Nat} {h : Hp} {Q : Pst} {ls : List Value} {st : List Value} : T d 74 91 ls st h Q ↔ T d 74 92 ls (.int 1 :: st) h Q := T_iconstV c74_91 (by decide)
theorem c74_92 : cod 74 92 = some (.putfield 59, 3) := cod_of b74 dX7_init_92
theorem t74_92 {d : Nat} {h : Hp} {Q : Pst} {a : Nat} {x : Int32} {ls : List Value} {st : List Value} : T d 74 92 ls (.int x :: .ref a :: st) h Q ↔ pF (h.2.2 a) 6 9 (.int x) (fun cell => T d 74 95 ls st (hup h a cell) Q) := T_putfieldR m74 c74_92 f7_59 (by decide +kernel)
theorem c74_95 : cod 74 95 = some (.return_, 1) := cod_of b74 dX7_init_95
theorem t74_95 {d : Nat} {h : Hp} {Q : Pst} {ls : List Value} : T d 74 95 ls [] h Q ↔ Q none h := T_retR m74 c74_95 rfl
theorem b75 : (mR 75).2.2.1 = cX7_uplands := by rw [m75]
theorem c75_0 : cod 75 0 = some (.iload_n 1, 1) := cod_of b75 dX7_uplands_0
theorem t75_0 {d : Nat} {h : Hp} {Q : Pst} {l0 l2 : Value} {x : Int32} {st : List Value} : T d 75 0 [l0, .int x, l2] st h Q ↔ T d 75 1 [l0, .int x, l2] (.int x :: st) h Q := T_iload_n c75_0 rfl
theorem c75_1 : cod 75 1 = some (.iconst 0, 1) := cod_of b75 dX7_uplands_1
theorem t75_1 {d : Nat} {h : Hp} {Q : Pst} {ls : List Value} {st : List Value} : T d 75 1 ls st h Q ↔ T d 75 2 ls (.int 0 :: st) h Q := T_iconstV c75_1 (by decide)
theorem c75_2 : cod 75 2 = some (.iconst 4, 1) := cod_of b75 dX7_uplands_2
theorem t75_2 {d : Nat} {h : Hp} {Q : Pst} {ls : List Value} {st : List Value} : T d 75 2 ls st h Q ↔ T d 75 3 ls (.int 4 :: st) h Q := T_iconstV c75_2 (by decide)
theorem c75_3 : cod 75 3 = some (.invokestatic 62, 3) := cod_of b75 dX7_uplands_3
theorem t75_3 {d : Nat} {h : Hp} {Q : Pst} {a0 a1 a2 : Int32} {ls : List Value} : T (d + 1) 75 3 ls [.int a2, .int a1, .int a0] h Q ↔ T d 118 0 [.int a0, .int a1, .int a2] [] h (fun x h2 => T (d + 1) 75 6 ls (rl x []) h2 Q) := T_staticR (as := [.int a0, .int a1, .int a2]) (r := []) m75 m118 c75_3 k7_62 (Or.inl rfl) rfl (by decide) rfl (by simp [wrd, Value.category]) (by simp [stk, Value.category]) rfl
theorem c75_6 : cod 75 6 = some (.ifCond .ne 10, 3) := cod_of b75 dX7_uplands_6
theorem t75_6 {d : Nat} {h : Hp} {Q : Pst} {x : Int32} {ls : List Value} {st : List Value} : T d 75 6 ls (.int x :: st) h Q ↔ (if ¬ x = 0 then T d 75 16 ls st h Q else T d 75 9 ls st h Q) := T_if_ne c75_6 (by decide)
theorem c75_9 : cod 75 9 = some (.aload_n 0, 1) := cod_of b75 dX7_uplands_9
theorem t75_9 {d : Nat} {h : Hp} {Q : Pst} {l1 l2 : Value} {x : Nat} {st : List Value} : T d 75 9 [.ref x, l1, l2] st h Q ↔ T d 75 10 [.ref x, l1, l2] (.ref x :: st) h Q := T_aload_n c75_9 rfl
theorem c75_10 : cod 75 10 = some (.bipush (-2), 2) := cod_of b75 dX7_uplands_10
theorem t75_10 {d : Nat} {h : Hp} {Q : Pst} {ls : List Value} {st : List Value} : T d 75 10 ls st h Q ↔ T d 75 12 ls (.int (-2) :: st) h Q := T_bipushV c75_10 (by decide)
theorem c75_12 : cod 75 12 = some (.invokevirtual 66, 3) := cod_of b75 dX7_uplands_12
theorem t75_12 {d : Nat} {h : Hp} {Q : Pst} {a0 : Int32} {a : Nat} {ls : List Value} (ho : isO (h.2.2 a) 6) : T (d + 1) 75 12 ls [.int a0, .ref a] h Q ↔ T d 116 0 [.ref a, .int a0, un] [] h (fun x h2 => T (d + 1) 75 15 ls (rl x []) h2 Q) := T_virtualR (as := [.int a0]) (r := []) m75 m116 c75_12 k7_66  rfl (by decide) rfl (by simp [wrd, Value.category]) (by simp [stk, Value.category]) rfl (by decide +kernel) ho
theorem c75_15 : cod 75 15 = some (.ireturn, 1) := cod_of b75 dX7_uplands_15
theorem t75_15 {d : Nat} {h : Hp} {Q : Pst} {x : Int32} {ls : List Value} : T d 75 15 ls [.int x] h Q ↔ Q (some (.int x)) h := T_iretR m75 c75_15 rfl
theorem c75_16 : cod 75 16 = some (.aload_n 0, 1) := cod_of b75 dX7_uplands_16
theorem t75_16 {d : Nat} {h : Hp} {Q : Pst} {l1 l2 : Value} {x : Nat} {st : List Value} : T d 75 16 [.ref x, l1, l2] st h Q ↔ T d 75 17 [.ref x, l1, l2] (.ref x :: st) h Q := T_aload_n c75_16 rfl
theorem c75_17 : cod 75 17 = some (.getfield 10, 3) := cod_of b75 dX7_uplands_17
theorem t75_17 {d : Nat} {h : Hp} {Q : Pst} {a : Nat} {ls : List Value} {st : List Value} : T d 75 17 ls (.ref a :: st) h Q ↔ gF (h.2.2 a) 6 0 (fun v => T d 75 20 ls (v :: st) h Q) := T_getfieldR m75 c75_17 f7_10
theorem c75_20 : cod 75 20 = some (.getfield 70, 3) := cod_of b75 dX7_uplands_20
theorem t75_20 {d : Nat} {h : Hp} {Q : Pst} {a : Nat} {ls : List Value} {st : List Value} : T d 75 20 ls (.ref a :: st) h Q ↔ gF (h.2.2 a) 5 10 (fun v => T d 75 23 ls (v :: st) h Q) := T_getfieldR m75 c75_20 f7_70
theorem c75_23 : cod 75 23 = some (.istore_n 2, 1) := cod_of b75 dX7_uplands_23
theorem t75_23 {d : Nat} {h : Hp} {Q : Pst} {l0 l1 l2 : Value} {x : Int32} {st : List Value} : T d 75 23 [l0, l1, l2] (.int x :: st) h Q ↔ T d 75 24 [l0, kil l1, .int x] st h Q := T_istore_n c75_23 (Nat.le_of_ble_eq_true rfl)
theorem c75_24 : cod 75 24 = some (.aload_n 0, 1) := cod_of b75 dX7_uplands_24
theorem t75_24 {d : Nat} {h : Hp} {Q : Pst} {l1 l2 : Value} {x : Nat} {st : List Value} : T d 75 24 [.ref x, l1, l2] st h Q ↔ T d 75 25 [.ref x, l1, l2] (.ref x :: st) h Q := T_aload_n c75_24 rfl
theorem c75_25 : cod 75 25 = some (.getfield 10, 3) := cod_of b75 dX7_uplands_25
theorem t75_25 {d : Nat} {h : Hp} {Q : Pst} {a : Nat} {ls : List Value} {st : List Value} : T d 75 25 ls (.ref a :: st) h Q ↔ gF (h.2.2 a) 6 0 (fun v => T d 75 28 ls (v :: st) h Q) := T_getfieldR m75 c75_25 f7_10
theorem c75_28 : cod 75 28 = some (.iload_n 1, 1) := cod_of b75 dX7_uplands_28
theorem t75_28 {d : Nat} {h : Hp} {Q : Pst} {l0 l2 : Value} {x : Int32} {st : List Value} : T d 75 28 [l0, .int x, l2] st h Q ↔ T d 75 29 [l0, .int x, l2] (.int x :: st) h Q := T_iload_n c75_28 rfl
theorem c75_29 : cod 75 29 = some (.invokevirtual 73, 3) := cod_of b75 dX7_uplands_29
theorem t75_29 {d : Nat} {h : Hp} {Q : Pst} {a0 : Int32} {a : Nat} {ls : List Value} (ho : isO (h.2.2 a) 5) : T (d + 1) 75 29 ls [.int a0, .ref a] h Q ↔ T d 53 0 [.ref a, .int a0] [] h (fun x h2 => T (d + 1) 75 32 ls (rl x []) h2 Q) := T_virtualR (as := [.int a0]) (r := []) m75 m53 c75_29 k7_73  rfl (by decide) rfl (by simp [wrd, Value.category]) (by simp [stk, Value.category]) rfl (by decide +kernel) ho
theorem c75_32 : cod 75 32 = some (.iload_n 2, 1) := cod_of b75 dX7_uplands_32
theorem t75_32 {d : Nat} {h : Hp} {Q : Pst} {l0 l1 : Value} {x : Int32} {st : List Value} : T d 75 32 [l0, l1, .int x] st h Q ↔ T d 75 33 [l0, l1, .int x] (.int x :: st) h Q := T_iload_n c75_32 rfl
theorem c75_33 : cod 75 33 = some (.ireturn, 1) := cod_of b75 dX7_uplands_33
theorem t75_33 {d : Nat} {h : Hp} {Q : Pst} {x : Int32} {ls : List Value} : T d 75 33 ls [.int x] h Q ↔ Q (some (.int x)) h := T_iretR m75 c75_33 rfl
theorem b76 : (mR 76).2.2.1 = cX7_guest := by rw [m76]
theorem c76_0 : cod 76 0 = some (.iload_n 1, 1) := cod_of b76 dX7_guest_0
theorem t76_0 {d : Nat} {h : Hp} {Q : Pst} {l0 l2 : Value} {x : Int32} {st : List Value} : T d 76 0 [l0, .int x, l2] st h Q ↔ T d 76 1 [l0, .int x, l2] (.int x :: st) h Q := T_iload_n c76_0 rfl
theorem c76_1 : cod 76 1 = some (.iconst 0, 1) := cod_of b76 dX7_guest_1
theorem t76_1 {d : Nat} {h : Hp} {Q : Pst} {ls : List Value} {st : List Value} : T d 76 1 ls st h Q ↔ T d 76 2 ls (.int 0 :: st) h Q := T_iconstV c76_1 (by decide)
theorem c76_2 : cod 76 2 = some (.iconst 5, 1) := cod_of b76 dX7_guest_2
theorem t76_2 {d : Nat} {h : Hp} {Q : Pst} {ls : List Value} {st : List Value} : T d 76 2 ls st h Q ↔ T d 76 3 ls (.int 5 :: st) h Q := T_iconstV c76_2 (by decide)
theorem c76_3 : cod 76 3 = some (.invokestatic 62, 3) := cod_of b76 dX7_guest_3
theorem t76_3 {d : Nat} {h : Hp} {Q : Pst} {a0 a1 a2 : Int32} {ls : List Value} : T (d + 1) 76 3 ls [.int a2, .int a1, .int a0] h Q ↔ T d 118 0 [.int a0, .int a1, .int a2] [] h (fun x h2 => T (d + 1) 76 6 ls (rl x []) h2 Q) := T_staticR (as := [.int a0, .int a1, .int a2]) (r := []) m76 m118 c76_3 k7_62 (Or.inl rfl) rfl (by decide) rfl (by simp [wrd, Value.category]) (by simp [stk, Value.category]) rfl
theorem c76_6 : cod 76 6 = some (.ifCond .eq 13, 3) := cod_of b76 dX7_guest_6
theorem t76_6 {d : Nat} {h : Hp} {Q : Pst} {x : Int32} {ls : List Value} {st : List Value} : T d 76 6 ls (.int x :: st) h Q ↔ (if x = 0 then T d 76 19 ls st h Q else T d 76 9 ls st h Q) := T_if_eq c76_6 (by decide)
theorem c76_9 : cod 76 9 = some (.iload_n 2, 1) := cod_of b76 dX7_guest_9
theorem t76_9 {d : Nat} {h : Hp} {Q : Pst} {l0 l1 : Value} {x : Int32} {st : List Value} : T d 76 9 [l0, l1, .int x] st h Q ↔ T d 76 10 [l0, l1, .int x] (.int x :: st) h Q := T_iload_n c76_9 rfl
theorem c76_10 : cod 76 10 = some (.iconst 1, 1) := cod_of b76 dX7_guest_10
theorem t76_10 {d : Nat} {h : Hp} {Q : Pst} {ls : List Value} {st : List Value} : T d 76 10 ls st h Q ↔ T d 76 11 ls (.int 1 :: st) h Q := T_iconstV c76_10 (by decide)
theorem c76_11 : cod 76 11 = some (.bipush 30, 2) := cod_of b76 dX7_guest_11
theorem t76_11 {d : Nat} {h : Hp} {Q : Pst} {ls : List Value} {st : List Value} : T d 76 11 ls st h Q ↔ T d 76 13 ls (.int 30 :: st) h Q := T_bipushV c76_11 (by decide)
theorem c76_13 : cod 76 13 = some (.invokestatic 62, 3) := cod_of b76 dX7_guest_13
theorem t76_13 {d : Nat} {h : Hp} {Q : Pst} {a0 a1 a2 : Int32} {ls : List Value} : T (d + 1) 76 13 ls [.int a2, .int a1, .int a0] h Q ↔ T d 118 0 [.int a0, .int a1, .int a2] [] h (fun x h2 => T (d + 1) 76 16 ls (rl x []) h2 Q) := T_staticR (as := [.int a0, .int a1, .int a2]) (r := []) m76 m118 c76_13 k7_62 (Or.inl rfl) rfl (by decide) rfl (by simp [wrd, Value.category]) (by simp [stk, Value.category]) rfl
theorem c76_16 : cod 76 16 = some (.ifCond .ne 10, 3) := cod_of b76 dX7_guest_16
theorem t76_16 {d : Nat} {h : Hp} {Q : Pst} {x : Int32} {ls : List Value} {st : List Value} : T d 76 16 ls (.int x :: st) h Q ↔ (if ¬ x = 0 then T d 76 26 ls st h Q else T d 76 19 ls st h Q) := T_if_ne c76_16 (by decide)
theorem c76_26 : cod 76 26 = some (.aload_n 0, 1) := cod_of b76 dX7_guest_26
theorem t76_26 {d : Nat} {h : Hp} {Q : Pst} {l1 l2 : Value} {x : Nat} {st : List Value} : T d 76 26 [.ref x, l1, l2] st h Q ↔ T d 76 27 [.ref x, l1, l2] (.ref x :: st) h Q := T_aload_n c76_26 rfl
theorem c76_27 : cod 76 27 = some (.getfield 10, 3) := cod_of b76 dX7_guest_27
theorem t76_27 {d : Nat} {h : Hp} {Q : Pst} {a : Nat} {ls : List Value} {st : List Value} : T d 76 27 ls (.ref a :: st) h Q ↔ gF (h.2.2 a) 6 0 (fun v => T d 76 30 ls (v :: st) h Q) := T_getfieldR m76 c76_27 f7_10
theorem c76_30 : cod 76 30 = some (.getfield 70, 3) := cod_of b76 dX7_guest_30
theorem t76_30 {d : Nat} {h : Hp} {Q : Pst} {a : Nat} {ls : List Value} {st : List Value} : T d 76 30 ls (.ref a :: st) h Q ↔ gF (h.2.2 a) 5 10 (fun v => T d 76 33 ls (v :: st) h Q) := T_getfieldR m76 c76_30 f7_70
theorem c76_33 : cod 76 33 = some (.bipush 6, 2) := cod_of b76 dX7_guest_33
theorem t76_33 {d : Nat} {h : Hp} {Q : Pst} {ls : List Value} {st : List Value} : T d 76 33 ls st h Q ↔ T d 76 35 ls (.int 6 :: st) h Q := T_bipushV c76_33 (by decide)
theorem c76_35 : cod 76 35 = some (.if_icmp .lt 10, 3) := cod_of b76 dX7_guest_35
theorem t76_35 {d : Nat} {h : Hp} {Q : Pst} {x y : Int32} {ls : List Value} {st : List Value} : T d 76 35 ls (.int y :: .int x :: st) h Q ↔ (if x < y then T d 76 45 ls st h Q else T d 76 38 ls st h Q) := T_icmp_lt c76_35 (by decide)
theorem c76_38 : cod 76 38 = some (.aload_n 0, 1) := cod_of b76 dX7_guest_38
theorem t76_38 {d : Nat} {h : Hp} {Q : Pst} {l1 l2 : Value} {x : Nat} {st : List Value} : T d 76 38 [.ref x, l1, l2] st h Q ↔ T d 76 39 [.ref x, l1, l2] (.ref x :: st) h Q := T_aload_n c76_38 rfl
theorem c76_39 : cod 76 39 = some (.bipush (-4), 2) := cod_of b76 dX7_guest_39
theorem t76_39 {d : Nat} {h : Hp} {Q : Pst} {ls : List Value} {st : List Value} : T d 76 39 ls st h Q ↔ T d 76 41 ls (.int (-4) :: st) h Q := T_bipushV c76_39 (by decide)
theorem c76_41 : cod 76 41 = some (.invokevirtual 66, 3) := cod_of b76 dX7_guest_41
theorem t76_41 {d : Nat} {h : Hp} {Q : Pst} {a0 : Int32} {a : Nat} {ls : List Value} (ho : isO (h.2.2 a) 6) : T (d + 1) 76 41 ls [.int a0, .ref a] h Q ↔ T d 116 0 [.ref a, .int a0, un] [] h (fun x h2 => T (d + 1) 76 44 ls (rl x []) h2 Q) := T_virtualR (as := [.int a0]) (r := []) m76 m116 c76_41 k7_66  rfl (by decide) rfl (by simp [wrd, Value.category]) (by simp [stk, Value.category]) rfl (by decide +kernel) ho
theorem c76_44 : cod 76 44 = some (.ireturn, 1) := cod_of b76 dX7_guest_44
theorem t76_44 {d : Nat} {h : Hp} {Q : Pst} {x : Int32} {ls : List Value} : T d 76 44 ls [.int x] h Q ↔ Q (some (.int x)) h := T_iretR m76 c76_44 rfl
theorem c76_45 : cod 76 45 = some (.aload_n 0, 1) := cod_of b76 dX7_guest_45
theorem t76_45 {d : Nat} {h : Hp} {Q : Pst} {l1 l2 : Value} {x : Nat} {st : List Value} : T d 76 45 [.ref x, l1, l2] st h Q ↔ T d 76 46 [.ref x, l1, l2] (.ref x :: st) h Q := T_aload_n c76_45 rfl
theorem c76_46 : cod 76 46 = some (.getfield 10, 3) := cod_of b76 dX7_guest_46
theorem t76_46 {d : Nat} {h : Hp} {Q : Pst} {a : Nat} {ls : List Value} {st : List Value} : T d 76 46 ls (.ref a :: st) h Q ↔ gF (h.2.2 a) 6 0 (fun v => T d 76 49 ls (v :: st) h Q) := T_getfieldR m76 c76_46 f7_10
theorem c76_49 : cod 76 49 = some (.iload_n 1, 1) := cod_of b76 dX7_guest_49
theorem t76_49 {d : Nat} {h : Hp} {Q : Pst} {l0 l2 : Value} {x : Int32} {st : List Value} : T d 76 49 [l0, .int x, l2] st h Q ↔ T d 76 50 [l0, .int x, l2] (.int x :: st) h Q := T_iload_n c76_49 rfl
theorem c76_50 : cod 76 50 = some (.iload_n 2, 1) := cod_of b76 dX7_guest_50
theorem t76_50 {d : Nat} {h : Hp} {Q : Pst} {l0 l1 : Value} {x : Int32} {st : List Value} : T d 76 50 [l0, l1, .int x] st h Q ↔ T d 76 51 [l0, l1, .int x] (.int x :: st) h Q := T_iload_n c76_50 rfl
theorem c76_51 : cod 76 51 = some (.invokevirtual 77, 3) := cod_of b76 dX7_guest_51
theorem t76_51 {d : Nat} {h : Hp} {Q : Pst} {a0 a1 : Int32} {a : Nat} {ls : List Value} (ho : isO (h.2.2 a) 5) : T (d + 1) 76 51 ls [.int a1, .int a0, .ref a] h Q ↔ T d 57 0 [.ref a, .int a0, .int a1] [] h (fun x h2 => T (d + 1) 76 54 ls (rl x []) h2 Q) := T_virtualR (as := [.int a0, .int a1]) (r := []) m76 m57 c76_51 k7_77  rfl (by decide) rfl (by simp [wrd, Value.category]) (by simp [stk, Value.category]) rfl (by decide +kernel) ho
theorem c76_54 : cod 76 54 = some (.ireturn, 1) := cod_of b76 dX7_guest_54
theorem t76_54 {d : Nat} {h : Hp} {Q : Pst} {x : Int32} {ls : List Value} : T d 76 54 ls [.int x] h Q ↔ Q (some (.int x)) h := T_iretR m76 c76_54 rfl
theorem c76_19 : cod 76 19 = some (.aload_n 0, 1) := cod_of b76 dX7_guest_19
theorem t76_19 {d : Nat} {h : Hp} {Q : Pst} {l1 l2 : Value} {x : Nat} {st : List Value} : T d 76 19 [.ref x, l1, l2] st h Q ↔ T d 76 20 [.ref x, l1, l2] (.ref x :: st) h Q := T_aload_n c76_19 rfl
theorem c76_20 : cod 76 20 = some (.bipush (-2), 2) := cod_of b76 dX7_guest_20
theorem t76_20 {d : Nat} {h : Hp} {Q : Pst} {ls : List Value} {st : List Value} : T d 76 20 ls st h Q ↔ T d 76 22 ls (.int (-2) :: st) h Q := T_bipushV c76_20 (by decide)
theorem c76_22 : cod 76 22 = some (.invokevirtual 66, 3) := cod_of b76 dX7_guest_22
theorem t76_22 {d : Nat} {h : Hp} {Q : Pst} {a0 : Int32} {a : Nat} {ls : List Value} (ho : isO (h.2.2 a) 6) : T (d + 1) 76 22 ls [.int a0, .ref a] h Q ↔ T d 116 0 [.ref a, .int a0, un] [] h (fun x h2 => T (d + 1) 76 25 ls (rl x []) h2 Q) := T_virtualR (as := [.int a0]) (r := []) m76 m116 c76_22 k7_66  rfl (by decide) rfl (by simp [wrd, Value.category]) (by simp [stk, Value.category]) rfl (by decide +kernel) ho
theorem c76_25 : cod 76 25 = some (.ireturn, 1) := cod_of b76 dX7_guest_25
theorem t76_25 {d : Nat} {h : Hp} {Q : Pst} {x : Int32} {ls : List Value} : T d 76 25 ls [.int x] h Q ↔ Q (some (.int x)) h := T_iretR m76 c76_25 rfl
theorem b77 : (mR 77).2.2.1 = cX7_house := by rw [m77]
theorem c77_0 : cod 77 0 = some (.iload_n 1, 1) := cod_of b77 dX7_house_0
theorem t77_0 {d : Nat} {h : Hp} {Q : Pst} {l0 l2 : Value} {x : Int32} {st : List Value} : T d 77 0 [l0, .int x, l2] st h Q ↔ T d 77 1 [l0, .int x, l2] (.int x :: st) h Q := T_iload_n c77_0 rfl
theorem c77_1 : cod 77 1 = some (.iconst 0, 1) := cod_of b77 dX7_house_1
theorem t77_1 {d : Nat} {h : Hp} {Q : Pst} {ls : List Value} {st : List Value} : T d 77 1 ls st h Q ↔ T d 77 2 ls (.int 0 :: st) h Q := T_iconstV c77_1 (by decide)
theorem c77_2 : cod 77 2 = some (.iconst 5, 1) := cod_of b77 dX7_house_2
theorem t77_2 {d : Nat} {h : Hp} {Q : Pst} {ls : List Value} {st : List Value} : T d 77 2 ls st h Q ↔ T d 77 3 ls (.int 5 :: st) h Q := T_iconstV c77_2 (by decide)
theorem c77_3 : cod 77 3 = some (.invokestatic 62, 3) := cod_of b77 dX7_house_3
theorem t77_3 {d : Nat} {h : Hp} {Q : Pst} {a0 a1 a2 : Int32} {ls : List Value} : T (d + 1) 77 3 ls [.int a2, .int a1, .int a0] h Q ↔ T d 118 0 [.int a0, .int a1, .int a2] [] h (fun x h2 => T (d + 1) 77 6 ls (rl x []) h2 Q) := T_staticR (as := [.int a0, .int a1, .int a2]) (r := []) m77 m118 c77_3 k7_62 (Or.inl rfl) rfl (by decide) rfl (by simp [wrd, Value.category]) (by simp [stk, Value.category]) rfl
theorem c77_6 : cod 77 6 = some (.ifCond .eq 13, 3) := cod_of b77 dX7_house_6
theorem t77_6 {d : Nat} {h : Hp} {Q : Pst} {x : Int32} {ls : List Value} {st : List Value} : T d 77 6 ls (.int x :: st) h Q ↔ (if x = 0 then T d 77 19 ls st h Q else T d 77 9 ls st h Q) := T_if_eq c77_6 (by decide)
theorem c77_9 : cod 77 9 = some (.iload_n 2, 1) := cod_of b77 dX7_house_9
theorem t77_9 {d : Nat} {h : Hp} {Q : Pst} {l0 l1 : Value} {x : Int32} {st : List Value} : T d 77 9 [l0, l1, .int x] st h Q ↔ T d 77 10 [l0, l1, .int x] (.int x :: st) h Q := T_iload_n c77_9 rfl
theorem c77_10 : cod 77 10 = some (.iconst 1, 1) := cod_of b77 dX7_house_10
theorem t77_10 {d : Nat} {h : Hp} {Q : Pst} {ls : List Value} {st : List Value} : T d 77 10 ls st h Q ↔ T d 77 11 ls (.int 1 :: st) h Q := T_iconstV c77_10 (by decide)
theorem c77_11 : cod 77 11 = some (.bipush 30, 2) := cod_of b77 dX7_house_11
theorem t77_11 {d : Nat} {h : Hp} {Q : Pst} {ls : List Value} {st : List Value} : T d 77 11 ls st h Q ↔ T d 77 13 ls (.int 30 :: st) h Q := T_bipushV c77_11 (by decide)
theorem c77_13 : cod 77 13 = some (.invokestatic 62, 3) := cod_of b77 dX7_house_13
theorem t77_13 {d : Nat} {h : Hp} {Q : Pst} {a0 a1 a2 : Int32} {ls : List Value} : T (d + 1) 77 13 ls [.int a2, .int a1, .int a0] h Q ↔ T d 118 0 [.int a0, .int a1, .int a2] [] h (fun x h2 => T (d + 1) 77 16 ls (rl x []) h2 Q) := T_staticR (as := [.int a0, .int a1, .int a2]) (r := []) m77 m118 c77_13 k7_62 (Or.inl rfl) rfl (by decide) rfl (by simp [wrd, Value.category]) (by simp [stk, Value.category]) rfl
theorem c77_16 : cod 77 16 = some (.ifCond .ne 10, 3) := cod_of b77 dX7_house_16
theorem t77_16 {d : Nat} {h : Hp} {Q : Pst} {x : Int32} {ls : List Value} {st : List Value} : T d 77 16 ls (.int x :: st) h Q ↔ (if ¬ x = 0 then T d 77 26 ls st h Q else T d 77 19 ls st h Q) := T_if_ne c77_16 (by decide)
theorem c77_26 : cod 77 26 = some (.aload_n 0, 1) := cod_of b77 dX7_house_26
theorem t77_26 {d : Nat} {h : Hp} {Q : Pst} {l1 l2 : Value} {x : Nat} {st : List Value} : T d 77 26 [.ref x, l1, l2] st h Q ↔ T d 77 27 [.ref x, l1, l2] (.ref x :: st) h Q := T_aload_n c77_26 rfl
theorem c77_27 : cod 77 27 = some (.getfield 10, 3) := cod_of b77 dX7_house_27
theorem t77_27 {d : Nat} {h : Hp} {Q : Pst} {a : Nat} {ls : List Value} {st : List Value} : T d 77 27 ls (.ref a :: st) h Q ↔ gF (h.2.2 a) 6 0 (fun v => T d 77 30 ls (v :: st) h Q) := T_getfieldR m77 c77_27 f7_10
theorem c77_30 : cod 77 30 = some (.getfield 81, 3) := cod_of b77 dX7_house_30
theorem t77_30 {d : Nat} {h : Hp} {Q : Pst} {a : Nat} {ls : List Value} {st : List Value} : T d 77 30 ls (.ref a :: st) h Q ↔ gF (h.2.2 a) 5 11 (fun v => T d 77 33 ls (v :: st) h Q) := T_getfieldR m77 c77_30 f7_81
theorem c77_33 : cod 77 33 = some (.iconst 4, 1) := cod_of b77 dX7_house_33
theorem t77_33 {d : Nat} {h : Hp} {Q : Pst} {ls : List Value} {st : List Value} : T d 77 33 ls st h Q ↔ T d 77 34 ls (.int 4 :: st) h Q := T_iconstV c77_33 (by decide)
theorem c77_34 : cod 77 34 = some (.if_icmp .lt 10, 3) := cod_of b77 dX7_house_34
theorem t77_34 {d : Nat} {h : Hp} {Q : Pst} {x y : Int32} {ls : List Value} {st : List Value} : T d 77 34 ls (.int y :: .int x :: st) h Q ↔ (if x < y then T d 77 44 ls st h Q else T d 77 37 ls st h Q) := T_icmp_lt c77_34 (by decide)
theorem c77_37 : cod 77 37 = some (.aload_n 0, 1) := cod_of b77 dX7_house_37
theorem t77_37 {d : Nat} {h : Hp} {Q : Pst} {l1 l2 : Value} {x : Nat} {st : List Value} : T d 77 37 [.ref x, l1, l2] st h Q ↔ T d 77 38 [.ref x, l1, l2] (.ref x :: st) h Q := T_aload_n c77_37 rfl
theorem c77_38 : cod 77 38 = some (.bipush (-4), 2) := cod_of b77 dX7_house_38
theorem t77_38 {d : Nat} {h : Hp} {Q : Pst} {ls : List Value} {st : List Value} : T d 77 38 ls st h Q ↔ T d 77 40 ls (.int (-4) :: st) h Q := T_bipushV c77_38 (by decide)
theorem c77_40 : cod 77 40 = some (.invokevirtual 66, 3) := cod_of b77 dX7_house_40
theorem t77_40 {d : Nat} {h : Hp} {Q : Pst} {a0 : Int32} {a : Nat} {ls : List Value} (ho : isO (h.2.2 a) 6) : T (d + 1) 77 40 ls [.int a0, .ref a] h Q ↔ T d 116 0 [.ref a, .int a0, un] [] h (fun x h2 => T (d + 1) 77 43 ls (rl x []) h2 Q) := T_virtualR (as := [.int a0]) (r := []) m77 m116 c77_40 k7_66  rfl (by decide) rfl (by simp [wrd, Value.category]) (by simp [stk, Value.category]) rfl (by decide +kernel) ho
theorem c77_43 : cod 77 43 = some (.ireturn, 1) := cod_of b77 dX7_house_43
theorem t77_43 {d : Nat} {h : Hp} {Q : Pst} {x : Int32} {ls : List Value} : T d 77 43 ls [.int x] h Q ↔ Q (some (.int x)) h := T_iretR m77 c77_43 rfl
theorem c77_44 : cod 77 44 = some (.aload_n 0, 1) := cod_of b77 dX7_house_44
theorem t77_44 {d : Nat} {h : Hp} {Q : Pst} {l1 l2 : Value} {x : Nat} {st : List Value} : T d 77 44 [.ref x, l1, l2] st h Q ↔ T d 77 45 [.ref x, l1, l2] (.ref x :: st) h Q := T_aload_n c77_44 rfl
theorem c77_45 : cod 77 45 = some (.getfield 10, 3) := cod_of b77 dX7_house_45
theorem t77_45 {d : Nat} {h : Hp} {Q : Pst} {a : Nat} {ls : List Value} {st : List Value} : T d 77 45 ls (.ref a :: st) h Q ↔ gF (h.2.2 a) 6 0 (fun v => T d 77 48 ls (v :: st) h Q) := T_getfieldR m77 c77_45 f7_10
theorem c77_48 : cod 77 48 = some (.iload_n 1, 1) := cod_of b77 dX7_house_48
theorem t77_48 {d : Nat} {h : Hp} {Q : Pst} {l0 l2 : Value} {x : Int32} {st : List Value} : T d 77 48 [l0, .int x, l2] st h Q ↔ T d 77 49 [l0, .int x, l2] (.int x :: st) h Q := T_iload_n c77_48 rfl
theorem c77_49 : cod 77 49 = some (.iload_n 2, 1) := cod_of b77 dX7_house_49
theorem t77_49 {d : Nat} {h : Hp} {Q : Pst} {l0 l1 : Value} {x : Int32} {st : List Value} : T d 77 49 [l0, l1, .int x] st h Q ↔ T d 77 50 [l0, l1, .int x] (.int x :: st) h Q := T_iload_n c77_49 rfl
theorem c77_50 : cod 77 50 = some (.invokevirtual 84, 3) := cod_of b77 dX7_house_50
theorem t77_50 {d : Nat} {h : Hp} {Q : Pst} {a0 a1 : Int32} {a : Nat} {ls : List Value} (ho : isO (h.2.2 a) 5) : T (d + 1) 77 50 ls [.int a1, .int a0, .ref a] h Q ↔ T d 58 0 [.ref a, .int a0, .int a1] [] h (fun x h2 => T (d + 1) 77 53 ls (rl x []) h2 Q) := T_virtualR (as := [.int a0, .int a1]) (r := []) m77 m58 c77_50 k7_84  rfl (by decide) rfl (by simp [wrd, Value.category]) (by simp [stk, Value.category]) rfl (by decide +kernel) ho
theorem c77_53 : cod 77 53 = some (.ireturn, 1) := cod_of b77 dX7_house_53
theorem t77_53 {d : Nat} {h : Hp} {Q : Pst} {x : Int32} {ls : List Value} : T d 77 53 ls [.int x] h Q ↔ Q (some (.int x)) h := T_iretR m77 c77_53 rfl
theorem c77_19 : cod 77 19 = some (.aload_n 0, 1) := cod_of b77 dX7_house_19
theorem t77_19 {d : Nat} {h : Hp} {Q : Pst} {l1 l2 : Value} {x : Nat} {st : List Value} : T d 77 19 [.ref x, l1, l2] st h Q ↔ T d 77 20 [.ref x, l1, l2] (.ref x :: st) h Q := T_aload_n c77_19 rfl
theorem c77_20 : cod 77 20 = some (.bipush (-2), 2) := cod_of b77 dX7_house_20
theorem t77_20 {d : Nat} {h : Hp} {Q : Pst} {ls : List Value} {st : List Value} : T d 77 20 ls st h Q ↔ T d 77 22 ls (.int (-2) :: st) h Q := T_bipushV c77_20 (by decide)
theorem c77_22 : cod 77 22 = some (.invokevirtual 66, 3) := cod_of b77 dX7_house_22
theorem t77_22 {d : Nat} {h : Hp} {Q : Pst} {a0 : Int32} {a : Nat} {ls : List Value} (ho : isO (h.2.2 a) 6) : T (d + 1) 77 22 ls [.int a0, .ref a] h Q ↔ T d 116 0 [.ref a, .int a0, un] [] h (fun x h2 => T (d + 1) 77 25 ls (rl x []) h2 Q) := T_virtualR (as := [.int a0]) (r := []) m77 m116 c77_22 k7_66  rfl (by decide) rfl (by simp [wrd, Value.category]) (by simp [stk, Value.category]) rfl (by decide +kernel) ho
theorem c77_25 : cod 77 25 = some (.ireturn, 1) := cod_of b77 dX7_house_25
theorem t77_25 {d : Nat} {h : Hp} {Q : Pst} {x : Int32} {ls : List Value} : T d 77 25 ls [.int x] h Q ↔ Q (some (.int x)) h := T_iretR m77 c77_25 rfl
theorem b78 : (mR 78).2.2.1 = cX7_type := by rw [m78]
theorem c78_0 : cod 78 0 = some (.iload_n 1, 1) := cod_of b78 dX7_type_0
theorem t78_0 {d : Nat} {h : Hp} {Q : Pst} {l0 : Value} {x : Int32} {st : List Value} : T d 78 0 [l0, .int x] st h Q ↔ T d 78 1 [l0, .int x] (.int x :: st) h Q := T_iload_n c78_0 rfl
theorem c78_1 : cod 78 1 = some (.iconst 0, 1) := cod_of b78 dX7_type_1
theorem t78_1 {d : Nat} {h : Hp} {Q : Pst} {ls : List Value} {st : List Value} : T d 78 1 ls st h Q ↔ T d 78 2 ls (.int 0 :: st) h Q := T_iconstV c78_1 (by decide)
theorem c78_2 : cod 78 2 = some (.bipush 127, 2) := cod_of b78 dX7_type_2
theorem t78_2 {d : Nat} {h : Hp} {Q : Pst} {ls : List Value} {st : List Value} : T d 78 2 ls st h Q ↔ T d 78 4 ls (.int 127 :: st) h Q := T_bipushV c78_2 (by decide)
theorem c78_4 : cod 78 4 = some (.invokestatic 62, 3) := cod_of b78 dX7_type_4
theorem t78_4 {d : Nat} {h : Hp} {Q : Pst} {a0 a1 a2 : Int32} {ls : List Value} : T (d + 1) 78 4 ls [.int a2, .int a1, .int a0] h Q ↔ T d 118 0 [.int a0, .int a1, .int a2] [] h (fun x h2 => T (d + 1) 78 7 ls (rl x []) h2 Q) := T_staticR (as := [.int a0, .int a1, .int a2]) (r := []) m78 m118 c78_4 k7_62 (Or.inl rfl) rfl (by decide) rfl (by simp [wrd, Value.category]) (by simp [stk, Value.category]) rfl
theorem c78_7 : cod 78 7 = some (.ifCond .ne 10, 3) := cod_of b78 dX7_type_7
theorem t78_7 {d : Nat} {h : Hp} {Q : Pst} {x : Int32} {ls : List Value} {st : List Value} : T d 78 7 ls (.int x :: st) h Q ↔ (if ¬ x = 0 then T d 78 17 ls st h Q else T d 78 10 ls st h Q) := T_if_ne c78_7 (by decide)
theorem c78_10 : cod 78 10 = some (.aload_n 0, 1) := cod_of b78 dX7_type_10
theorem t78_10 {d : Nat} {h : Hp} {Q : Pst} {l1 : Value} {x : Nat} {st : List Value} : T d 78 10 [.ref x, l1] st h Q ↔ T d 78 11 [.ref x, l1] (.ref x :: st) h Q := T_aload_n c78_10 rfl
theorem c78_11 : cod 78 11 = some (.bipush (-2), 2) := cod_of b78 dX7_type_11
theorem t78_11 {d : Nat} {h : Hp} {Q : Pst} {ls : List Value} {st : List Value} : T d 78 11 ls st h Q ↔ T d 78 13 ls (.int (-2) :: st) h Q := T_bipushV c78_11 (by decide)
theorem c78_13 : cod 78 13 = some (.invokevirtual 66, 3) := cod_of b78 dX7_type_13
theorem t78_13 {d : Nat} {h : Hp} {Q : Pst} {a0 : Int32} {a : Nat} {ls : List Value} (ho : isO (h.2.2 a) 6) : T (d + 1) 78 13 ls [.int a0, .ref a] h Q ↔ T d 116 0 [.ref a, .int a0, un] [] h (fun x h2 => T (d + 1) 78 16 ls (rl x []) h2 Q) := T_virtualR (as := [.int a0]) (r := []) m78 m116 c78_13 k7_66  rfl (by decide) rfl (by simp [wrd, Value.category]) (by simp [stk, Value.category]) rfl (by decide +kernel) ho
theorem c78_16 : cod 78 16 = some (.ireturn, 1) := cod_of b78 dX7_type_16
theorem t78_16 {d : Nat} {h : Hp} {Q : Pst} {x : Int32} {ls : List Value} : T d 78 16 ls [.int x] h Q ↔ Q (some (.int x)) h := T_iretR m78 c78_16 rfl
theorem c78_17 : cod 78 17 = some (.aload_n 0, 1) := cod_of b78 dX7_type_17
theorem t78_17 {d : Nat} {h : Hp} {Q : Pst} {l1 : Value} {x : Nat} {st : List Value} : T d 78 17 [.ref x, l1] st h Q ↔ T d 78 18 [.ref x, l1] (.ref x :: st) h Q := T_aload_n c78_17 rfl
theorem c78_18 : cod 78 18 = some (.getfield 26, 3) := cod_of b78 dX7_type_18
theorem t78_18 {d : Nat} {h : Hp} {Q : Pst} {a : Nat} {ls : List Value} {st : List Value} : T d 78 18 ls (.ref a :: st) h Q ↔ gF (h.2.2 a) 6 3 (fun v => T d 78 21 ls (v :: st) h Q) := T_getfieldR m78 c78_18 f7_26
theorem c78_21 : cod 78 21 = some (.getfield 87, 3) := cod_of b78 dX7_type_21
theorem t78_21 {d : Nat} {h : Hp} {Q : Pst} {a : Nat} {ls : List Value} {st : List Value} : T d 78 21 ls (.ref a :: st) h Q ↔ gF (h.2.2 a) 2 1 (fun v => T d 78 24 ls (v :: st) h Q) := T_getfieldR m78 c78_21 f7_87
theorem c78_24 : cod 78 24 = some (.sipush 150, 3) := cod_of b78 dX7_type_24
theorem t78_24 {d : Nat} {h : Hp} {Q : Pst} {ls : List Value} {st : List Value} : T d 78 24 ls st h Q ↔ T d 78 27 ls (.int 150 :: st) h Q := T_sipushV c78_24 (by decide)
theorem c78_27 : cod 78 27 = some (.if_icmp .lt 10, 3) := cod_of b78 dX7_type_27
theorem t78_27 {d : Nat} {h : Hp} {Q : Pst} {x y : Int32} {ls : List Value} {st : List Value} : T d 78 27 ls (.int y :: .int x :: st) h Q ↔ (if x < y then T d 78 37 ls st h Q else T d 78 30 ls st h Q) := T_icmp_lt c78_27 (by decide)
theorem c78_30 : cod 78 30 = some (.aload_n 0, 1) := cod_of b78 dX7_type_30
theorem t78_30 {d : Nat} {h : Hp} {Q : Pst} {l1 : Value} {x : Nat} {st : List Value} : T d 78 30 [.ref x, l1] st h Q ↔ T d 78 31 [.ref x, l1] (.ref x :: st) h Q := T_aload_n c78_30 rfl
theorem c78_31 : cod 78 31 = some (.bipush (-4), 2) := cod_of b78 dX7_type_31
theorem t78_31 {d : Nat} {h : Hp} {Q : Pst} {ls : List Value} {st : List Value} : T d 78 31 ls st h Q ↔ T d 78 33 ls (.int (-4) :: st) h Q := T_bipushV c78_31 (by decide)
theorem c78_33 : cod 78 33 = some (.invokevirtual 66, 3) := cod_of b78 dX7_type_33
theorem t78_33 {d : Nat} {h : Hp} {Q : Pst} {a0 : Int32} {a : Nat} {ls : List Value} (ho : isO (h.2.2 a) 6) : T (d + 1) 78 33 ls [.int a0, .ref a] h Q ↔ T d 116 0 [.ref a, .int a0, un] [] h (fun x h2 => T (d + 1) 78 36 ls (rl x []) h2 Q) := T_virtualR (as := [.int a0]) (r := []) m78 m116 c78_33 k7_66  rfl (by decide) rfl (by simp [wrd, Value.category]) (by simp [stk, Value.category]) rfl (by decide +kernel) ho
theorem c78_36 : cod 78 36 = some (.ireturn, 1) := cod_of b78 dX7_type_36
theorem t78_36 {d : Nat} {h : Hp} {Q : Pst} {x : Int32} {ls : List Value} : T d 78 36 ls [.int x] h Q ↔ Q (some (.int x)) h := T_iretR m78 c78_36 rfl
theorem c78_37 : cod 78 37 = some (.aload_n 0, 1) := cod_of b78 dX7_type_37
theorem t78_37 {d : Nat} {h : Hp} {Q : Pst} {l1 : Value} {x : Nat} {st : List Value} : T d 78 37 [.ref x, l1] st h Q ↔ T d 78 38 [.ref x, l1] (.ref x :: st) h Q := T_aload_n c78_37 rfl
theorem c78_38 : cod 78 38 = some (.getfield 26, 3) := cod_of b78 dX7_type_38
theorem t78_38 {d : Nat} {h : Hp} {Q : Pst} {a : Nat} {ls : List Value} {st : List Value} : T d 78 38 ls (.ref a :: st) h Q ↔ gF (h.2.2 a) 6 3 (fun v => T d 78 41 ls (v :: st) h Q) := T_getfieldR m78 c78_38 f7_26
theorem c78_41 : cod 78 41 = some (.iload_n 1, 1) := cod_of b78 dX7_type_41
theorem t78_41 {d : Nat} {h : Hp} {Q : Pst} {l0 : Value} {x : Int32} {st : List Value} : T d 78 41 [l0, .int x] st h Q ↔ T d 78 42 [l0, .int x] (.int x :: st) h Q := T_iload_n c78_41 rfl
theorem c78_42 : cod 78 42 = some (.invokevirtual 90, 3) := cod_of b78 dX7_type_42
theorem t78_42 {d : Nat} {h : Hp} {Q : Pst} {a0 : Int32} {a : Nat} {ls : List Value} (ho : isO (h.2.2 a) 2) : T (d + 1) 78 42 ls [.int a0, .ref a] h Q ↔ T d 19 0 [.ref a, .int a0] [] h (fun x h2 => T (d + 1) 78 45 ls (rl x []) h2 Q) := T_virtualR (as := [.int a0]) (r := []) m78 m19 c78_42 k7_90  rfl (by decide) rfl (by simp [wrd, Value.category]) (by simp [stk, Value.category]) rfl (by decide +kernel) ho
theorem c78_45 : cod 78 45 = some (.ireturn, 1) := cod_of b78 dX7_type_45
theorem t78_45 {d : Nat} {h : Hp} {Q : Pst} {x : Int32} {ls : List Value} : T d 78 45 ls [.int x] h Q ↔ Q (some (.int x)) h := T_iretR m78 c78_45 rfl
theorem b79 : (mR 79).2.2.1 = cX7_clear := by rw [m79]
theorem c79_0 : cod 79 0 = some (.aload_n 0, 1) := cod_of b79 dX7_clear_0
theorem t79_0 {d : Nat} {h : Hp} {Q : Pst} {l1 : Value} {x : Nat} {st : List Value} : T d 79 0 [.ref x, l1] st h Q ↔ T d 79 1 [.ref x, l1] (.ref x :: st) h Q := T_aload_n c79_0 rfl
theorem c79_1 : cod 79 1 = some (.getfield 26, 3) := cod_of b79 dX7_clear_1
theorem t79_1 {d : Nat} {h : Hp} {Q : Pst} {a : Nat} {ls : List Value} {st : List Value} : T d 79 1 ls (.ref a :: st) h Q ↔ gF (h.2.2 a) 6 3 (fun v => T d 79 4 ls (v :: st) h Q) := T_getfieldR m79 c79_1 f7_26
theorem c79_4 : cod 79 4 = some (.getfield 87, 3) := cod_of b79 dX7_clear_4
theorem t79_4 {d : Nat} {h : Hp} {Q : Pst} {a : Nat} {ls : List Value} {st : List Value} : T d 79 4 ls (.ref a :: st) h Q ↔ gF (h.2.2 a) 2 1 (fun v => T d 79 7 ls (v :: st) h Q) := T_getfieldR m79 c79_4 f7_87
theorem c79_7 : cod 79 7 = some (.istore_n 1, 1) := cod_of b79 dX7_clear_7
theorem t79_7 {d : Nat} {h : Hp} {Q : Pst} {l0 l1 : Value} {x : Int32} {st : List Value} : T d 79 7 [l0, l1] (.int x :: st) h Q ↔ T d 79 8 [kil l0, .int x] st h Q := T_istore_n c79_7 (Nat.le_of_ble_eq_true rfl)
theorem c79_8 : cod 79 8 = some (.aload_n 0, 1) := cod_of b79 dX7_clear_8
theorem t79_8 {d : Nat} {h : Hp} {Q : Pst} {l1 : Value} {x : Nat} {st : List Value} : T d 79 8 [.ref x, l1] st h Q ↔ T d 79 9 [.ref x, l1] (.ref x :: st) h Q := T_aload_n c79_8 rfl
theorem c79_9 : cod 79 9 = some (.getfield 26, 3) := cod_of b79 dX7_clear_9
theorem t79_9 {d : Nat} {h : Hp} {Q : Pst} {a : Nat} {ls : List Value} {st : List Value} : T d 79 9 ls (.ref a :: st) h Q ↔ gF (h.2.2 a) 6 3 (fun v => T d 79 12 ls (v :: st) h Q) := T_getfieldR m79 c79_9 f7_26
theorem c79_12 : cod 79 12 = some (.iconst 0, 1) := cod_of b79 dX7_clear_12
theorem t79_12 {d : Nat} {h : Hp} {Q : Pst} {ls : List Value} {st : List Value} : T d 79 12 ls st h Q ↔ T d 79 13 ls (.int 0 :: st) h Q := T_iconstV c79_12 (by decide)
theorem c79_13 : cod 79 13 = some (.putfield 87, 3) := cod_of b79 dX7_clear_13
theorem t79_13 {d : Nat} {h : Hp} {Q : Pst} {a : Nat} {x : Int32} {ls : List Value} {st : List Value} : T d 79 13 ls (.int x :: .ref a :: st) h Q ↔ pF (h.2.2 a) 2 1 (.int x) (fun cell => T d 79 16 ls st (hup h a cell) Q) := T_putfieldR m79 c79_13 f7_87 (by decide +kernel)
theorem c79_16 : cod 79 16 = some (.iload_n 1, 1) := cod_of b79 dX7_clear_16
theorem t79_16 {d : Nat} {h : Hp} {Q : Pst} {l0 : Value} {x : Int32} {st : List Value} : T d 79 16 [l0, .int x] st h Q ↔ T d 79 17 [l0, .int x] (.int x :: st) h Q := T_iload_n c79_16 rfl
theorem c79_17 : cod 79 17 = some (.ireturn, 1) := cod_of b79 dX7_clear_17
theorem t79_17 {d : Nat} {h : Hp} {Q : Pst} {x : Int32} {ls : List Value} : T d 79 17 ls [.int x] h Q ↔ Q (some (.int x)) h := T_iretR m79 c79_17 rfl
theorem b80 : (mR 80).2.2.1 = cX7_read := by rw [m80]
theorem c80_0 : cod 80 0 = some (.aload_n 0, 1) := cod_of b80 dX7_read_0
theorem t80_0 {d : Nat} {h : Hp} {Q : Pst} {l1 : Value} {x : Nat} {st : List Value} : T d 80 0 [.ref x, l1] st h Q ↔ T d 80 1 [.ref x, l1] (.ref x :: st) h Q := T_aload_n c80_0 rfl
theorem c80_1 : cod 80 1 = some (.getfield 16, 3) := cod_of b80 dX7_read_1
theorem t80_1 {d : Nat} {h : Hp} {Q : Pst} {a : Nat} {ls : List Value} {st : List Value} : T d 80 1 ls (.ref a :: st) h Q ↔ gF (h.2.2 a) 6 1 (fun v => T d 80 4 ls (v :: st) h Q) := T_getfieldR m80 c80_1 f7_16
theorem c80_4 : cod 80 4 = some (.iconst 0, 1) := cod_of b80 dX7_read_4
theorem t80_4 {d : Nat} {h : Hp} {Q : Pst} {ls : List Value} {st : List Value} : T d 80 4 ls st h Q ↔ T d 80 5 ls (.int 0 :: st) h Q := T_iconstV c80_4 (by decide)
theorem c80_5 : cod 80 5 = some (.invokevirtual 73, 3) := cod_of b80 dX7_read_5
theorem t80_5 {d : Nat} {h : Hp} {Q : Pst} {a0 : Int32} {a : Nat} {ls : List Value} (ho : isO (h.2.2 a) 5) : T (d + 1) 80 5 ls [.int a0, .ref a] h Q ↔ T d 53 0 [.ref a, .int a0] [] h (fun x h2 => T (d + 1) 80 8 ls (rl x []) h2 Q) := T_virtualR (as := [.int a0]) (r := []) m80 m53 c80_5 k7_73  rfl (by decide) rfl (by simp [wrd, Value.category]) (by simp [stk, Value.category]) rfl (by decide +kernel) ho
theorem c80_8 : cod 80 8 = some (.aload_n 0, 1) := cod_of b80 dX7_read_8
theorem t80_8 {d : Nat} {h : Hp} {Q : Pst} {l1 : Value} {x : Nat} {st : List Value} : T d 80 8 [.ref x, l1] st h Q ↔ T d 80 9 [.ref x, l1] (.ref x :: st) h Q := T_aload_n c80_8 rfl
theorem c80_9 : cod 80 9 = some (.getfield 26, 3) := cod_of b80 dX7_read_9
theorem t80_9 {d : Nat} {h : Hp} {Q : Pst} {a : Nat} {ls : List Value} {st : List Value} : T d 80 9 ls (.ref a :: st) h Q ↔ gF (h.2.2 a) 6 3 (fun v => T d 80 12 ls (v :: st) h Q) := T_getfieldR m80 c80_9 f7_26
theorem c80_12 : cod 80 12 = some (.iconst 0, 1) := cod_of b80 dX7_read_12
theorem t80_12 {d : Nat} {h : Hp} {Q : Pst} {ls : List Value} {st : List Value} : T d 80 12 ls st h Q ↔ T d 80 13 ls (.int 0 :: st) h Q := T_iconstV c80_12 (by decide)
theorem c80_13 : cod 80 13 = some (.putfield 93, 3) := cod_of b80 dX7_read_13
theorem t80_13 {d : Nat} {h : Hp} {Q : Pst} {a : Nat} {x : Int32} {ls : List Value} {st : List Value} : T d 80 13 ls (.int x :: .ref a :: st) h Q ↔ pF (h.2.2 a) 2 2 (.int x) (fun cell => T d 80 16 ls st (hup h a cell) Q) := T_putfieldR m80 c80_13 f7_93 (by decide +kernel)
theorem c80_16 : cod 80 16 = some (.iconst 0, 1) := cod_of b80 dX7_read_16
theorem t80_16 {d : Nat} {h : Hp} {Q : Pst} {ls : List Value} {st : List Value} : T d 80 16 ls st h Q ↔ T d 80 17 ls (.int 0 :: st) h Q := T_iconstV c80_16 (by decide)
theorem c80_17 : cod 80 17 = some (.istore_n 1, 1) := cod_of b80 dX7_read_17
theorem t80_17 {d : Nat} {h : Hp} {Q : Pst} {l0 l1 : Value} {x : Int32} {st : List Value} : T d 80 17 [l0, l1] (.int x :: st) h Q ↔ T d 80 18 [kil l0, .int x] st h Q := T_istore_n c80_17 (Nat.le_of_ble_eq_true rfl)
theorem c80_18 : cod 80 18 = some (.iload_n 1, 1) := cod_of b80 dX7_read_18
theorem t80_18 {d : Nat} {h : Hp} {Q : Pst} {l0 : Value} {x : Int32} {st : List Value} : T d 80 18 [l0, .int x] st h Q ↔ T d 80 19 [l0, .int x] (.int x :: st) h Q := T_iload_n c80_18 rfl
theorem c80_19 : cod 80 19 = some (.sipush 150, 3) := cod_of b80 dX7_read_19
theorem t80_19 {d : Nat} {h : Hp} {Q : Pst} {ls : List Value} {st : List Value} : T d 80 19 ls st h Q ↔ T d 80 22 ls (.int 150 :: st) h Q := T_sipushV c80_19 (by decide)
theorem c80_22 : cod 80 22 = some (.if_icmp .gt 88, 3) := cod_of b80 dX7_read_22
theorem t80_22 {d : Nat} {h : Hp} {Q : Pst} {x y : Int32} {ls : List Value} {st : List Value} : T d 80 22 ls (.int y :: .int x :: st) h Q ↔ (if y < x then T d 80 110 ls st h Q else T d 80 25 ls st h Q) := T_icmp_gt c80_22 (by decide)
theorem c80_25 : cod 80 25 = some (.aload_n 0, 1) := cod_of b80 dX7_read_25
theorem t80_25 {d : Nat} {h : Hp} {Q : Pst} {l1 : Value} {x : Nat} {st : List Value} : T d 80 25 [.ref x, l1] st h Q ↔ T d 80 26 [.ref x, l1] (.ref x :: st) h Q := T_aload_n c80_25 rfl
theorem c80_26 : cod 80 26 = some (.getfield 26, 3) := cod_of b80 dX7_read_26
theorem t80_26 {d : Nat} {h : Hp} {Q : Pst} {a : Nat} {ls : List Value} {st : List Value} : T d 80 26 ls (.ref a :: st) h Q ↔ gF (h.2.2 a) 6 3 (fun v => T d 80 29 ls (v :: st) h Q) := T_getfieldR m80 c80_26 f7_26
theorem c80_29 : cod 80 29 = some (.invokevirtual 96, 3) := cod_of b80 dX7_read_29
theorem t80_29 {d : Nat} {h : Hp} {Q : Pst} {a : Nat} {ls : List Value} (ho : isO (h.2.2 a) 2) : T (d + 1) 80 29 ls [.ref a] h Q ↔ T d 27 0 [.ref a, un] [] h (fun x h2 => T (d + 1) 80 32 ls (rl x []) h2 Q) := T_virtualR (as := []) (r := []) m80 m27 c80_29 k7_96  rfl (by decide) rfl (by simp [wrd, Value.category]) (by simp [stk, Value.category]) rfl (by decide +kernel) ho
theorem c80_32 : cod 80 32 = some (.iload_n 1, 1) := cod_of b80 dX7_read_32
theorem t80_32 {d : Nat} {h : Hp} {Q : Pst} {l0 : Value} {x : Int32} {st : List Value} : T d 80 32 [l0, .int x] st h Q ↔ T d 80 33 [l0, .int x] (.int x :: st) h Q := T_iload_n c80_32 rfl
theorem c80_33 : cod 80 33 = some (.ifCond .le 26, 3) := cod_of b80 dX7_read_33
theorem t80_33 {d : Nat} {h : Hp} {Q : Pst} {x : Int32} {ls : List Value} {st : List Value} : T d 80 33 ls (.int x :: st) h Q ↔ (if x ≤ 0 then T d 80 59 ls st h Q else T d 80 36 ls st h Q) := T_if_le c80_33 (by decide)
theorem c80_36 : cod 80 36 = some (.aload_n 0, 1) := cod_of b80 dX7_read_36
theorem t80_36 {d : Nat} {h : Hp} {Q : Pst} {l1 : Value} {x : Nat} {st : List Value} : T d 80 36 [.ref x, l1] st h Q ↔ T d 80 37 [.ref x, l1] (.ref x :: st) h Q := T_aload_n c80_36 rfl
theorem c80_37 : cod 80 37 = some (.getfield 26, 3) := cod_of b80 dX7_read_37
theorem t80_37 {d : Nat} {h : Hp} {Q : Pst} {a : Nat} {ls : List Value} {st : List Value} : T d 80 37 ls (.ref a :: st) h Q ↔ gF (h.2.2 a) 6 3 (fun v => T d 80 40 ls (v :: st) h Q) := T_getfieldR m80 c80_37 f7_26
theorem c80_40 : cod 80 40 = some (.getfield 99, 3) := cod_of b80 dX7_read_40
theorem t80_40 {d : Nat} {h : Hp} {Q : Pst} {a : Nat} {ls : List Value} {st : List Value} : T d 80 40 ls (.ref a :: st) h Q ↔ gF (h.2.2 a) 2 4 (fun v => T d 80 43 ls (v :: st) h Q) := T_getfieldR m80 c80_40 f7_99
theorem c80_43 : cod 80 43 = some (.ifCond .ne 16, 3) := cod_of b80 dX7_read_43
theorem t80_43 {d : Nat} {h : Hp} {Q : Pst} {x : Int32} {ls : List Value} {st : List Value} : T d 80 43 ls (.int x :: st) h Q ↔ (if ¬ x = 0 then T d 80 59 ls st h Q else T d 80 46 ls st h Q) := T_if_ne c80_43 (by decide)
theorem c80_46 : cod 80 46 = some (.aload_n 0, 1) := cod_of b80 dX7_read_46
theorem t80_46 {d : Nat} {h : Hp} {Q : Pst} {l1 : Value} {x : Nat} {st : List Value} : T d 80 46 [.ref x, l1] st h Q ↔ T d 80 47 [.ref x, l1] (.ref x :: st) h Q := T_aload_n c80_46 rfl
theorem c80_47 : cod 80 47 = some (.getfield 10, 3) := cod_of b80 dX7_read_47
theorem t80_47 {d : Nat} {h : Hp} {Q : Pst} {a : Nat} {ls : List Value} {st : List Value} : T d 80 47 ls (.ref a :: st) h Q ↔ gF (h.2.2 a) 6 0 (fun v => T d 80 50 ls (v :: st) h Q) := T_getfieldR m80 c80_47 f7_10
theorem c80_50 : cod 80 50 = some (.aload_n 0, 1) := cod_of b80 dX7_read_50
theorem t80_50 {d : Nat} {h : Hp} {Q : Pst} {l1 : Value} {x : Nat} {st : List Value} : T d 80 50 [.ref x, l1] st h Q ↔ T d 80 51 [.ref x, l1] (.ref x :: st) h Q := T_aload_n c80_50 rfl
theorem c80_51 : cod 80 51 = some (.getfield 16, 3) := cod_of b80 dX7_read_51
theorem t80_51 {d : Nat} {h : Hp} {Q : Pst} {a : Nat} {ls : List Value} {st : List Value} : T d 80 51 ls (.ref a :: st) h Q ↔ gF (h.2.2 a) 6 1 (fun v => T d 80 54 ls (v :: st) h Q) := T_getfieldR m80 c80_51 f7_16
theorem c80_54 : cod 80 54 = some (.invokevirtual 102, 3) := cod_of b80 dX7_read_54
theorem t80_54 {d : Nat} {h : Hp} {Q : Pst} {a0 a : Nat} {ls : List Value} (ho : isO (h.2.2 a) 5) : T (d + 1) 80 54 ls [.ref a0, .ref a] h Q ↔ T d 54 0 [.ref a, .ref a0] [] h (fun x h2 => T (d + 1) 80 57 ls (rl x []) h2 Q) := T_virtualR (as := [.ref a0]) (r := []) m80 m54 c80_54 k7_102  rfl (by decide) rfl (by simp [wrd, Value.category]) (by simp [stk, Value.category]) rfl (by decide +kernel) ho
theorem c80_57 : cod 80 57 = some (.iload_n 1, 1) := cod_of b80 dX7_read_57
theorem t80_57 {d : Nat} {h : Hp} {Q : Pst} {l0 : Value} {x : Int32} {st : List Value} : T d 80 57 [l0, .int x] st h Q ↔ T d 80 58 [l0, .int x] (.int x :: st) h Q := T_iload_n c80_57 rfl
theorem c80_58 : cod 80 58 = some (.ireturn, 1) := cod_of b80 dX7_read_58
theorem t80_58 {d : Nat} {h : Hp} {Q : Pst} {x : Int32} {ls : List Value} : T d 80 58 ls [.int x] h Q ↔ Q (some (.int x)) h := T_iretR m80 c80_58 rfl
theorem c80_59 : cod 80 59 = some (.aload_n 0, 1) := cod_of b80 dX7_read_59
theorem t80_59 {d : Nat} {h : Hp} {Q : Pst} {l1 : Value} {x : Nat} {st : List Value} : T d 80 59 [.ref x, l1] st h Q ↔ T d 80 60 [.ref x, l1] (.ref x :: st) h Q := T_aload_n c80_59 rfl
theorem c80_60 : cod 80 60 = some (.getfield 26, 3) := cod_of b80 dX7_read_60
theorem t80_60 {d : Nat} {h : Hp} {Q : Pst} {a : Nat} {ls : List Value} {st : List Value} : T d 80 60 ls (.ref a :: st) h Q ↔ gF (h.2.2 a) 6 3 (fun v => T d 80 63 ls (v :: st) h Q) := T_getfieldR m80 c80_60 f7_26
theorem c80_63 : cod 80 63 = some (.aload_n 0, 1) := cod_of b80 dX7_read_63
theorem t80_63 {d : Nat} {h : Hp} {Q : Pst} {l1 : Value} {x : Nat} {st : List Value} : T d 80 63 [.ref x, l1] st h Q ↔ T d 80 64 [.ref x, l1] (.ref x :: st) h Q := T_aload_n c80_63 rfl
theorem c80_64 : cod 80 64 = some (.getfield 16, 3) := cod_of b80 dX7_read_64
theorem t80_64 {d : Nat} {h : Hp} {Q : Pst} {a : Nat} {ls : List Value} {st : List Value} : T d 80 64 ls (.ref a :: st) h Q ↔ gF (h.2.2 a) 6 1 (fun v => T d 80 67 ls (v :: st) h Q) := T_getfieldR m80 c80_64 f7_16
theorem c80_67 : cod 80 67 = some (.iload_n 1, 1) := cod_of b80 dX7_read_67
theorem t80_67 {d : Nat} {h : Hp} {Q : Pst} {l0 : Value} {x : Int32} {st : List Value} : T d 80 67 [l0, .int x] st h Q ↔ T d 80 68 [l0, .int x] (.int x :: st) h Q := T_iload_n c80_67 rfl
theorem c80_68 : cod 80 68 = some (.ifCond .ne 7, 3) := cod_of b80 dX7_read_68
theorem t80_68 {d : Nat} {h : Hp} {Q : Pst} {x : Int32} {ls : List Value} {st : List Value} : T d 80 68 ls (.int x :: st) h Q ↔ (if ¬ x = 0 then T d 80 75 ls st h Q else T d 80 71 ls st h Q) := T_if_ne c80_68 (by decide)
theorem c80_71 : cod 80 71 = some (.iconst 1, 1) := cod_of b80 dX7_read_71
theorem t80_71 {d : Nat} {h : Hp} {Q : Pst} {ls : List Value} {st : List Value} : T d 80 71 ls st h Q ↔ T d 80 72 ls (.int 1 :: st) h Q := T_iconstV c80_71 (by decide)
theorem c80_72 : cod 80 72 = some (.goto 4, 3) := cod_of b80 dX7_read_72
theorem t80_72 {d : Nat} {h : Hp} {Q : Pst} {ls : List Value} {st : List Value} : T d 80 72 ls st h Q ↔ T d 80 76 ls st h Q := T_goto c80_72 (by decide)
theorem c80_76 : cod 80 76 = some (.invokevirtual 106, 3) := cod_of b80 dX7_read_76
theorem t80_76 {d : Nat} {h : Hp} {Q : Pst} {a0 a : Nat} {a1 : Int32} {ls : List Value} (ho : isO (h.2.2 a) 2) : T (d + 1) 80 76 ls [.int a1, .ref a0, .ref a] h Q ↔ T d 20 0 [.ref a, .ref a0, .int a1] [] h (fun x h2 => T (d + 1) 80 79 ls (rl x []) h2 Q) := T_virtualR (as := [.ref a0, .int a1]) (r := []) m80 m20 c80_76 k7_106  rfl (by decide) rfl (by simp [wrd, Value.category]) (by simp [stk, Value.category]) rfl (by decide +kernel) ho
theorem c80_79 : cod 80 79 = some (.ifCond .ne 14, 3) := cod_of b80 dX7_read_79
theorem t80_79 {d : Nat} {h : Hp} {Q : Pst} {x : Int32} {ls : List Value} {st : List Value} : T d 80 79 ls (.int x :: st) h Q ↔ (if ¬ x = 0 then T d 80 93 ls st h Q else T d 80 82 ls st h Q) := T_if_ne c80_79 (by decide)
theorem c80_82 : cod 80 82 = some (.bipush (-10), 2) := cod_of b80 dX7_read_82
theorem t80_82 {d : Nat} {h : Hp} {Q : Pst} {ls : List Value} {st : List Value} : T d 80 82 ls st h Q ↔ T d 80 84 ls (.int (-10) :: st) h Q := T_bipushV c80_82 (by decide)
theorem c80_84 : cod 80 84 = some (.aload_n 0, 1) := cod_of b80 dX7_read_84
theorem t80_84 {d : Nat} {h : Hp} {Q : Pst} {l1 : Value} {x : Nat} {st : List Value} : T d 80 84 [.ref x, l1] st h Q ↔ T d 80 85 [.ref x, l1] (.ref x :: st) h Q := T_aload_n c80_84 rfl
theorem c80_85 : cod 80 85 = some (.getfield 26, 3) := cod_of b80 dX7_read_85
theorem t80_85 {d : Nat} {h : Hp} {Q : Pst} {a : Nat} {ls : List Value} {st : List Value} : T d 80 85 ls (.ref a :: st) h Q ↔ gF (h.2.2 a) 6 3 (fun v => T d 80 88 ls (v :: st) h Q) := T_getfieldR m80 c80_85 f7_26
theorem c80_88 : cod 80 88 = some (.getfield 110, 3) := cod_of b80 dX7_read_88
theorem t80_88 {d : Nat} {h : Hp} {Q : Pst} {a : Nat} {ls : List Value} {st : List Value} : T d 80 88 ls (.ref a :: st) h Q ↔ gF (h.2.2 a) 2 3 (fun v => T d 80 91 ls (v :: st) h Q) := T_getfieldR m80 c80_88 f7_110
theorem c80_91 : cod 80 91 = some (.isub, 1) := cod_of b80 dX7_read_91
theorem t80_91 {d : Nat} {h : Hp} {Q : Pst} {x y : Int32} {ls : List Value} {st : List Value} : T d 80 91 ls (.int y :: .int x :: st) h Q ↔ T d 80 92 ls (.int (x - y) :: st) h Q := T_isub c80_91
theorem c80_92 : cod 80 92 = some (.ireturn, 1) := cod_of b80 dX7_read_92
theorem t80_92 {d : Nat} {h : Hp} {Q : Pst} {x : Int32} {ls : List Value} : T d 80 92 ls [.int x] h Q ↔ Q (some (.int x)) h := T_iretR m80 c80_92 rfl
theorem c80_93 : cod 80 93 = some (.aload_n 0, 1) := cod_of b80 dX7_read_93
theorem t80_93 {d : Nat} {h : Hp} {Q : Pst} {l1 : Value} {x : Nat} {st : List Value} : T d 80 93 [.ref x, l1] st h Q ↔ T d 80 94 [.ref x, l1] (.ref x :: st) h Q := T_aload_n c80_93 rfl
theorem c80_94 : cod 80 94 = some (.getfield 26, 3) := cod_of b80 dX7_read_94
theorem t80_94 {d : Nat} {h : Hp} {Q : Pst} {a : Nat} {ls : List Value} {st : List Value} : T d 80 94 ls (.ref a :: st) h Q ↔ gF (h.2.2 a) 6 3 (fun v => T d 80 97 ls (v :: st) h Q) := T_getfieldR m80 c80_94 f7_26
theorem c80_97 : cod 80 97 = some (.aload_n 0, 1) := cod_of b80 dX7_read_97
theorem t80_97 {d : Nat} {h : Hp} {Q : Pst} {l1 : Value} {x : Nat} {st : List Value} : T d 80 97 [.ref x, l1] st h Q ↔ T d 80 98 [.ref x, l1] (.ref x :: st) h Q := T_aload_n c80_97 rfl
theorem c80_98 : cod 80 98 = some (.getfield 16, 3) := cod_of b80 dX7_read_98
theorem t80_98 {d : Nat} {h : Hp} {Q : Pst} {a : Nat} {ls : List Value} {st : List Value} : T d 80 98 ls (.ref a :: st) h Q ↔ gF (h.2.2 a) 6 1 (fun v => T d 80 101 ls (v :: st) h Q) := T_getfieldR m80 c80_98 f7_16
theorem c80_101 : cod 80 101 = some (.invokevirtual 113, 3) := cod_of b80 dX7_read_101
theorem t80_101 {d : Nat} {h : Hp} {Q : Pst} {a0 a : Nat} {ls : List Value} (ho : isO (h.2.2 a) 2) : T (d + 1) 80 101 ls [.ref a0, .ref a] h Q ↔ T d 26 0 [.ref a, .ref a0] [] h (fun x h2 => T (d + 1) 80 104 ls (rl x []) h2 Q) := T_virtualR (as := [.ref a0]) (r := []) m80 m26 c80_101 k7_113  rfl (by decide) rfl (by simp [wrd, Value.category]) (by simp [stk, Value.category]) rfl (by decide +kernel) ho
theorem c80_104 : cod 80 104 = some (.iinc 1 1, 3) := cod_of b80 dX7_read_104
theorem t80_104 {d : Nat} {h : Hp} {Q : Pst} {l0 : Value} {x : Int32} {st : List Value} : T d 80 104 [l0, .int x] st h Q ↔ T d 80 107 [kil l0, .int (x + 1)] st h Q := T_iincV c80_104 rfl (Nat.le_of_ble_eq_true rfl) (by decide) rfl
theorem c80_107 : cod 80 107 = some (.goto (-89), 3) := cod_of b80 dX7_read_107
theorem t80_107 {d : Nat} {h : Hp} {Q : Pst} {ls : List Value} {st : List Value} : T d 80 107 ls st h Q ↔ T d 80 18 ls st h Q := T_goto c80_107 (by decide)
theorem c80_75 : cod 80 75 = some (.iconst 0, 1) := cod_of b80 dX7_read_75
theorem t80_75 {d : Nat} {h : Hp} {Q : Pst} {ls : List Value} {st : List Value} : T d 80 75 ls st h Q ↔ T d 80 76 ls (.int 0 :: st) h Q := T_iconstV c80_75 (by decide)
theorem c80_110 : cod 80 110 = some (.bipush (-10), 2) := cod_of b80 dX7_read_110
theorem t80_110 {d : Nat} {h : Hp} {Q : Pst} {ls : List Value} {st : List Value} : T d 80 110 ls st h Q ↔ T d 80 112 ls (.int (-10) :: st) h Q := T_bipushV c80_110 (by decide)
theorem c80_112 : cod 80 112 = some (.aload_n 0, 1) := cod_of b80 dX7_read_112
theorem t80_112 {d : Nat} {h : Hp} {Q : Pst} {l1 : Value} {x : Nat} {st : List Value} : T d 80 112 [.ref x, l1] st h Q ↔ T d 80 113 [.ref x, l1] (.ref x :: st) h Q := T_aload_n c80_112 rfl
theorem c80_113 : cod 80 113 = some (.getfield 26, 3) := cod_of b80 dX7_read_113
theorem t80_113 {d : Nat} {h : Hp} {Q : Pst} {a : Nat} {ls : List Value} {st : List Value} : T d 80 113 ls (.ref a :: st) h Q ↔ gF (h.2.2 a) 6 3 (fun v => T d 80 116 ls (v :: st) h Q) := T_getfieldR m80 c80_113 f7_26
theorem c80_116 : cod 80 116 = some (.getfield 87, 3) := cod_of b80 dX7_read_116
theorem t80_116 {d : Nat} {h : Hp} {Q : Pst} {a : Nat} {ls : List Value} {st : List Value} : T d 80 116 ls (.ref a :: st) h Q ↔ gF (h.2.2 a) 2 1 (fun v => T d 80 119 ls (v :: st) h Q) := T_getfieldR m80 c80_116 f7_87
theorem c80_119 : cod 80 119 = some (.isub, 1) := cod_of b80 dX7_read_119
theorem t80_119 {d : Nat} {h : Hp} {Q : Pst} {x y : Int32} {ls : List Value} {st : List Value} : T d 80 119 ls (.int y :: .int x :: st) h Q ↔ T d 80 120 ls (.int (x - y) :: st) h Q := T_isub c80_119
theorem c80_120 : cod 80 120 = some (.ireturn, 1) := cod_of b80 dX7_read_120
theorem t80_120 {d : Nat} {h : Hp} {Q : Pst} {x : Int32} {ls : List Value} : T d 80 120 ls [.int x] h Q ↔ Q (some (.int x)) h := T_iretR m80 c80_120 rfl
theorem b81 : (mR 81).2.2.1 = cX7_calls := by rw [m81]
theorem c81_0 : cod 81 0 = some (.aload_n 0, 1) := cod_of b81 dX7_calls_0
theorem t81_0 {d : Nat} {h : Hp} {Q : Pst} {l1 l2 : Value} {x : Nat} {st : List Value} : T d 81 0 [.ref x, l1, l2] st h Q ↔ T d 81 1 [.ref x, l1, l2] (.ref x :: st) h Q := T_aload_n c81_0 rfl
theorem c81_1 : cod 81 1 = some (.getfield 10, 3) := cod_of b81 dX7_calls_1
theorem t81_1 {d : Nat} {h : Hp} {Q : Pst} {a : Nat} {ls : List Value} {st : List Value} : T d 81 1 ls (.ref a :: st) h Q ↔ gF (h.2.2 a) 6 0 (fun v => T d 81 4 ls (v :: st) h Q) := T_getfieldR m81 c81_1 f7_10
theorem c81_4 : cod 81 4 = some (.iload_n 1, 1) := cod_of b81 dX7_calls_4
theorem t81_4 {d : Nat} {h : Hp} {Q : Pst} {l0 l2 : Value} {x : Int32} {st : List Value} : T d 81 4 [l0, .int x, l2] st h Q ↔ T d 81 5 [l0, .int x, l2] (.int x :: st) h Q := T_iload_n c81_4 rfl
theorem c81_5 : cod 81 5 = some (.invokevirtual 116, 3) := cod_of b81 dX7_calls_5
theorem t81_5 {d : Nat} {h : Hp} {Q : Pst} {a0 : Int32} {a : Nat} {ls : List Value} (ho : isO (h.2.2 a) 5) : T (d + 1) 81 5 ls [.int a0, .ref a] h Q ↔ T d 55 0 [.ref a, .int a0] [] h (fun x h2 => T (d + 1) 81 8 ls (rl x []) h2 Q) := T_virtualR (as := [.int a0]) (r := []) m81 m55 c81_5 k7_116  rfl (by decide) rfl (by simp [wrd, Value.category]) (by simp [stk, Value.category]) rfl (by decide +kernel) ho
theorem c81_8 : cod 81 8 = some (.ifCond .eq 14, 3) := cod_of b81 dX7_calls_8
theorem t81_8 {d : Nat} {h : Hp} {Q : Pst} {x : Int32} {ls : List Value} {st : List Value} : T d 81 8 ls (.int x :: st) h Q ↔ (if x = 0 then T d 81 22 ls st h Q else T d 81 11 ls st h Q) := T_if_eq c81_8 (by decide)
theorem c81_11 : cod 81 11 = some (.aload_n 0, 1) := cod_of b81 dX7_calls_11
theorem t81_11 {d : Nat} {h : Hp} {Q : Pst} {l1 l2 : Value} {x : Nat} {st : List Value} : T d 81 11 [.ref x, l1, l2] st h Q ↔ T d 81 12 [.ref x, l1, l2] (.ref x :: st) h Q := T_aload_n c81_11 rfl
theorem c81_12 : cod 81 12 = some (.getfield 10, 3) := cod_of b81 dX7_calls_12
theorem t81_12 {d : Nat} {h : Hp} {Q : Pst} {a : Nat} {ls : List Value} {st : List Value} : T d 81 12 ls (.ref a :: st) h Q ↔ gF (h.2.2 a) 6 0 (fun v => T d 81 15 ls (v :: st) h Q) := T_getfieldR m81 c81_12 f7_10
theorem c81_15 : cod 81 15 = some (.iload_n 2, 1) := cod_of b81 dX7_calls_15
theorem t81_15 {d : Nat} {h : Hp} {Q : Pst} {l0 l1 : Value} {x : Int32} {st : List Value} : T d 81 15 [l0, l1, .int x] st h Q ↔ T d 81 16 [l0, l1, .int x] (.int x :: st) h Q := T_iload_n c81_15 rfl
theorem c81_16 : cod 81 16 = some (.invokevirtual 120, 3) := cod_of b81 dX7_calls_16
theorem t81_16 {d : Nat} {h : Hp} {Q : Pst} {a0 : Int32} {a : Nat} {ls : List Value} (ho : isO (h.2.2 a) 5) : T (d + 1) 81 16 ls [.int a0, .ref a] h Q ↔ T d 56 0 [.ref a, .int a0] [] h (fun x h2 => T (d + 1) 81 19 ls (rl x []) h2 Q) := T_virtualR (as := [.int a0]) (r := []) m81 m56 c81_16 k7_120  rfl (by decide) rfl (by simp [wrd, Value.category]) (by simp [stk, Value.category]) rfl (by decide +kernel) ho
theorem c81_19 : cod 81 19 = some (.ifCond .ne 10, 3) := cod_of b81 dX7_calls_19
theorem t81_19 {d : Nat} {h : Hp} {Q : Pst} {x : Int32} {ls : List Value} {st : List Value} : T d 81 19 ls (.int x :: st) h Q ↔ (if ¬ x = 0 then T d 81 29 ls st h Q else T d 81 22 ls st h Q) := T_if_ne c81_19 (by decide)
theorem c81_29 : cod 81 29 = some (.aload_n 0, 1) := cod_of b81 dX7_calls_29
theorem t81_29 {d : Nat} {h : Hp} {Q : Pst} {l1 l2 : Value} {x : Nat} {st : List Value} : T d 81 29 [.ref x, l1, l2] st h Q ↔ T d 81 30 [.ref x, l1, l2] (.ref x :: st) h Q := T_aload_n c81_29 rfl
theorem c81_30 : cod 81 30 = some (.getfield 10, 3) := cod_of b81 dX7_calls_30
theorem t81_30 {d : Nat} {h : Hp} {Q : Pst} {a : Nat} {ls : List Value} {st : List Value} : T d 81 30 ls (.ref a :: st) h Q ↔ gF (h.2.2 a) 6 0 (fun v => T d 81 33 ls (v :: st) h Q) := T_getfieldR m81 c81_30 f7_10
theorem c81_33 : cod 81 33 = some (.getfield 123, 3) := cod_of b81 dX7_calls_33
theorem t81_33 {d : Nat} {h : Hp} {Q : Pst} {a : Nat} {ls : List Value} {st : List Value} : T d 81 33 ls (.ref a :: st) h Q ↔ gF (h.2.2 a) 5 2 (fun v => T d 81 36 ls (v :: st) h Q) := T_getfieldR m81 c81_33 f7_123
theorem c81_36 : cod 81 36 = some (.iload_n 1, 1) := cod_of b81 dX7_calls_36
theorem t81_36 {d : Nat} {h : Hp} {Q : Pst} {l0 l2 : Value} {x : Int32} {st : List Value} : T d 81 36 [l0, .int x, l2] st h Q ↔ T d 81 37 [l0, .int x, l2] (.int x :: st) h Q := T_iload_n c81_36 rfl
theorem c81_37 : cod 81 37 = some (.invokestatic 126, 3) := cod_of b81 dX7_calls_37
theorem t81_37 {d : Nat} {h : Hp} {Q : Pst} {a0 : Nat} {a1 : Int32} {ls : List Value} : T (d + 1) 81 37 ls [.int a1, .ref a0] h Q ↔ T d 122 0 [.ref a0, .int a1] [] h (fun x h2 => T (d + 1) 81 40 ls (rl x []) h2 Q) := T_staticR (as := [.ref a0, .int a1]) (r := []) m81 m122 c81_37 k7_126 (Or.inl rfl) rfl (by decide) rfl (by simp [wrd, Value.category]) (by simp [stk, Value.category]) rfl
theorem c81_40 : cod 81 40 = some (.iload_n 2, 1) := cod_of b81 dX7_calls_40
theorem t81_40 {d : Nat} {h : Hp} {Q : Pst} {l0 l1 : Value} {x : Int32} {st : List Value} : T d 81 40 [l0, l1, .int x] st h Q ↔ T d 81 41 [l0, l1, .int x] (.int x :: st) h Q := T_iload_n c81_40 rfl
theorem c81_41 : cod 81 41 = some (.if_icmp .ne 10, 3) := cod_of b81 dX7_calls_41
theorem t81_41 {d : Nat} {h : Hp} {Q : Pst} {x y : Int32} {ls : List Value} {st : List Value} : T d 81 41 ls (.int y :: .int x :: st) h Q ↔ (if ¬ x = y then T d 81 51 ls st h Q else T d 81 44 ls st h Q) := T_icmp_ne c81_41 (by decide)
theorem c81_44 : cod 81 44 = some (.aload_n 0, 1) := cod_of b81 dX7_calls_44
theorem t81_44 {d : Nat} {h : Hp} {Q : Pst} {l1 l2 : Value} {x : Nat} {st : List Value} : T d 81 44 [.ref x, l1, l2] st h Q ↔ T d 81 45 [.ref x, l1, l2] (.ref x :: st) h Q := T_aload_n c81_44 rfl
theorem c81_45 : cod 81 45 = some (.bipush (-3), 2) := cod_of b81 dX7_calls_45
theorem t81_45 {d : Nat} {h : Hp} {Q : Pst} {ls : List Value} {st : List Value} : T d 81 45 ls st h Q ↔ T d 81 47 ls (.int (-3) :: st) h Q := T_bipushV c81_45 (by decide)
theorem c81_47 : cod 81 47 = some (.invokevirtual 66, 3) := cod_of b81 dX7_calls_47
theorem t81_47 {d : Nat} {h : Hp} {Q : Pst} {a0 : Int32} {a : Nat} {ls : List Value} (ho : isO (h.2.2 a) 6) : T (d + 1) 81 47 ls [.int a0, .ref a] h Q ↔ T d 116 0 [.ref a, .int a0, un] [] h (fun x h2 => T (d + 1) 81 50 ls (rl x []) h2 Q) := T_virtualR (as := [.int a0]) (r := []) m81 m116 c81_47 k7_66  rfl (by decide) rfl (by simp [wrd, Value.category]) (by simp [stk, Value.category]) rfl (by decide +kernel) ho
theorem c81_50 : cod 81 50 = some (.ireturn, 1) := cod_of b81 dX7_calls_50
theorem t81_50 {d : Nat} {h : Hp} {Q : Pst} {x : Int32} {ls : List Value} : T d 81 50 ls [.int x] h Q ↔ Q (some (.int x)) h := T_iretR m81 c81_50 rfl
theorem c81_51 : cod 81 51 = some (.aload_n 0, 1) := cod_of b81 dX7_calls_51
theorem t81_51 {d : Nat} {h : Hp} {Q : Pst} {l1 l2 : Value} {x : Nat} {st : List Value} : T d 81 51 [.ref x, l1, l2] st h Q ↔ T d 81 52 [.ref x, l1, l2] (.ref x :: st) h Q := T_aload_n c81_51 rfl
theorem c81_52 : cod 81 52 = some (.getfield 10, 3) := cod_of b81 dX7_calls_52
theorem t81_52 {d : Nat} {h : Hp} {Q : Pst} {a : Nat} {ls : List Value} {st : List Value} : T d 81 52 ls (.ref a :: st) h Q ↔ gF (h.2.2 a) 6 0 (fun v => T d 81 55 ls (v :: st) h Q) := T_getfieldR m81 c81_52 f7_10
theorem c81_55 : cod 81 55 = some (.invokevirtual 130, 3) := cod_of b81 dX7_calls_55
theorem t81_55 {d : Nat} {h : Hp} {Q : Pst} {a : Nat} {ls : List Value} (ho : isO (h.2.2 a) 5) : T (d + 1) 81 55 ls [.ref a] h Q ↔ T d 72 0 [.ref a, un] [] h (fun x h2 => T (d + 1) 81 58 ls (rl x []) h2 Q) := T_virtualR (as := []) (r := []) m81 m72 c81_55 k7_130  rfl (by decide) rfl (by simp [wrd, Value.category]) (by simp [stk, Value.category]) rfl (by decide +kernel) ho
theorem c81_58 : cod 81 58 = some (.aload_n 0, 1) := cod_of b81 dX7_calls_58
theorem t81_58 {d : Nat} {h : Hp} {Q : Pst} {l1 l2 : Value} {x : Nat} {st : List Value} : T d 81 58 [.ref x, l1, l2] st h Q ↔ T d 81 59 [.ref x, l1, l2] (.ref x :: st) h Q := T_aload_n c81_58 rfl
theorem c81_59 : cod 81 59 = some (.getfield 10, 3) := cod_of b81 dX7_calls_59
theorem t81_59 {d : Nat} {h : Hp} {Q : Pst} {a : Nat} {ls : List Value} {st : List Value} : T d 81 59 ls (.ref a :: st) h Q ↔ gF (h.2.2 a) 6 0 (fun v => T d 81 62 ls (v :: st) h Q) := T_getfieldR m81 c81_59 f7_10
theorem c81_62 : cod 81 62 = some (.getfield 123, 3) := cod_of b81 dX7_calls_62
theorem t81_62 {d : Nat} {h : Hp} {Q : Pst} {a : Nat} {ls : List Value} {st : List Value} : T d 81 62 ls (.ref a :: st) h Q ↔ gF (h.2.2 a) 5 2 (fun v => T d 81 65 ls (v :: st) h Q) := T_getfieldR m81 c81_62 f7_123
theorem c81_65 : cod 81 65 = some (.iload_n 1, 1) := cod_of b81 dX7_calls_65
theorem t81_65 {d : Nat} {h : Hp} {Q : Pst} {l0 l2 : Value} {x : Int32} {st : List Value} : T d 81 65 [l0, .int x, l2] st h Q ↔ T d 81 66 [l0, .int x, l2] (.int x :: st) h Q := T_iload_n c81_65 rfl
theorem c81_66 : cod 81 66 = some (.iload_n 2, 1) := cod_of b81 dX7_calls_66
theorem t81_66 {d : Nat} {h : Hp} {Q : Pst} {l0 l1 : Value} {x : Int32} {st : List Value} : T d 81 66 [l0, l1, .int x] st h Q ↔ T d 81 67 [l0, l1, .int x] (.int x :: st) h Q := T_iload_n c81_66 rfl
theorem c81_67 : cod 81 67 = some (.invokestatic 133, 3) := cod_of b81 dX7_calls_67
theorem t81_67 {d : Nat} {h : Hp} {Q : Pst} {a0 : Nat} {a1 a2 : Int32} {ls : List Value} : T (d + 1) 81 67 ls [.int a2, .int a1, .ref a0] h Q ↔ T d 123 0 [.ref a0, .int a1, .int a2] [] h (fun x h2 => T (d + 1) 81 70 ls (rl x []) h2 Q) := T_staticR (as := [.ref a0, .int a1, .int a2]) (r := []) m81 m123 c81_67 k7_133 (Or.inl rfl) rfl (by decide) rfl (by simp [wrd, Value.category]) (by simp [stk, Value.category]) rfl
theorem c81_70 : cod 81 70 = some (.aload_n 0, 1) := cod_of b81 dX7_calls_70
theorem t81_70 {d : Nat} {h : Hp} {Q : Pst} {l1 l2 : Value} {x : Nat} {st : List Value} : T d 81 70 [.ref x, l1, l2] st h Q ↔ T d 81 71 [.ref x, l1, l2] (.ref x :: st) h Q := T_aload_n c81_70 rfl
theorem c81_71 : cod 81 71 = some (.getfield 10, 3) := cod_of b81 dX7_calls_71
theorem t81_71 {d : Nat} {h : Hp} {Q : Pst} {a : Nat} {ls : List Value} {st : List Value} : T d 81 71 ls (.ref a :: st) h Q ↔ gF (h.2.2 a) 6 0 (fun v => T d 81 74 ls (v :: st) h Q) := T_getfieldR m81 c81_71 f7_10
theorem c81_74 : cod 81 74 = some (.iload_n 1, 1) := cod_of b81 dX7_calls_74
theorem t81_74 {d : Nat} {h : Hp} {Q : Pst} {l0 l2 : Value} {x : Int32} {st : List Value} : T d 81 74 [l0, .int x, l2] st h Q ↔ T d 81 75 [l0, .int x, l2] (.int x :: st) h Q := T_iload_n c81_74 rfl
theorem c81_75 : cod 81 75 = some (.iload_n 2, 1) := cod_of b81 dX7_calls_75
theorem t81_75 {d : Nat} {h : Hp} {Q : Pst} {l0 l1 : Value} {x : Int32} {st : List Value} : T d 81 75 [l0, l1, .int x] st h Q ↔ T d 81 76 [l0, l1, .int x] (.int x :: st) h Q := T_iload_n c81_75 rfl
theorem c81_76 : cod 81 76 = some (.invokevirtual 137, 3) := cod_of b81 dX7_calls_76
theorem t81_76 {d : Nat} {h : Hp} {Q : Pst} {a0 a1 : Int32} {a : Nat} {ls : List Value} (ho : isO (h.2.2 a) 5) : T (d + 1) 81 76 ls [.int a1, .int a0, .ref a] h Q ↔ T d 62 0 [.ref a, .int a0, .int a1] [] h (fun x h2 => T (d + 1) 81 79 ls (rl x []) h2 Q) := T_virtualR (as := [.int a0, .int a1]) (r := []) m81 m62 c81_76 k7_137  rfl (by decide) rfl (by simp [wrd, Value.category]) (by simp [stk, Value.category]) rfl (by decide +kernel) ho
theorem c81_79 : cod 81 79 = some (.ireturn, 1) := cod_of b81 dX7_calls_79
theorem t81_79 {d : Nat} {h : Hp} {Q : Pst} {x : Int32} {ls : List Value} : T d 81 79 ls [.int x] h Q ↔ Q (some (.int x)) h := T_iretR m81 c81_79 rfl
theorem c81_22 : cod 81 22 = some (.aload_n 0, 1) := cod_of b81 dX7_calls_22
theorem t81_22 {d : Nat} {h : Hp} {Q : Pst} {l1 l2 : Value} {x : Nat} {st : List Value} : T d 81 22 [.ref x, l1, l2] st h Q ↔ T d 81 23 [.ref x, l1, l2] (.ref x :: st) h Q := T_aload_n c81_22 rfl
theorem c81_23 : cod 81 23 = some (.bipush (-2), 2) := cod_of b81 dX7_calls_23
theorem t81_23 {d : Nat} {h : Hp} {Q : Pst} {ls : List Value} {st : List Value} : T d 81 23 ls st h Q ↔ T d 81 25 ls (.int (-2) :: st) h Q := T_bipushV c81_23 (by decide)
theorem c81_25 : cod 81 25 = some (.invokevirtual 66, 3) := cod_of b81 dX7_calls_25
theorem t81_25 {d : Nat} {h : Hp} {Q : Pst} {a0 : Int32} {a : Nat} {ls : List Value} (ho : isO (h.2.2 a) 6) : T (d + 1) 81 25 ls [.int a0, .ref a] h Q ↔ T d 116 0 [.ref a, .int a0, un] [] h (fun x h2 => T (d + 1) 81 28 ls (rl x []) h2 Q) := T_virtualR (as := [.int a0]) (r := []) m81 m116 c81_25 k7_66  rfl (by decide) rfl (by simp [wrd, Value.category]) (by simp [stk, Value.category]) rfl (by decide +kernel) ho
theorem c81_28 : cod 81 28 = some (.ireturn, 1) := cod_of b81 dX7_calls_28
theorem t81_28 {d : Nat} {h : Hp} {Q : Pst} {x : Int32} {ls : List Value} : T d 81 28 ls [.int x] h Q ↔ Q (some (.int x)) h := T_iretR m81 c81_28 rfl
theorem b82 : (mR 82).2.2.1 = cX7_leaves := by rw [m82]
theorem c82_0 : cod 82 0 = some (.aload_n 0, 1) := cod_of b82 dX7_leaves_0
theorem t82_0 {d : Nat} {h : Hp} {Q : Pst} {l1 l2 : Value} {x : Nat} {st : List Value} : T d 82 0 [.ref x, l1, l2] st h Q ↔ T d 82 1 [.ref x, l1, l2] (.ref x :: st) h Q := T_aload_n c82_0 rfl
theorem c82_1 : cod 82 1 = some (.getfield 10, 3) := cod_of b82 dX7_leaves_1
theorem t82_1 {d : Nat} {h : Hp} {Q : Pst} {a : Nat} {ls : List Value} {st : List Value} : T d 82 1 ls (.ref a :: st) h Q ↔ gF (h.2.2 a) 6 0 (fun v => T d 82 4 ls (v :: st) h Q) := T_getfieldR m82 c82_1 f7_10
theorem c82_4 : cod 82 4 = some (.iload_n 1, 1) := cod_of b82 dX7_leaves_4
theorem t82_4 {d : Nat} {h : Hp} {Q : Pst} {l0 l2 : Value} {x : Int32} {st : List Value} : T d 82 4 [l0, .int x, l2] st h Q ↔ T d 82 5 [l0, .int x, l2] (.int x :: st) h Q := T_iload_n c82_4 rfl
theorem c82_5 : cod 82 5 = some (.invokevirtual 116, 3) := cod_of b82 dX7_leaves_5
theorem t82_5 {d : Nat} {h : Hp} {Q : Pst} {a0 : Int32} {a : Nat} {ls : List Value} (ho : isO (h.2.2 a) 5) : T (d + 1) 82 5 ls [.int a0, .ref a] h Q ↔ T d 55 0 [.ref a, .int a0] [] h (fun x h2 => T (d + 1) 82 8 ls (rl x []) h2 Q) := T_virtualR (as := [.int a0]) (r := []) m82 m55 c82_5 k7_116  rfl (by decide) rfl (by simp [wrd, Value.category]) (by simp [stk, Value.category]) rfl (by decide +kernel) ho
theorem c82_8 : cod 82 8 = some (.ifCond .ne 10, 3) := cod_of b82 dX7_leaves_8
theorem t82_8 {d : Nat} {h : Hp} {Q : Pst} {x : Int32} {ls : List Value} {st : List Value} : T d 82 8 ls (.int x :: st) h Q ↔ (if ¬ x = 0 then T d 82 18 ls st h Q else T d 82 11 ls st h Q) := T_if_ne c82_8 (by decide)
theorem c82_11 : cod 82 11 = some (.aload_n 0, 1) := cod_of b82 dX7_leaves_11
theorem t82_11 {d : Nat} {h : Hp} {Q : Pst} {l1 l2 : Value} {x : Nat} {st : List Value} : T d 82 11 [.ref x, l1, l2] st h Q ↔ T d 82 12 [.ref x, l1, l2] (.ref x :: st) h Q := T_aload_n c82_11 rfl
theorem c82_12 : cod 82 12 = some (.bipush (-2), 2) := cod_of b82 dX7_leaves_12
theorem t82_12 {d : Nat} {h : Hp} {Q : Pst} {ls : List Value} {st : List Value} : T d 82 12 ls st h Q ↔ T d 82 14 ls (.int (-2) :: st) h Q := T_bipushV c82_12 (by decide)
theorem c82_14 : cod 82 14 = some (.invokevirtual 66, 3) := cod_of b82 dX7_leaves_14
theorem t82_14 {d : Nat} {h : Hp} {Q : Pst} {a0 : Int32} {a : Nat} {ls : List Value} (ho : isO (h.2.2 a) 6) : T (d + 1) 82 14 ls [.int a0, .ref a] h Q ↔ T d 116 0 [.ref a, .int a0, un] [] h (fun x h2 => T (d + 1) 82 17 ls (rl x []) h2 Q) := T_virtualR (as := [.int a0]) (r := []) m82 m116 c82_14 k7_66  rfl (by decide) rfl (by simp [wrd, Value.category]) (by simp [stk, Value.category]) rfl (by decide +kernel) ho
theorem c82_17 : cod 82 17 = some (.ireturn, 1) := cod_of b82 dX7_leaves_17
theorem t82_17 {d : Nat} {h : Hp} {Q : Pst} {x : Int32} {ls : List Value} : T d 82 17 ls [.int x] h Q ↔ Q (some (.int x)) h := T_iretR m82 c82_17 rfl
theorem c82_18 : cod 82 18 = some (.aload_n 0, 1) := cod_of b82 dX7_leaves_18
theorem t82_18 {d : Nat} {h : Hp} {Q : Pst} {l1 l2 : Value} {x : Nat} {st : List Value} : T d 82 18 [.ref x, l1, l2] st h Q ↔ T d 82 19 [.ref x, l1, l2] (.ref x :: st) h Q := T_aload_n c82_18 rfl
theorem c82_19 : cod 82 19 = some (.getfield 10, 3) := cod_of b82 dX7_leaves_19
theorem t82_19 {d : Nat} {h : Hp} {Q : Pst} {a : Nat} {ls : List Value} {st : List Value} : T d 82 19 ls (.ref a :: st) h Q ↔ gF (h.2.2 a) 6 0 (fun v => T d 82 22 ls (v :: st) h Q) := T_getfieldR m82 c82_19 f7_10
theorem c82_22 : cod 82 22 = some (.getfield 123, 3) := cod_of b82 dX7_leaves_22
theorem t82_22 {d : Nat} {h : Hp} {Q : Pst} {a : Nat} {ls : List Value} {st : List Value} : T d 82 22 ls (.ref a :: st) h Q ↔ gF (h.2.2 a) 5 2 (fun v => T d 82 25 ls (v :: st) h Q) := T_getfieldR m82 c82_22 f7_123
theorem c82_25 : cod 82 25 = some (.iload_n 1, 1) := cod_of b82 dX7_leaves_25
theorem t82_25 {d : Nat} {h : Hp} {Q : Pst} {l0 l2 : Value} {x : Int32} {st : List Value} : T d 82 25 [l0, .int x, l2] st h Q ↔ T d 82 26 [l0, .int x, l2] (.int x :: st) h Q := T_iload_n c82_25 rfl
theorem c82_26 : cod 82 26 = some (.invokestatic 126, 3) := cod_of b82 dX7_leaves_26
theorem t82_26 {d : Nat} {h : Hp} {Q : Pst} {a0 : Nat} {a1 : Int32} {ls : List Value} : T (d + 1) 82 26 ls [.int a1, .ref a0] h Q ↔ T d 122 0 [.ref a0, .int a1] [] h (fun x h2 => T (d + 1) 82 29 ls (rl x []) h2 Q) := T_staticR (as := [.ref a0, .int a1]) (r := []) m82 m122 c82_26 k7_126 (Or.inl rfl) rfl (by decide) rfl (by simp [wrd, Value.category]) (by simp [stk, Value.category]) rfl
theorem c82_29 : cod 82 29 = some (.istore_n 2, 1) := cod_of b82 dX7_leaves_29
theorem t82_29 {d : Nat} {h : Hp} {Q : Pst} {l0 l1 l2 : Value} {x : Int32} {st : List Value} : T d 82 29 [l0, l1, l2] (.int x :: st) h Q ↔ T d 82 30 [l0, kil l1, .int x] st h Q := T_istore_n c82_29 (Nat.le_of_ble_eq_true rfl)
theorem c82_30 : cod 82 30 = some (.iload_n 2, 1) := cod_of b82 dX7_leaves_30
theorem t82_30 {d : Nat} {h : Hp} {Q : Pst} {l0 l1 : Value} {x : Int32} {st : List Value} : T d 82 30 [l0, l1, .int x] st h Q ↔ T d 82 31 [l0, l1, .int x] (.int x :: st) h Q := T_iload_n c82_30 rfl
theorem c82_31 : cod 82 31 = some (.iconst (-1), 1) := cod_of b82 dX7_leaves_31
theorem t82_31 {d : Nat} {h : Hp} {Q : Pst} {ls : List Value} {st : List Value} : T d 82 31 ls st h Q ↔ T d 82 32 ls (.int (-1) :: st) h Q := T_iconstV c82_31 (by decide)
theorem c82_32 : cod 82 32 = some (.if_icmp .ne 10, 3) := cod_of b82 dX7_leaves_32
theorem t82_32 {d : Nat} {h : Hp} {Q : Pst} {x y : Int32} {ls : List Value} {st : List Value} : T d 82 32 ls (.int y :: .int x :: st) h Q ↔ (if ¬ x = y then T d 82 42 ls st h Q else T d 82 35 ls st h Q) := T_icmp_ne c82_32 (by decide)
theorem c82_35 : cod 82 35 = some (.aload_n 0, 1) := cod_of b82 dX7_leaves_35
theorem t82_35 {d : Nat} {h : Hp} {Q : Pst} {l1 l2 : Value} {x : Nat} {st : List Value} : T d 82 35 [.ref x, l1, l2] st h Q ↔ T d 82 36 [.ref x, l1, l2] (.ref x :: st) h Q := T_aload_n c82_35 rfl
theorem c82_36 : cod 82 36 = some (.bipush (-3), 2) := cod_of b82 dX7_leaves_36
theorem t82_36 {d : Nat} {h : Hp} {Q : Pst} {ls : List Value} {st : List Value} : T d 82 36 ls st h Q ↔ T d 82 38 ls (.int (-3) :: st) h Q := T_bipushV c82_36 (by decide)
theorem c82_38 : cod 82 38 = some (.invokevirtual 66, 3) := cod_of b82 dX7_leaves_38
theorem t82_38 {d : Nat} {h : Hp} {Q : Pst} {a0 : Int32} {a : Nat} {ls : List Value} (ho : isO (h.2.2 a) 6) : T (d + 1) 82 38 ls [.int a0, .ref a] h Q ↔ T d 116 0 [.ref a, .int a0, un] [] h (fun x h2 => T (d + 1) 82 41 ls (rl x []) h2 Q) := T_virtualR (as := [.int a0]) (r := []) m82 m116 c82_38 k7_66  rfl (by decide) rfl (by simp [wrd, Value.category]) (by simp [stk, Value.category]) rfl (by decide +kernel) ho
theorem c82_41 : cod 82 41 = some (.ireturn, 1) := cod_of b82 dX7_leaves_41
theorem t82_41 {d : Nat} {h : Hp} {Q : Pst} {x : Int32} {ls : List Value} : T d 82 41 ls [.int x] h Q ↔ Q (some (.int x)) h := T_iretR m82 c82_41 rfl
theorem c82_42 : cod 82 42 = some (.aload_n 0, 1) := cod_of b82 dX7_leaves_42
theorem t82_42 {d : Nat} {h : Hp} {Q : Pst} {l1 l2 : Value} {x : Nat} {st : List Value} : T d 82 42 [.ref x, l1, l2] st h Q ↔ T d 82 43 [.ref x, l1, l2] (.ref x :: st) h Q := T_aload_n c82_42 rfl
theorem c82_43 : cod 82 43 = some (.getfield 10, 3) := cod_of b82 dX7_leaves_43
theorem t82_43 {d : Nat} {h : Hp} {Q : Pst} {a : Nat} {ls : List Value} {st : List Value} : T d 82 43 ls (.ref a :: st) h Q ↔ gF (h.2.2 a) 6 0 (fun v => T d 82 46 ls (v :: st) h Q) := T_getfieldR m82 c82_43 f7_10
theorem c82_46 : cod 82 46 = some (.invokevirtual 130, 3) := cod_of b82 dX7_leaves_46
theorem t82_46 {d : Nat} {h : Hp} {Q : Pst} {a : Nat} {ls : List Value} (ho : isO (h.2.2 a) 5) : T (d + 1) 82 46 ls [.ref a] h Q ↔ T d 72 0 [.ref a, un] [] h (fun x h2 => T (d + 1) 82 49 ls (rl x []) h2 Q) := T_virtualR (as := []) (r := []) m82 m72 c82_46 k7_130  rfl (by decide) rfl (by simp [wrd, Value.category]) (by simp [stk, Value.category]) rfl (by decide +kernel) ho
theorem c82_49 : cod 82 49 = some (.aload_n 0, 1) := cod_of b82 dX7_leaves_49
theorem t82_49 {d : Nat} {h : Hp} {Q : Pst} {l1 l2 : Value} {x : Nat} {st : List Value} : T d 82 49 [.ref x, l1, l2] st h Q ↔ T d 82 50 [.ref x, l1, l2] (.ref x :: st) h Q := T_aload_n c82_49 rfl
theorem c82_50 : cod 82 50 = some (.getfield 10, 3) := cod_of b82 dX7_leaves_50
theorem t82_50 {d : Nat} {h : Hp} {Q : Pst} {a : Nat} {ls : List Value} {st : List Value} : T d 82 50 ls (.ref a :: st) h Q ↔ gF (h.2.2 a) 6 0 (fun v => T d 82 53 ls (v :: st) h Q) := T_getfieldR m82 c82_50 f7_10
theorem c82_53 : cod 82 53 = some (.getfield 123, 3) := cod_of b82 dX7_leaves_53
theorem t82_53 {d : Nat} {h : Hp} {Q : Pst} {a : Nat} {ls : List Value} {st : List Value} : T d 82 53 ls (.ref a :: st) h Q ↔ gF (h.2.2 a) 5 2 (fun v => T d 82 56 ls (v :: st) h Q) := T_getfieldR m82 c82_53 f7_123
theorem c82_56 : cod 82 56 = some (.iload_n 1, 1) := cod_of b82 dX7_leaves_56
theorem t82_56 {d : Nat} {h : Hp} {Q : Pst} {l0 l2 : Value} {x : Int32} {st : List Value} : T d 82 56 [l0, .int x, l2] st h Q ↔ T d 82 57 [l0, .int x, l2] (.int x :: st) h Q := T_iload_n c82_56 rfl
theorem c82_57 : cod 82 57 = some (.iconst (-1), 1) := cod_of b82 dX7_leaves_57
theorem t82_57 {d : Nat} {h : Hp} {Q : Pst} {ls : List Value} {st : List Value} : T d 82 57 ls st h Q ↔ T d 82 58 ls (.int (-1) :: st) h Q := T_iconstV c82_57 (by decide)
theorem c82_58 : cod 82 58 = some (.invokestatic 133, 3) := cod_of b82 dX7_leaves_58
theorem t82_58 {d : Nat} {h : Hp} {Q : Pst} {a0 : Nat} {a1 a2 : Int32} {ls : List Value} : T (d + 1) 82 58 ls [.int a2, .int a1, .ref a0] h Q ↔ T d 123 0 [.ref a0, .int a1, .int a2] [] h (fun x h2 => T (d + 1) 82 61 ls (rl x []) h2 Q) := T_staticR (as := [.ref a0, .int a1, .int a2]) (r := []) m82 m123 c82_58 k7_133 (Or.inl rfl) rfl (by decide) rfl (by simp [wrd, Value.category]) (by simp [stk, Value.category]) rfl
theorem c82_61 : cod 82 61 = some (.iload_n 2, 1) := cod_of b82 dX7_leaves_61
theorem t82_61 {d : Nat} {h : Hp} {Q : Pst} {l0 l1 : Value} {x : Int32} {st : List Value} : T d 82 61 [l0, l1, .int x] st h Q ↔ T d 82 62 [l0, l1, .int x] (.int x :: st) h Q := T_iload_n c82_61 rfl
theorem c82_62 : cod 82 62 = some (.ireturn, 1) := cod_of b82 dX7_leaves_62
theorem t82_62 {d : Nat} {h : Hp} {Q : Pst} {x : Int32} {ls : List Value} : T d 82 62 ls [.int x] h Q ↔ Q (some (.int x)) h := T_iretR m82 c82_62 rfl
theorem b83 : (mR 83).2.2.1 = cX7_wets := by rw [m83]
theorem c83_0 : cod 83 0 = some (.iload_n 1, 1) := cod_of b83 dX7_wets_0
theorem t83_0 {d : Nat} {h : Hp} {Q : Pst} {l0 l2 : Value} {x : Int32} {st : List Value} : T d 83 0 [l0, .int x, l2] st h Q ↔ T d 83 1 [l0, .int x, l2] (.int x :: st) h Q := T_iload_n c83_0 rfl
theorem c83_1 : cod 83 1 = some (.iconst 0, 1) := cod_of b83 dX7_wets_1
theorem t83_1 {d : Nat} {h : Hp} {Q : Pst} {ls : List Value} {st : List Value} : T d 83 1 ls st h Q ↔ T d 83 2 ls (.int 0 :: st) h Q := T_iconstV c83_1 (by decide)
theorem c83_2 : cod 83 2 = some (.iconst 4, 1) := cod_of b83 dX7_wets_2
theorem t83_2 {d : Nat} {h : Hp} {Q : Pst} {ls : List Value} {st : List Value} : T d 83 2 ls st h Q ↔ T d 83 3 ls (.int 4 :: st) h Q := T_iconstV c83_2 (by decide)
theorem c83_3 : cod 83 3 = some (.invokestatic 62, 3) := cod_of b83 dX7_wets_3
theorem t83_3 {d : Nat} {h : Hp} {Q : Pst} {a0 a1 a2 : Int32} {ls : List Value} : T (d + 1) 83 3 ls [.int a2, .int a1, .int a0] h Q ↔ T d 118 0 [.int a0, .int a1, .int a2] [] h (fun x h2 => T (d + 1) 83 6 ls (rl x []) h2 Q) := T_staticR (as := [.int a0, .int a1, .int a2]) (r := []) m83 m118 c83_3 k7_62 (Or.inl rfl) rfl (by decide) rfl (by simp [wrd, Value.category]) (by simp [stk, Value.category]) rfl
theorem c83_6 : cod 83 6 = some (.ifCond .ne 10, 3) := cod_of b83 dX7_wets_6
theorem t83_6 {d : Nat} {h : Hp} {Q : Pst} {x : Int32} {ls : List Value} {st : List Value} : T d 83 6 ls (.int x :: st) h Q ↔ (if ¬ x = 0 then T d 83 16 ls st h Q else T d 83 9 ls st h Q) := T_if_ne c83_6 (by decide)
theorem c83_9 : cod 83 9 = some (.aload_n 0, 1) := cod_of b83 dX7_wets_9
theorem t83_9 {d : Nat} {h : Hp} {Q : Pst} {l1 l2 : Value} {x : Nat} {st : List Value} : T d 83 9 [.ref x, l1, l2] st h Q ↔ T d 83 10 [.ref x, l1, l2] (.ref x :: st) h Q := T_aload_n c83_9 rfl
theorem c83_10 : cod 83 10 = some (.bipush (-2), 2) := cod_of b83 dX7_wets_10
theorem t83_10 {d : Nat} {h : Hp} {Q : Pst} {ls : List Value} {st : List Value} : T d 83 10 ls st h Q ↔ T d 83 12 ls (.int (-2) :: st) h Q := T_bipushV c83_10 (by decide)
theorem c83_12 : cod 83 12 = some (.invokevirtual 66, 3) := cod_of b83 dX7_wets_12
theorem t83_12 {d : Nat} {h : Hp} {Q : Pst} {a0 : Int32} {a : Nat} {ls : List Value} (ho : isO (h.2.2 a) 6) : T (d + 1) 83 12 ls [.int a0, .ref a] h Q ↔ T d 116 0 [.ref a, .int a0, un] [] h (fun x h2 => T (d + 1) 83 15 ls (rl x []) h2 Q) := T_virtualR (as := [.int a0]) (r := []) m83 m116 c83_12 k7_66  rfl (by decide) rfl (by simp [wrd, Value.category]) (by simp [stk, Value.category]) rfl (by decide +kernel) ho
theorem c83_15 : cod 83 15 = some (.ireturn, 1) := cod_of b83 dX7_wets_15
theorem t83_15 {d : Nat} {h : Hp} {Q : Pst} {x : Int32} {ls : List Value} : T d 83 15 ls [.int x] h Q ↔ Q (some (.int x)) h := T_iretR m83 c83_15 rfl
theorem c83_16 : cod 83 16 = some (.aload_n 0, 1) := cod_of b83 dX7_wets_16
theorem t83_16 {d : Nat} {h : Hp} {Q : Pst} {l1 l2 : Value} {x : Nat} {st : List Value} : T d 83 16 [.ref x, l1, l2] st h Q ↔ T d 83 17 [.ref x, l1, l2] (.ref x :: st) h Q := T_aload_n c83_16 rfl
theorem c83_17 : cod 83 17 = some (.getfield 10, 3) := cod_of b83 dX7_wets_17
theorem t83_17 {d : Nat} {h : Hp} {Q : Pst} {a : Nat} {ls : List Value} {st : List Value} : T d 83 17 ls (.ref a :: st) h Q ↔ gF (h.2.2 a) 6 0 (fun v => T d 83 20 ls (v :: st) h Q) := T_getfieldR m83 c83_17 f7_10
theorem c83_20 : cod 83 20 = some (.getfield 140, 3) := cod_of b83 dX7_wets_20
theorem t83_20 {d : Nat} {h : Hp} {Q : Pst} {a : Nat} {ls : List Value} {st : List Value} : T d 83 20 ls (.ref a :: st) h Q ↔ gF (h.2.2 a) 5 12 (fun v => T d 83 23 ls (v :: st) h Q) := T_getfieldR m83 c83_20 f7_140
theorem c83_23 : cod 83 23 = some (.istore_n 2, 1) := cod_of b83 dX7_wets_23
theorem t83_23 {d : Nat} {h : Hp} {Q : Pst} {l0 l1 l2 : Value} {x : Int32} {st : List Value} : T d 83 23 [l0, l1, l2] (.int x :: st) h Q ↔ T d 83 24 [l0, kil l1, .int x] st h Q := T_istore_n c83_23 (Nat.le_of_ble_eq_true rfl)
theorem c83_24 : cod 83 24 = some (.iload_n 2, 1) := cod_of b83 dX7_wets_24
theorem t83_24 {d : Nat} {h : Hp} {Q : Pst} {l0 l1 : Value} {x : Int32} {st : List Value} : T d 83 24 [l0, l1, .int x] st h Q ↔ T d 83 25 [l0, l1, .int x] (.int x :: st) h Q := T_iload_n c83_24 rfl
theorem c83_25 : cod 83 25 = some (.iload_n 1, 1) := cod_of b83 dX7_wets_25
theorem t83_25 {d : Nat} {h : Hp} {Q : Pst} {l0 l2 : Value} {x : Int32} {st : List Value} : T d 83 25 [l0, .int x, l2] st h Q ↔ T d 83 26 [l0, .int x, l2] (.int x :: st) h Q := T_iload_n c83_25 rfl
theorem c83_26 : cod 83 26 = some (.if_icmp .ne 10, 3) := cod_of b83 dX7_wets_26
theorem t83_26 {d : Nat} {h : Hp} {Q : Pst} {x y : Int32} {ls : List Value} {st : List Value} : T d 83 26 ls (.int y :: .int x :: st) h Q ↔ (if ¬ x = y then T d 83 36 ls st h Q else T d 83 29 ls st h Q) := T_icmp_ne c83_26 (by decide)
theorem c83_29 : cod 83 29 = some (.aload_n 0, 1) := cod_of b83 dX7_wets_29
theorem t83_29 {d : Nat} {h : Hp} {Q : Pst} {l1 l2 : Value} {x : Nat} {st : List Value} : T d 83 29 [.ref x, l1, l2] st h Q ↔ T d 83 30 [.ref x, l1, l2] (.ref x :: st) h Q := T_aload_n c83_29 rfl
theorem c83_30 : cod 83 30 = some (.bipush (-3), 2) := cod_of b83 dX7_wets_30
theorem t83_30 {d : Nat} {h : Hp} {Q : Pst} {ls : List Value} {st : List Value} : T d 83 30 ls st h Q ↔ T d 83 32 ls (.int (-3) :: st) h Q := T_bipushV c83_30 (by decide)
theorem c83_32 : cod 83 32 = some (.invokevirtual 66, 3) := cod_of b83 dX7_wets_32
theorem t83_32 {d : Nat} {h : Hp} {Q : Pst} {a0 : Int32} {a : Nat} {ls : List Value} (ho : isO (h.2.2 a) 6) : T (d + 1) 83 32 ls [.int a0, .ref a] h Q ↔ T d 116 0 [.ref a, .int a0, un] [] h (fun x h2 => T (d + 1) 83 35 ls (rl x []) h2 Q) := T_virtualR (as := [.int a0]) (r := []) m83 m116 c83_32 k7_66  rfl (by decide) rfl (by simp [wrd, Value.category]) (by simp [stk, Value.category]) rfl (by decide +kernel) ho
theorem c83_35 : cod 83 35 = some (.ireturn, 1) := cod_of b83 dX7_wets_35
theorem t83_35 {d : Nat} {h : Hp} {Q : Pst} {x : Int32} {ls : List Value} : T d 83 35 ls [.int x] h Q ↔ Q (some (.int x)) h := T_iretR m83 c83_35 rfl
theorem c83_36 : cod 83 36 = some (.aload_n 0, 1) := cod_of b83 dX7_wets_36
theorem t83_36 {d : Nat} {h : Hp} {Q : Pst} {l1 l2 : Value} {x : Nat} {st : List Value} : T d 83 36 [.ref x, l1, l2] st h Q ↔ T d 83 37 [.ref x, l1, l2] (.ref x :: st) h Q := T_aload_n c83_36 rfl
theorem c83_37 : cod 83 37 = some (.getfield 10, 3) := cod_of b83 dX7_wets_37
theorem t83_37 {d : Nat} {h : Hp} {Q : Pst} {a : Nat} {ls : List Value} {st : List Value} : T d 83 37 ls (.ref a :: st) h Q ↔ gF (h.2.2 a) 6 0 (fun v => T d 83 40 ls (v :: st) h Q) := T_getfieldR m83 c83_37 f7_10
theorem c83_40 : cod 83 40 = some (.invokevirtual 130, 3) := cod_of b83 dX7_wets_40
theorem t83_40 {d : Nat} {h : Hp} {Q : Pst} {a : Nat} {ls : List Value} (ho : isO (h.2.2 a) 5) : T (d + 1) 83 40 ls [.ref a] h Q ↔ T d 72 0 [.ref a, un] [] h (fun x h2 => T (d + 1) 83 43 ls (rl x []) h2 Q) := T_virtualR (as := []) (r := []) m83 m72 c83_40 k7_130  rfl (by decide) rfl (by simp [wrd, Value.category]) (by simp [stk, Value.category]) rfl (by decide +kernel) ho
theorem c83_43 : cod 83 43 = some (.aload_n 0, 1) := cod_of b83 dX7_wets_43
theorem t83_43 {d : Nat} {h : Hp} {Q : Pst} {l1 l2 : Value} {x : Nat} {st : List Value} : T d 83 43 [.ref x, l1, l2] st h Q ↔ T d 83 44 [.ref x, l1, l2] (.ref x :: st) h Q := T_aload_n c83_43 rfl
theorem c83_44 : cod 83 44 = some (.getfield 10, 3) := cod_of b83 dX7_wets_44
theorem t83_44 {d : Nat} {h : Hp} {Q : Pst} {a : Nat} {ls : List Value} {st : List Value} : T d 83 44 ls (.ref a :: st) h Q ↔ gF (h.2.2 a) 6 0 (fun v => T d 83 47 ls (v :: st) h Q) := T_getfieldR m83 c83_44 f7_10
theorem c83_47 : cod 83 47 = some (.iload_n 1, 1) := cod_of b83 dX7_wets_47
theorem t83_47 {d : Nat} {h : Hp} {Q : Pst} {l0 l2 : Value} {x : Int32} {st : List Value} : T d 83 47 [l0, .int x, l2] st h Q ↔ T d 83 48 [l0, .int x, l2] (.int x :: st) h Q := T_iload_n c83_47 rfl
theorem c83_48 : cod 83 48 = some (.putfield 140, 3) := cod_of b83 dX7_wets_48
theorem t83_48 {d : Nat} {h : Hp} {Q : Pst} {a : Nat} {x : Int32} {ls : List Value} {st : List Value} : T d 83 48 ls (.int x :: .ref a :: st) h Q ↔ pF (h.2.2 a) 5 12 (.int x) (fun cell => T d 83 51 ls st (hup h a cell) Q) := T_putfieldR m83 c83_48 f7_140 (by decide +kernel)
theorem c83_51 : cod 83 51 = some (.iload_n 2, 1) := cod_of b83 dX7_wets_51
theorem t83_51 {d : Nat} {h : Hp} {Q : Pst} {l0 l1 : Value} {x : Int32} {st : List Value} : T d 83 51 [l0, l1, .int x] st h Q ↔ T d 83 52 [l0, l1, .int x] (.int x :: st) h Q := T_iload_n c83_51 rfl
theorem c83_52 : cod 83 52 = some (.ireturn, 1) := cod_of b83 dX7_wets_52
theorem t83_52 {d : Nat} {h : Hp} {Q : Pst} {x : Int32} {ls : List Value} : T d 83 52 ls [.int x] h Q ↔ Q (some (.int x)) h := T_iretR m83 c83_52 rfl
theorem b84 : (mR 84).2.2.1 = cX7_evenings := by rw [m84]
theorem c84_0 : cod 84 0 = some (.iload_n 1, 1) := cod_of b84 dX7_evenings_0
theorem t84_0 {d : Nat} {h : Hp} {Q : Pst} {l0 : Value} {x : Int32} {st : List Value} : T d 84 0 [l0, .int x] st h Q ↔ T d 84 1 [l0, .int x] (.int x :: st) h Q := T_iload_n c84_0 rfl
theorem c84_1 : cod 84 1 = some (.iconst 1, 1) := cod_of b84 dX7_evenings_1
theorem t84_1 {d : Nat} {h : Hp} {Q : Pst} {ls : List Value} {st : List Value} : T d 84 1 ls st h Q ↔ T d 84 2 ls (.int 1 :: st) h Q := T_iconstV c84_1 (by decide)
theorem c84_2 : cod 84 2 = some (.bipush 60, 2) := cod_of b84 dX7_evenings_2
theorem t84_2 {d : Nat} {h : Hp} {Q : Pst} {ls : List Value} {st : List Value} : T d 84 2 ls st h Q ↔ T d 84 4 ls (.int 60 :: st) h Q := T_bipushV c84_2 (by decide)
theorem c84_4 : cod 84 4 = some (.invokestatic 62, 3) := cod_of b84 dX7_evenings_4
theorem t84_4 {d : Nat} {h : Hp} {Q : Pst} {a0 a1 a2 : Int32} {ls : List Value} : T (d + 1) 84 4 ls [.int a2, .int a1, .int a0] h Q ↔ T d 118 0 [.int a0, .int a1, .int a2] [] h (fun x h2 => T (d + 1) 84 7 ls (rl x []) h2 Q) := T_staticR (as := [.int a0, .int a1, .int a2]) (r := []) m84 m118 c84_4 k7_62 (Or.inl rfl) rfl (by decide) rfl (by simp [wrd, Value.category]) (by simp [stk, Value.category]) rfl
theorem c84_7 : cod 84 7 = some (.ifCond .ne 10, 3) := cod_of b84 dX7_evenings_7
theorem t84_7 {d : Nat} {h : Hp} {Q : Pst} {x : Int32} {ls : List Value} {st : List Value} : T d 84 7 ls (.int x :: st) h Q ↔ (if ¬ x = 0 then T d 84 17 ls st h Q else T d 84 10 ls st h Q) := T_if_ne c84_7 (by decide)
theorem c84_10 : cod 84 10 = some (.aload_n 0, 1) := cod_of b84 dX7_evenings_10
theorem t84_10 {d : Nat} {h : Hp} {Q : Pst} {l1 : Value} {x : Nat} {st : List Value} : T d 84 10 [.ref x, l1] st h Q ↔ T d 84 11 [.ref x, l1] (.ref x :: st) h Q := T_aload_n c84_10 rfl
theorem c84_11 : cod 84 11 = some (.bipush (-2), 2) := cod_of b84 dX7_evenings_11
theorem t84_11 {d : Nat} {h : Hp} {Q : Pst} {ls : List Value} {st : List Value} : T d 84 11 ls st h Q ↔ T d 84 13 ls (.int (-2) :: st) h Q := T_bipushV c84_11 (by decide)
theorem c84_13 : cod 84 13 = some (.invokevirtual 66, 3) := cod_of b84 dX7_evenings_13
theorem t84_13 {d : Nat} {h : Hp} {Q : Pst} {a0 : Int32} {a : Nat} {ls : List Value} (ho : isO (h.2.2 a) 6) : T (d + 1) 84 13 ls [.int a0, .ref a] h Q ↔ T d 116 0 [.ref a, .int a0, un] [] h (fun x h2 => T (d + 1) 84 16 ls (rl x []) h2 Q) := T_virtualR (as := [.int a0]) (r := []) m84 m116 c84_13 k7_66  rfl (by decide) rfl (by simp [wrd, Value.category]) (by simp [stk, Value.category]) rfl (by decide +kernel) ho
theorem c84_16 : cod 84 16 = some (.ireturn, 1) := cod_of b84 dX7_evenings_16
theorem t84_16 {d : Nat} {h : Hp} {Q : Pst} {x : Int32} {ls : List Value} : T d 84 16 ls [.int x] h Q ↔ Q (some (.int x)) h := T_iretR m84 c84_16 rfl
theorem c84_17 : cod 84 17 = some (.aload_n 0, 1) := cod_of b84 dX7_evenings_17
theorem t84_17 {d : Nat} {h : Hp} {Q : Pst} {l1 : Value} {x : Nat} {st : List Value} : T d 84 17 [.ref x, l1] st h Q ↔ T d 84 18 [.ref x, l1] (.ref x :: st) h Q := T_aload_n c84_17 rfl
theorem c84_18 : cod 84 18 = some (.getfield 10, 3) := cod_of b84 dX7_evenings_18
theorem t84_18 {d : Nat} {h : Hp} {Q : Pst} {a : Nat} {ls : List Value} {st : List Value} : T d 84 18 ls (.ref a :: st) h Q ↔ gF (h.2.2 a) 6 0 (fun v => T d 84 21 ls (v :: st) h Q) := T_getfieldR m84 c84_18 f7_10
theorem c84_21 : cod 84 21 = some (.invokevirtual 130, 3) := cod_of b84 dX7_evenings_21
theorem t84_21 {d : Nat} {h : Hp} {Q : Pst} {a : Nat} {ls : List Value} (ho : isO (h.2.2 a) 5) : T (d + 1) 84 21 ls [.ref a] h Q ↔ T d 72 0 [.ref a, un] [] h (fun x h2 => T (d + 1) 84 24 ls (rl x []) h2 Q) := T_virtualR (as := []) (r := []) m84 m72 c84_21 k7_130  rfl (by decide) rfl (by simp [wrd, Value.category]) (by simp [stk, Value.category]) rfl (by decide +kernel) ho
theorem c84_24 : cod 84 24 = some (.aload_n 0, 1) := cod_of b84 dX7_evenings_24
theorem t84_24 {d : Nat} {h : Hp} {Q : Pst} {l1 : Value} {x : Nat} {st : List Value} : T d 84 24 [.ref x, l1] st h Q ↔ T d 84 25 [.ref x, l1] (.ref x :: st) h Q := T_aload_n c84_24 rfl
theorem c84_25 : cod 84 25 = some (.getfield 10, 3) := cod_of b84 dX7_evenings_25
theorem t84_25 {d : Nat} {h : Hp} {Q : Pst} {a : Nat} {ls : List Value} {st : List Value} : T d 84 25 ls (.ref a :: st) h Q ↔ gF (h.2.2 a) 6 0 (fun v => T d 84 28 ls (v :: st) h Q) := T_getfieldR m84 c84_25 f7_10
theorem c84_28 : cod 84 28 = some (.iload_n 1, 1) := cod_of b84 dX7_evenings_28
theorem t84_28 {d : Nat} {h : Hp} {Q : Pst} {l0 : Value} {x : Int32} {st : List Value} : T d 84 28 [l0, .int x] st h Q ↔ T d 84 29 [l0, .int x] (.int x :: st) h Q := T_iload_n c84_28 rfl
theorem c84_29 : cod 84 29 = some (.invokevirtual 143, 3) := cod_of b84 dX7_evenings_29
theorem t84_29 {d : Nat} {h : Hp} {Q : Pst} {a0 : Int32} {a : Nat} {ls : List Value} (ho : isO (h.2.2 a) 5) : T (d + 1) 84 29 ls [.int a0, .ref a] h Q ↔ T d 71 0 [.ref a, .int a0, un, un] [] h (fun x h2 => T (d + 1) 84 32 ls (rl x []) h2 Q) := T_virtualR (as := [.int a0]) (r := []) m84 m71 c84_29 k7_143  rfl (by decide) rfl (by simp [wrd, Value.category]) (by simp [stk, Value.category]) rfl (by decide +kernel) ho
theorem c84_32 : cod 84 32 = some (.aload_n 0, 1) := cod_of b84 dX7_evenings_32
theorem t84_32 {d : Nat} {h : Hp} {Q : Pst} {l1 : Value} {x : Nat} {st : List Value} : T d 84 32 [.ref x, l1] st h Q ↔ T d 84 33 [.ref x, l1] (.ref x :: st) h Q := T_aload_n c84_32 rfl
theorem c84_33 : cod 84 33 = some (.getfield 10, 3) := cod_of b84 dX7_evenings_33
theorem t84_33 {d : Nat} {h : Hp} {Q : Pst} {a : Nat} {ls : List Value} {st : List Value} : T d 84 33 ls (.ref a :: st) h Q ↔ gF (h.2.2 a) 6 0 (fun v => T d 84 36 ls (v :: st) h Q) := T_getfieldR m84 c84_33 f7_10
theorem c84_36 : cod 84 36 = some (.invokevirtual 146, 3) := cod_of b84 dX7_evenings_36
theorem t84_36 {d : Nat} {h : Hp} {Q : Pst} {a : Nat} {ls : List Value} (ho : isO (h.2.2 a) 5) : T (d + 1) 84 36 ls [.ref a] h Q ↔ T d 60 0 [.ref a, un, un] [] h (fun x h2 => T (d + 1) 84 39 ls (rl x []) h2 Q) := T_virtualR (as := []) (r := []) m84 m60 c84_36 k7_146  rfl (by decide) rfl (by simp [wrd, Value.category]) (by simp [stk, Value.category]) rfl (by decide +kernel) ho
theorem c84_39 : cod 84 39 = some (.ireturn, 1) := cod_of b84 dX7_evenings_39
theorem t84_39 {d : Nat} {h : Hp} {Q : Pst} {x : Int32} {ls : List Value} : T d 84 39 ls [.int x] h Q ↔ Q (some (.int x)) h := T_iretR m84 c84_39 rfl
theorem b85 : (mR 85).2.2.1 = cX7_undo := by rw [m85]
theorem c85_0 : cod 85 0 = some (.aload_n 0, 1) := cod_of b85 dX7_undo_0
theorem t85_0 {d : Nat} {h : Hp} {Q : Pst} {x : Nat} {st : List Value} : T d 85 0 [.ref x] st h Q ↔ T d 85 1 [.ref x] (.ref x :: st) h Q := T_aload_n c85_0 rfl
theorem c85_1 : cod 85 1 = some (.getfield 10, 3) := cod_of b85 dX7_undo_1
theorem t85_1 {d : Nat} {h : Hp} {Q : Pst} {a : Nat} {ls : List Value} {st : List Value} : T d 85 1 ls (.ref a :: st) h Q ↔ gF (h.2.2 a) 6 0 (fun v => T d 85 4 ls (v :: st) h Q) := T_getfieldR m85 c85_1 f7_10
theorem c85_4 : cod 85 4 = some (.getfield 150, 3) := cod_of b85 dX7_undo_4
theorem t85_4 {d : Nat} {h : Hp} {Q : Pst} {a : Nat} {ls : List Value} {st : List Value} : T d 85 4 ls (.ref a :: st) h Q ↔ gF (h.2.2 a) 5 9 (fun v => T d 85 7 ls (v :: st) h Q) := T_getfieldR m85 c85_4 f7_150
theorem c85_7 : cod 85 7 = some (.getfield 154, 3) := cod_of b85 dX7_undo_7
theorem t85_7 {d : Nat} {h : Hp} {Q : Pst} {a : Nat} {ls : List Value} {st : List Value} : T d 85 7 ls (.ref a :: st) h Q ↔ gF (h.2.2 a) 3 3 (fun v => T d 85 10 ls (v :: st) h Q) := T_getfieldR m85 c85_7 f7_154
theorem c85_10 : cod 85 10 = some (.ifCond .ne 10, 3) := cod_of b85 dX7_undo_10
theorem t85_10 {d : Nat} {h : Hp} {Q : Pst} {x : Int32} {ls : List Value} {st : List Value} : T d 85 10 ls (.int x :: st) h Q ↔ (if ¬ x = 0 then T d 85 20 ls st h Q else T d 85 13 ls st h Q) := T_if_ne c85_10 (by decide)
theorem c85_13 : cod 85 13 = some (.aload_n 0, 1) := cod_of b85 dX7_undo_13
theorem t85_13 {d : Nat} {h : Hp} {Q : Pst} {x : Nat} {st : List Value} : T d 85 13 [.ref x] st h Q ↔ T d 85 14 [.ref x] (.ref x :: st) h Q := T_aload_n c85_13 rfl
theorem c85_14 : cod 85 14 = some (.bipush (-3), 2) := cod_of b85 dX7_undo_14
theorem t85_14 {d : Nat} {h : Hp} {Q : Pst} {ls : List Value} {st : List Value} : T d 85 14 ls st h Q ↔ T d 85 16 ls (.int (-3) :: st) h Q := T_bipushV c85_14 (by decide)
theorem c85_16 : cod 85 16 = some (.invokevirtual 66, 3) := cod_of b85 dX7_undo_16
theorem t85_16 {d : Nat} {h : Hp} {Q : Pst} {a0 : Int32} {a : Nat} {ls : List Value} (ho : isO (h.2.2 a) 6) : T (d + 1) 85 16 ls [.int a0, .ref a] h Q ↔ T d 116 0 [.ref a, .int a0, un] [] h (fun x h2 => T (d + 1) 85 19 ls (rl x []) h2 Q) := T_virtualR (as := [.int a0]) (r := []) m85 m116 c85_16 k7_66  rfl (by decide) rfl (by simp [wrd, Value.category]) (by simp [stk, Value.category]) rfl (by decide +kernel) ho
theorem c85_19 : cod 85 19 = some (.ireturn, 1) := cod_of b85 dX7_undo_19
theorem t85_19 {d : Nat} {h : Hp} {Q : Pst} {x : Int32} {ls : List Value} : T d 85 19 ls [.int x] h Q ↔ Q (some (.int x)) h := T_iretR m85 c85_19 rfl
theorem c85_20 : cod 85 20 = some (.aload_n 0, 1) := cod_of b85 dX7_undo_20
theorem t85_20 {d : Nat} {h : Hp} {Q : Pst} {x : Nat} {st : List Value} : T d 85 20 [.ref x] st h Q ↔ T d 85 21 [.ref x] (.ref x :: st) h Q := T_aload_n c85_20 rfl
theorem c85_21 : cod 85 21 = some (.getfield 10, 3) := cod_of b85 dX7_undo_21
theorem t85_21 {d : Nat} {h : Hp} {Q : Pst} {a : Nat} {ls : List Value} {st : List Value} : T d 85 21 ls (.ref a :: st) h Q ↔ gF (h.2.2 a) 6 0 (fun v => T d 85 24 ls (v :: st) h Q) := T_getfieldR m85 c85_21 f7_10
theorem c85_24 : cod 85 24 = some (.invokevirtual 159, 3) := cod_of b85 dX7_undo_24
theorem t85_24 {d : Nat} {h : Hp} {Q : Pst} {a : Nat} {ls : List Value} (ho : isO (h.2.2 a) 5) : T (d + 1) 85 24 ls [.ref a] h Q ↔ T d 73 0 [.ref a, un] [] h (fun x h2 => T (d + 1) 85 27 ls (rl x []) h2 Q) := T_virtualR (as := []) (r := []) m85 m73 c85_24 k7_159  rfl (by decide) rfl (by simp [wrd, Value.category]) (by simp [stk, Value.category]) rfl (by decide +kernel) ho
theorem c85_27 : cod 85 27 = some (.aload_n 0, 1) := cod_of b85 dX7_undo_27
theorem t85_27 {d : Nat} {h : Hp} {Q : Pst} {x : Nat} {st : List Value} : T d 85 27 [.ref x] st h Q ↔ T d 85 28 [.ref x] (.ref x :: st) h Q := T_aload_n c85_27 rfl
theorem c85_28 : cod 85 28 = some (.getfield 10, 3) := cod_of b85 dX7_undo_28
theorem t85_28 {d : Nat} {h : Hp} {Q : Pst} {a : Nat} {ls : List Value} {st : List Value} : T d 85 28 ls (.ref a :: st) h Q ↔ gF (h.2.2 a) 6 0 (fun v => T d 85 31 ls (v :: st) h Q) := T_getfieldR m85 c85_28 f7_10
theorem c85_31 : cod 85 31 = some (.getfield 162, 3) := cod_of b85 dX7_undo_31
theorem t85_31 {d : Nat} {h : Hp} {Q : Pst} {a : Nat} {ls : List Value} {st : List Value} : T d 85 31 ls (.ref a :: st) h Q ↔ gF (h.2.2 a) 5 13 (fun v => T d 85 34 ls (v :: st) h Q) := T_getfieldR m85 c85_31 f7_162
theorem c85_34 : cod 85 34 = some (.ireturn, 1) := cod_of b85 dX7_undo_34
theorem t85_34 {d : Nat} {h : Hp} {Q : Pst} {x : Int32} {ls : List Value} : T d 85 34 ls [.int x] h Q ↔ Q (some (.int x)) h := T_iretR m85 c85_34 rfl
theorem b86 : (mR 86).2.2.1 = cX7_of := by rw [m86]
theorem c86_0 : cod 86 0 = some (.aload_n 0, 1) := cod_of b86 dX7_of_0
theorem t86_0 {d : Nat} {h : Hp} {Q : Pst} {l1 l2 : Value} {x : Nat} {st : List Value} : T d 86 0 [.ref x, l1, l2] st h Q ↔ T d 86 1 [.ref x, l1, l2] (.ref x :: st) h Q := T_aload_n c86_0 rfl
theorem c86_1 : cod 86 1 = some (.getfield 10, 3) := cod_of b86 dX7_of_1
theorem t86_1 {d : Nat} {h : Hp} {Q : Pst} {a : Nat} {ls : List Value} {st : List Value} : T d 86 1 ls (.ref a :: st) h Q ↔ gF (h.2.2 a) 6 0 (fun v => T d 86 4 ls (v :: st) h Q) := T_getfieldR m86 c86_1 f7_10
theorem c86_4 : cod 86 4 = some (.iload_n 1, 1) := cod_of b86 dX7_of_4
theorem t86_4 {d : Nat} {h : Hp} {Q : Pst} {l0 l2 : Value} {x : Int32} {st : List Value} : T d 86 4 [l0, .int x, l2] st h Q ↔ T d 86 5 [l0, .int x, l2] (.int x :: st) h Q := T_iload_n c86_4 rfl
theorem c86_5 : cod 86 5 = some (.invokevirtual 116, 3) := cod_of b86 dX7_of_5
theorem t86_5 {d : Nat} {h : Hp} {Q : Pst} {a0 : Int32} {a : Nat} {ls : List Value} (ho : isO (h.2.2 a) 5) : T (d + 1) 86 5 ls [.int a0, .ref a] h Q ↔ T d 55 0 [.ref a, .int a0] [] h (fun x h2 => T (d + 1) 86 8 ls (rl x []) h2 Q) := T_virtualR (as := [.int a0]) (r := []) m86 m55 c86_5 k7_116  rfl (by decide) rfl (by simp [wrd, Value.category]) (by simp [stk, Value.category]) rfl (by decide +kernel) ho
theorem c86_8 : cod 86 8 = some (.ifCond .eq 12, 3) := cod_of b86 dX7_of_8
theorem t86_8 {d : Nat} {h : Hp} {Q : Pst} {x : Int32} {ls : List Value} {st : List Value} : T d 86 8 ls (.int x :: st) h Q ↔ (if x = 0 then T d 86 20 ls st h Q else T d 86 11 ls st h Q) := T_if_eq c86_8 (by decide)
theorem c86_11 : cod 86 11 = some (.iload_n 2, 1) := cod_of b86 dX7_of_11
theorem t86_11 {d : Nat} {h : Hp} {Q : Pst} {l0 l1 : Value} {x : Int32} {st : List Value} : T d 86 11 [l0, l1, .int x] st h Q ↔ T d 86 12 [l0, l1, .int x] (.int x :: st) h Q := T_iload_n c86_11 rfl
theorem c86_12 : cod 86 12 = some (.iconst 0, 1) := cod_of b86 dX7_of_12
theorem t86_12 {d : Nat} {h : Hp} {Q : Pst} {ls : List Value} {st : List Value} : T d 86 12 ls st h Q ↔ T d 86 13 ls (.int 0 :: st) h Q := T_iconstV c86_12 (by decide)
theorem c86_13 : cod 86 13 = some (.iconst 3, 1) := cod_of b86 dX7_of_13
theorem t86_13 {d : Nat} {h : Hp} {Q : Pst} {ls : List Value} {st : List Value} : T d 86 13 ls st h Q ↔ T d 86 14 ls (.int 3 :: st) h Q := T_iconstV c86_13 (by decide)
theorem c86_14 : cod 86 14 = some (.invokestatic 62, 3) := cod_of b86 dX7_of_14
theorem t86_14 {d : Nat} {h : Hp} {Q : Pst} {a0 a1 a2 : Int32} {ls : List Value} : T (d + 1) 86 14 ls [.int a2, .int a1, .int a0] h Q ↔ T d 118 0 [.int a0, .int a1, .int a2] [] h (fun x h2 => T (d + 1) 86 17 ls (rl x []) h2 Q) := T_staticR (as := [.int a0, .int a1, .int a2]) (r := []) m86 m118 c86_14 k7_62 (Or.inl rfl) rfl (by decide) rfl (by simp [wrd, Value.category]) (by simp [stk, Value.category]) rfl
theorem c86_17 : cod 86 17 = some (.ifCond .ne 10, 3) := cod_of b86 dX7_of_17
theorem t86_17 {d : Nat} {h : Hp} {Q : Pst} {x : Int32} {ls : List Value} {st : List Value} : T d 86 17 ls (.int x :: st) h Q ↔ (if ¬ x = 0 then T d 86 27 ls st h Q else T d 86 20 ls st h Q) := T_if_ne c86_17 (by decide)
theorem c86_27 : cod 86 27 = some (.iload_n 2, 1) := cod_of b86 dX7_of_27
theorem t86_27 {d : Nat} {h : Hp} {Q : Pst} {l0 l1 : Value} {x : Int32} {st : List Value} : T d 86 27 [l0, l1, .int x] st h Q ↔ T d 86 28 [l0, l1, .int x] (.int x :: st) h Q := T_iload_n c86_27 rfl
theorem c86_28 : cod 86 28 = some (.tableswitch 64 0 2 #[28, 40, 52], 28) := cod_of b86 dX7_of_28
theorem t86_28 {d : Nat} {h : Hp} {Q : Pst} {x : Int32} {ls : List Value} {st : List Value} : T d 86 28 ls (.int x :: st) h Q ↔ swT (fun t => T d 86 t ls st h Q) x.toInt 0 [56, 68, 80] 92 := T_tsw c86_28 (by decide) (by decide) (by decide)
theorem c86_92 : cod 86 92 = some (.aload_n 0, 1) := cod_of b86 dX7_of_92
theorem t86_92 {d : Nat} {h : Hp} {Q : Pst} {l1 l2 : Value} {x : Nat} {st : List Value} : T d 86 92 [.ref x, l1, l2] st h Q ↔ T d 86 93 [.ref x, l1, l2] (.ref x :: st) h Q := T_aload_n c86_92 rfl
theorem c86_93 : cod 86 93 = some (.getfield 10, 3) := cod_of b86 dX7_of_93
theorem t86_93 {d : Nat} {h : Hp} {Q : Pst} {a : Nat} {ls : List Value} {st : List Value} : T d 86 93 ls (.ref a :: st) h Q ↔ gF (h.2.2 a) 6 0 (fun v => T d 86 96 ls (v :: st) h Q) := T_getfieldR m86 c86_93 f7_10
theorem c86_96 : cod 86 96 = some (.iload_n 1, 1) := cod_of b86 dX7_of_96
theorem t86_96 {d : Nat} {h : Hp} {Q : Pst} {l0 l2 : Value} {x : Int32} {st : List Value} : T d 86 96 [l0, .int x, l2] st h Q ↔ T d 86 97 [l0, .int x, l2] (.int x :: st) h Q := T_iload_n c86_96 rfl
theorem c86_97 : cod 86 97 = some (.aload_n 0, 1) := cod_of b86 dX7_of_97
theorem t86_97 {d : Nat} {h : Hp} {Q : Pst} {l1 l2 : Value} {x : Nat} {st : List Value} : T d 86 97 [.ref x, l1, l2] st h Q ↔ T d 86 98 [.ref x, l1, l2] (.ref x :: st) h Q := T_aload_n c86_97 rfl
theorem c86_98 : cod 86 98 = some (.getfield 10, 3) := cod_of b86 dX7_of_98
theorem t86_98 {d : Nat} {h : Hp} {Q : Pst} {a : Nat} {ls : List Value} {st : List Value} : T d 86 98 ls (.ref a :: st) h Q ↔ gF (h.2.2 a) 6 0 (fun v => T d 86 101 ls (v :: st) h Q) := T_getfieldR m86 c86_98 f7_10
theorem c86_101 : cod 86 101 = some (.getfield 123, 3) := cod_of b86 dX7_of_101
theorem t86_101 {d : Nat} {h : Hp} {Q : Pst} {a : Nat} {ls : List Value} {st : List Value} : T d 86 101 ls (.ref a :: st) h Q ↔ gF (h.2.2 a) 5 2 (fun v => T d 86 104 ls (v :: st) h Q) := T_getfieldR m86 c86_101 f7_123
theorem c86_104 : cod 86 104 = some (.iload_n 1, 1) := cod_of b86 dX7_of_104
theorem t86_104 {d : Nat} {h : Hp} {Q : Pst} {l0 l2 : Value} {x : Int32} {st : List Value} : T d 86 104 [l0, .int x, l2] st h Q ↔ T d 86 105 [l0, .int x, l2] (.int x :: st) h Q := T_iload_n c86_104 rfl
theorem c86_105 : cod 86 105 = some (.invokestatic 126, 3) := cod_of b86 dX7_of_105
theorem t86_105 {d : Nat} {h : Hp} {Q : Pst} {a0 s1 : Nat} {a1 s0 : Int32} {ls : List Value} : T (d + 1) 86 105 ls [.int a1, .ref a0, .int s0, .ref s1] h Q ↔ T d 122 0 [.ref a0, .int a1] [] h (fun x h2 => T (d + 1) 86 108 ls (rl x [.int s0, .ref s1]) h2 Q) := T_staticR (as := [.ref a0, .int a1]) (r := [.int s0, .ref s1]) m86 m122 c86_105 k7_126 (Or.inl rfl) rfl (by decide) rfl (by simp [wrd, Value.category]) (by simp [stk, Value.category]) rfl
theorem c86_108 : cod 86 108 = some (.invokevirtual 137, 3) := cod_of b86 dX7_of_108
theorem t86_108 {d : Nat} {h : Hp} {Q : Pst} {a0 a1 : Int32} {a : Nat} {ls : List Value} (ho : isO (h.2.2 a) 5) : T (d + 1) 86 108 ls [.int a1, .int a0, .ref a] h Q ↔ T d 62 0 [.ref a, .int a0, .int a1] [] h (fun x h2 => T (d + 1) 86 111 ls (rl x []) h2 Q) := T_virtualR (as := [.int a0, .int a1]) (r := []) m86 m62 c86_108 k7_137  rfl (by decide) rfl (by simp [wrd, Value.category]) (by simp [stk, Value.category]) rfl (by decide +kernel) ho
theorem c86_111 : cod 86 111 = some (.ireturn, 1) := cod_of b86 dX7_of_111
theorem t86_111 {d : Nat} {h : Hp} {Q : Pst} {x : Int32} {ls : List Value} : T d 86 111 ls [.int x] h Q ↔ Q (some (.int x)) h := T_iretR m86 c86_111 rfl
theorem c86_80 : cod 86 80 = some (.aload_n 0, 1) := cod_of b86 dX7_of_80
theorem t86_80 {d : Nat} {h : Hp} {Q : Pst} {l1 l2 : Value} {x : Nat} {st : List Value} : T d 86 80 [.ref x, l1, l2] st h Q ↔ T d 86 81 [.ref x, l1, l2] (.ref x :: st) h Q := T_aload_n c86_80 rfl
theorem c86_81 : cod 86 81 = some (.getfield 10, 3) := cod_of b86 dX7_of_81
theorem t86_81 {d : Nat} {h : Hp} {Q : Pst} {a : Nat} {ls : List Value} {st : List Value} : T d 86 81 ls (.ref a :: st) h Q ↔ gF (h.2.2 a) 6 0 (fun v => T d 86 84 ls (v :: st) h Q) := T_getfieldR m86 c86_81 f7_10
theorem c86_84 : cod 86 84 = some (.getfield 123, 3) := cod_of b86 dX7_of_84
theorem t86_84 {d : Nat} {h : Hp} {Q : Pst} {a : Nat} {ls : List Value} {st : List Value} : T d 86 84 ls (.ref a :: st) h Q ↔ gF (h.2.2 a) 5 2 (fun v => T d 86 87 ls (v :: st) h Q) := T_getfieldR m86 c86_84 f7_123
theorem c86_87 : cod 86 87 = some (.iload_n 1, 1) := cod_of b86 dX7_of_87
theorem t86_87 {d : Nat} {h : Hp} {Q : Pst} {l0 l2 : Value} {x : Int32} {st : List Value} : T d 86 87 [l0, .int x, l2] st h Q ↔ T d 86 88 [l0, .int x, l2] (.int x :: st) h Q := T_iload_n c86_87 rfl
theorem c86_88 : cod 86 88 = some (.invokestatic 126, 3) := cod_of b86 dX7_of_88
theorem t86_88 {d : Nat} {h : Hp} {Q : Pst} {a0 : Nat} {a1 : Int32} {ls : List Value} : T (d + 1) 86 88 ls [.int a1, .ref a0] h Q ↔ T d 122 0 [.ref a0, .int a1] [] h (fun x h2 => T (d + 1) 86 91 ls (rl x []) h2 Q) := T_staticR (as := [.ref a0, .int a1]) (r := []) m86 m122 c86_88 k7_126 (Or.inl rfl) rfl (by decide) rfl (by simp [wrd, Value.category]) (by simp [stk, Value.category]) rfl
theorem c86_91 : cod 86 91 = some (.ireturn, 1) := cod_of b86 dX7_of_91
theorem t86_91 {d : Nat} {h : Hp} {Q : Pst} {x : Int32} {ls : List Value} : T d 86 91 ls [.int x] h Q ↔ Q (some (.int x)) h := T_iretR m86 c86_91 rfl
theorem c86_68 : cod 86 68 = some (.aload_n 0, 1) := cod_of b86 dX7_of_68
theorem t86_68 {d : Nat} {h : Hp} {Q : Pst} {l1 l2 : Value} {x : Nat} {st : List Value} : T d 86 68 [.ref x, l1, l2] st h Q ↔ T d 86 69 [.ref x, l1, l2] (.ref x :: st) h Q := T_aload_n c86_68 rfl
theorem c86_69 : cod 86 69 = some (.getfield 10, 3) := cod_of b86 dX7_of_69
theorem t86_69 {d : Nat} {h : Hp} {Q : Pst} {a : Nat} {ls : List Value} {st : List Value} : T d 86 69 ls (.ref a :: st) h Q ↔ gF (h.2.2 a) 6 0 (fun v => T d 86 72 ls (v :: st) h Q) := T_getfieldR m86 c86_69 f7_10
theorem c86_72 : cod 86 72 = some (.getfield 168, 3) := cod_of b86 dX7_of_72
theorem t86_72 {d : Nat} {h : Hp} {Q : Pst} {a : Nat} {ls : List Value} {st : List Value} : T d 86 72 ls (.ref a :: st) h Q ↔ gF (h.2.2 a) 5 1 (fun v => T d 86 75 ls (v :: st) h Q) := T_getfieldR m86 c86_72 f7_168
theorem c86_75 : cod 86 75 = some (.iload_n 1, 1) := cod_of b86 dX7_of_75
theorem t86_75 {d : Nat} {h : Hp} {Q : Pst} {l0 l2 : Value} {x : Int32} {st : List Value} : T d 86 75 [l0, .int x, l2] st h Q ↔ T d 86 76 [l0, .int x, l2] (.int x :: st) h Q := T_iload_n c86_75 rfl
theorem c86_76 : cod 86 76 = some (.invokestatic 126, 3) := cod_of b86 dX7_of_76
theorem t86_76 {d : Nat} {h : Hp} {Q : Pst} {a0 : Nat} {a1 : Int32} {ls : List Value} : T (d + 1) 86 76 ls [.int a1, .ref a0] h Q ↔ T d 122 0 [.ref a0, .int a1] [] h (fun x h2 => T (d + 1) 86 79 ls (rl x []) h2 Q) := T_staticR (as := [.ref a0, .int a1]) (r := []) m86 m122 c86_76 k7_126 (Or.inl rfl) rfl (by decide) rfl (by simp [wrd, Value.category]) (by simp [stk, Value.category]) rfl
theorem c86_79 : cod 86 79 = some (.ireturn, 1) := cod_of b86 dX7_of_79
theorem t86_79 {d : Nat} {h : Hp} {Q : Pst} {x : Int32} {ls : List Value} : T d 86 79 ls [.int x] h Q ↔ Q (some (.int x)) h := T_iretR m86 c86_79 rfl
theorem c86_56 : cod 86 56 = some (.aload_n 0, 1) := cod_of b86 dX7_of_56
theorem t86_56 {d : Nat} {h : Hp} {Q : Pst} {l1 l2 : Value} {x : Nat} {st : List Value} : T d 86 56 [.ref x, l1, l2] st h Q ↔ T d 86 57 [.ref x, l1, l2] (.ref x :: st) h Q := T_aload_n c86_56 rfl
theorem c86_57 : cod 86 57 = some (.getfield 10, 3) := cod_of b86 dX7_of_57
theorem t86_57 {d : Nat} {h : Hp} {Q : Pst} {a : Nat} {ls : List Value} {st : List Value} : T d 86 57 ls (.ref a :: st) h Q ↔ gF (h.2.2 a) 6 0 (fun v => T d 86 60 ls (v :: st) h Q) := T_getfieldR m86 c86_57 f7_10
theorem c86_60 : cod 86 60 = some (.getfield 165, 3) := cod_of b86 dX7_of_60
theorem t86_60 {d : Nat} {h : Hp} {Q : Pst} {a : Nat} {ls : List Value} {st : List Value} : T d 86 60 ls (.ref a :: st) h Q ↔ gF (h.2.2 a) 5 0 (fun v => T d 86 63 ls (v :: st) h Q) := T_getfieldR m86 c86_60 f7_165
theorem c86_63 : cod 86 63 = some (.iload_n 1, 1) := cod_of b86 dX7_of_63
theorem t86_63 {d : Nat} {h : Hp} {Q : Pst} {l0 l2 : Value} {x : Int32} {st : List Value} : T d 86 63 [l0, .int x, l2] st h Q ↔ T d 86 64 [l0, .int x, l2] (.int x :: st) h Q := T_iload_n c86_63 rfl
theorem c86_64 : cod 86 64 = some (.invokestatic 126, 3) := cod_of b86 dX7_of_64
theorem t86_64 {d : Nat} {h : Hp} {Q : Pst} {a0 : Nat} {a1 : Int32} {ls : List Value} : T (d + 1) 86 64 ls [.int a1, .ref a0] h Q ↔ T d 122 0 [.ref a0, .int a1] [] h (fun x h2 => T (d + 1) 86 67 ls (rl x []) h2 Q) := T_staticR (as := [.ref a0, .int a1]) (r := []) m86 m122 c86_64 k7_126 (Or.inl rfl) rfl (by decide) rfl (by simp [wrd, Value.category]) (by simp [stk, Value.category]) rfl
theorem c86_67 : cod 86 67 = some (.ireturn, 1) := cod_of b86 dX7_of_67
theorem t86_67 {d : Nat} {h : Hp} {Q : Pst} {x : Int32} {ls : List Value} : T d 86 67 ls [.int x] h Q ↔ Q (some (.int x)) h := T_iretR m86 c86_67 rfl
theorem c86_20 : cod 86 20 = some (.aload_n 0, 1) := cod_of b86 dX7_of_20
theorem t86_20 {d : Nat} {h : Hp} {Q : Pst} {l1 l2 : Value} {x : Nat} {st : List Value} : T d 86 20 [.ref x, l1, l2] st h Q ↔ T d 86 21 [.ref x, l1, l2] (.ref x :: st) h Q := T_aload_n c86_20 rfl
theorem c86_21 : cod 86 21 = some (.bipush (-2), 2) := cod_of b86 dX7_of_21
theorem t86_21 {d : Nat} {h : Hp} {Q : Pst} {ls : List Value} {st : List Value} : T d 86 21 ls st h Q ↔ T d 86 23 ls (.int (-2) :: st) h Q := T_bipushV c86_21 (by decide)
theorem c86_23 : cod 86 23 = some (.invokevirtual 66, 3) := cod_of b86 dX7_of_23
theorem t86_23 {d : Nat} {h : Hp} {Q : Pst} {a0 : Int32} {a : Nat} {ls : List Value} (ho : isO (h.2.2 a) 6) : T (d + 1) 86 23 ls [.int a0, .ref a] h Q ↔ T d 116 0 [.ref a, .int a0, un] [] h (fun x h2 => T (d + 1) 86 26 ls (rl x []) h2 Q) := T_virtualR (as := [.int a0]) (r := []) m86 m116 c86_23 k7_66  rfl (by decide) rfl (by simp [wrd, Value.category]) (by simp [stk, Value.category]) rfl (by decide +kernel) ho
theorem c86_26 : cod 86 26 = some (.ireturn, 1) := cod_of b86 dX7_of_26
theorem t86_26 {d : Nat} {h : Hp} {Q : Pst} {x : Int32} {ls : List Value} : T d 86 26 ls [.int x] h Q ↔ Q (some (.int x)) h := T_iretR m86 c86_26 rfl
theorem b87 : (mR 87).2.2.1 = cX7_about := by rw [m87]
theorem c87_0 : cod 87 0 = some (.aload_n 0, 1) := cod_of b87 dX7_about_0
theorem t87_0 {d : Nat} {h : Hp} {Q : Pst} {l1 l2 : Value} {x : Nat} {st : List Value} : T d 87 0 [.ref x, l1, l2] st h Q ↔ T d 87 1 [.ref x, l1, l2] (.ref x :: st) h Q := T_aload_n c87_0 rfl
theorem c87_1 : cod 87 1 = some (.getfield 10, 3) := cod_of b87 dX7_about_1
theorem t87_1 {d : Nat} {h : Hp} {Q : Pst} {a : Nat} {ls : List Value} {st : List Value} : T d 87 1 ls (.ref a :: st) h Q ↔ gF (h.2.2 a) 6 0 (fun v => T d 87 4 ls (v :: st) h Q) := T_getfieldR m87 c87_1 f7_10
theorem c87_4 : cod 87 4 = some (.iload_n 1, 1) := cod_of b87 dX7_about_4
theorem t87_4 {d : Nat} {h : Hp} {Q : Pst} {l0 l2 : Value} {x : Int32} {st : List Value} : T d 87 4 [l0, .int x, l2] st h Q ↔ T d 87 5 [l0, .int x, l2] (.int x :: st) h Q := T_iload_n c87_4 rfl
theorem c87_5 : cod 87 5 = some (.invokevirtual 120, 3) := cod_of b87 dX7_about_5
theorem t87_5 {d : Nat} {h : Hp} {Q : Pst} {a0 : Int32} {a : Nat} {ls : List Value} (ho : isO (h.2.2 a) 5) : T (d + 1) 87 5 ls [.int a0, .ref a] h Q ↔ T d 56 0 [.ref a, .int a0] [] h (fun x h2 => T (d + 1) 87 8 ls (rl x []) h2 Q) := T_virtualR (as := [.int a0]) (r := []) m87 m56 c87_5 k7_120  rfl (by decide) rfl (by simp [wrd, Value.category]) (by simp [stk, Value.category]) rfl (by decide +kernel) ho
theorem c87_8 : cod 87 8 = some (.ifCond .eq 12, 3) := cod_of b87 dX7_about_8
theorem t87_8 {d : Nat} {h : Hp} {Q : Pst} {x : Int32} {ls : List Value} {st : List Value} : T d 87 8 ls (.int x :: st) h Q ↔ (if x = 0 then T d 87 20 ls st h Q else T d 87 11 ls st h Q) := T_if_eq c87_8 (by decide)
theorem c87_11 : cod 87 11 = some (.iload_n 2, 1) := cod_of b87 dX7_about_11
theorem t87_11 {d : Nat} {h : Hp} {Q : Pst} {l0 l1 : Value} {x : Int32} {st : List Value} : T d 87 11 [l0, l1, .int x] st h Q ↔ T d 87 12 [l0, l1, .int x] (.int x :: st) h Q := T_iload_n c87_11 rfl
theorem c87_12 : cod 87 12 = some (.iconst 0, 1) := cod_of b87 dX7_about_12
theorem t87_12 {d : Nat} {h : Hp} {Q : Pst} {ls : List Value} {st : List Value} : T d 87 12 ls st h Q ↔ T d 87 13 ls (.int 0 :: st) h Q := T_iconstV c87_12 (by decide)
theorem c87_13 : cod 87 13 = some (.iconst 4, 1) := cod_of b87 dX7_about_13
theorem t87_13 {d : Nat} {h : Hp} {Q : Pst} {ls : List Value} {st : List Value} : T d 87 13 ls st h Q ↔ T d 87 14 ls (.int 4 :: st) h Q := T_iconstV c87_13 (by decide)
theorem c87_14 : cod 87 14 = some (.invokestatic 62, 3) := cod_of b87 dX7_about_14
theorem t87_14 {d : Nat} {h : Hp} {Q : Pst} {a0 a1 a2 : Int32} {ls : List Value} : T (d + 1) 87 14 ls [.int a2, .int a1, .int a0] h Q ↔ T d 118 0 [.int a0, .int a1, .int a2] [] h (fun x h2 => T (d + 1) 87 17 ls (rl x []) h2 Q) := T_staticR (as := [.int a0, .int a1, .int a2]) (r := []) m87 m118 c87_14 k7_62 (Or.inl rfl) rfl (by decide) rfl (by simp [wrd, Value.category]) (by simp [stk, Value.category]) rfl
theorem c87_17 : cod 87 17 = some (.ifCond .ne 10, 3) := cod_of b87 dX7_about_17
theorem t87_17 {d : Nat} {h : Hp} {Q : Pst} {x : Int32} {ls : List Value} {st : List Value} : T d 87 17 ls (.int x :: st) h Q ↔ (if ¬ x = 0 then T d 87 27 ls st h Q else T d 87 20 ls st h Q) := T_if_ne c87_17 (by decide)
theorem c87_27 : cod 87 27 = some (.iload_n 2, 1) := cod_of b87 dX7_about_27
theorem t87_27 {d : Nat} {h : Hp} {Q : Pst} {l0 l1 : Value} {x : Int32} {st : List Value} : T d 87 27 [l0, l1, .int x] st h Q ↔ T d 87 28 [l0, l1, .int x] (.int x :: st) h Q := T_iload_n c87_27 rfl
theorem c87_28 : cod 87 28 = some (.tableswitch 77 0 3 #[32, 44, 56, 68], 32) := cod_of b87 dX7_about_28
theorem t87_28 {d : Nat} {h : Hp} {Q : Pst} {x : Int32} {ls : List Value} {st : List Value} : T d 87 28 ls (.int x :: st) h Q ↔ swT (fun t => T d 87 t ls st h Q) x.toInt 0 [60, 72, 84, 96] 105 := T_tsw c87_28 (by decide) (by decide) (by decide)
theorem c87_105 : cod 87 105 = some (.aload_n 0, 1) := cod_of b87 dX7_about_105
theorem t87_105 {d : Nat} {h : Hp} {Q : Pst} {l1 l2 : Value} {x : Nat} {st : List Value} : T d 87 105 [.ref x, l1, l2] st h Q ↔ T d 87 106 [.ref x, l1, l2] (.ref x :: st) h Q := T_aload_n c87_105 rfl
theorem c87_106 : cod 87 106 = some (.getfield 10, 3) := cod_of b87 dX7_about_106
theorem t87_106 {d : Nat} {h : Hp} {Q : Pst} {a : Nat} {ls : List Value} {st : List Value} : T d 87 106 ls (.ref a :: st) h Q ↔ gF (h.2.2 a) 6 0 (fun v => T d 87 109 ls (v :: st) h Q) := T_getfieldR m87 c87_106 f7_10
theorem c87_109 : cod 87 109 = some (.iload_n 1, 1) := cod_of b87 dX7_about_109
theorem t87_109 {d : Nat} {h : Hp} {Q : Pst} {l0 l2 : Value} {x : Int32} {st : List Value} : T d 87 109 [l0, .int x, l2] st h Q ↔ T d 87 110 [l0, .int x, l2] (.int x :: st) h Q := T_iload_n c87_109 rfl
theorem c87_110 : cod 87 110 = some (.invokevirtual 183, 3) := cod_of b87 dX7_about_110
theorem t87_110 {d : Nat} {h : Hp} {Q : Pst} {a0 : Int32} {a : Nat} {ls : List Value} (ho : isO (h.2.2 a) 5) : T (d + 1) 87 110 ls [.int a0, .ref a] h Q ↔ T d 69 0 [.ref a, .int a0, un, un, un, un] [] h (fun x h2 => T (d + 1) 87 113 ls (rl x []) h2 Q) := T_virtualR (as := [.int a0]) (r := []) m87 m69 c87_110 k7_183  rfl (by decide) rfl (by simp [wrd, Value.category]) (by simp [stk, Value.category]) rfl (by decide +kernel) ho
theorem c87_113 : cod 87 113 = some (.ireturn, 1) := cod_of b87 dX7_about_113
theorem t87_113 {d : Nat} {h : Hp} {Q : Pst} {x : Int32} {ls : List Value} : T d 87 113 ls [.int x] h Q ↔ Q (some (.int x)) h := T_iretR m87 c87_113 rfl
theorem c87_96 : cod 87 96 = some (.aload_n 0, 1) := cod_of b87 dX7_about_96
theorem t87_96 {d : Nat} {h : Hp} {Q : Pst} {l1 l2 : Value} {x : Nat} {st : List Value} : T d 87 96 [.ref x, l1, l2] st h Q ↔ T d 87 97 [.ref x, l1, l2] (.ref x :: st) h Q := T_aload_n c87_96 rfl
theorem c87_97 : cod 87 97 = some (.getfield 10, 3) := cod_of b87 dX7_about_97
theorem t87_97 {d : Nat} {h : Hp} {Q : Pst} {a : Nat} {ls : List Value} {st : List Value} : T d 87 97 ls (.ref a :: st) h Q ↔ gF (h.2.2 a) 6 0 (fun v => T d 87 100 ls (v :: st) h Q) := T_getfieldR m87 c87_97 f7_10
theorem c87_100 : cod 87 100 = some (.iload_n 1, 1) := cod_of b87 dX7_about_100
theorem t87_100 {d : Nat} {h : Hp} {Q : Pst} {l0 l2 : Value} {x : Int32} {st : List Value} : T d 87 100 [l0, .int x, l2] st h Q ↔ T d 87 101 [l0, .int x, l2] (.int x :: st) h Q := T_iload_n c87_100 rfl
theorem c87_101 : cod 87 101 = some (.invokevirtual 180, 3) := cod_of b87 dX7_about_101
theorem t87_101 {d : Nat} {h : Hp} {Q : Pst} {a0 : Int32} {a : Nat} {ls : List Value} (ho : isO (h.2.2 a) 5) : T (d + 1) 87 101 ls [.int a0, .ref a] h Q ↔ T d 68 0 [.ref a, .int a0, un, un, un] [] h (fun x h2 => T (d + 1) 87 104 ls (rl x []) h2 Q) := T_virtualR (as := [.int a0]) (r := []) m87 m68 c87_101 k7_180  rfl (by decide) rfl (by simp [wrd, Value.category]) (by simp [stk, Value.category]) rfl (by decide +kernel) ho
theorem c87_104 : cod 87 104 = some (.ireturn, 1) := cod_of b87 dX7_about_104
theorem t87_104 {d : Nat} {h : Hp} {Q : Pst} {x : Int32} {ls : List Value} : T d 87 104 ls [.int x] h Q ↔ Q (some (.int x)) h := T_iretR m87 c87_104 rfl
theorem c87_84 : cod 87 84 = some (.aload_n 0, 1) := cod_of b87 dX7_about_84
theorem t87_84 {d : Nat} {h : Hp} {Q : Pst} {l1 l2 : Value} {x : Nat} {st : List Value} : T d 87 84 [.ref x, l1, l2] st h Q ↔ T d 87 85 [.ref x, l1, l2] (.ref x :: st) h Q := T_aload_n c87_84 rfl
theorem c87_85 : cod 87 85 = some (.getfield 10, 3) := cod_of b87 dX7_about_85
theorem t87_85 {d : Nat} {h : Hp} {Q : Pst} {a : Nat} {ls : List Value} {st : List Value} : T d 87 85 ls (.ref a :: st) h Q ↔ gF (h.2.2 a) 6 0 (fun v => T d 87 88 ls (v :: st) h Q) := T_getfieldR m87 c87_85 f7_10
theorem c87_88 : cod 87 88 = some (.getfield 177, 3) := cod_of b87 dX7_about_88
theorem t87_88 {d : Nat} {h : Hp} {Q : Pst} {a : Nat} {ls : List Value} {st : List Value} : T d 87 88 ls (.ref a :: st) h Q ↔ gF (h.2.2 a) 5 5 (fun v => T d 87 91 ls (v :: st) h Q) := T_getfieldR m87 c87_88 f7_177
theorem c87_91 : cod 87 91 = some (.iload_n 1, 1) := cod_of b87 dX7_about_91
theorem t87_91 {d : Nat} {h : Hp} {Q : Pst} {l0 l2 : Value} {x : Int32} {st : List Value} : T d 87 91 [l0, .int x, l2] st h Q ↔ T d 87 92 [l0, .int x, l2] (.int x :: st) h Q := T_iload_n c87_91 rfl
theorem c87_92 : cod 87 92 = some (.invokestatic 126, 3) := cod_of b87 dX7_about_92
theorem t87_92 {d : Nat} {h : Hp} {Q : Pst} {a0 : Nat} {a1 : Int32} {ls : List Value} : T (d + 1) 87 92 ls [.int a1, .ref a0] h Q ↔ T d 122 0 [.ref a0, .int a1] [] h (fun x h2 => T (d + 1) 87 95 ls (rl x []) h2 Q) := T_staticR (as := [.ref a0, .int a1]) (r := []) m87 m122 c87_92 k7_126 (Or.inl rfl) rfl (by decide) rfl (by simp [wrd, Value.category]) (by simp [stk, Value.category]) rfl
theorem c87_95 : cod 87 95 = some (.ireturn, 1) := cod_of b87 dX7_about_95
theorem t87_95 {d : Nat} {h : Hp} {Q : Pst} {x : Int32} {ls : List Value} : T d 87 95 ls [.int x] h Q ↔ Q (some (.int x)) h := T_iretR m87 c87_95 rfl
theorem c87_72 : cod 87 72 = some (.aload_n 0, 1) := cod_of b87 dX7_about_72
theorem t87_72 {d : Nat} {h : Hp} {Q : Pst} {l1 l2 : Value} {x : Nat} {st : List Value} : T d 87 72 [.ref x, l1, l2] st h Q ↔ T d 87 73 [.ref x, l1, l2] (.ref x :: st) h Q := T_aload_n c87_72 rfl
theorem c87_73 : cod 87 73 = some (.getfield 10, 3) := cod_of b87 dX7_about_73
theorem t87_73 {d : Nat} {h : Hp} {Q : Pst} {a : Nat} {ls : List Value} {st : List Value} : T d 87 73 ls (.ref a :: st) h Q ↔ gF (h.2.2 a) 6 0 (fun v => T d 87 76 ls (v :: st) h Q) := T_getfieldR m87 c87_73 f7_10
theorem c87_76 : cod 87 76 = some (.getfield 174, 3) := cod_of b87 dX7_about_76
theorem t87_76 {d : Nat} {h : Hp} {Q : Pst} {a : Nat} {ls : List Value} {st : List Value} : T d 87 76 ls (.ref a :: st) h Q ↔ gF (h.2.2 a) 5 4 (fun v => T d 87 79 ls (v :: st) h Q) := T_getfieldR m87 c87_76 f7_174
theorem c87_79 : cod 87 79 = some (.iload_n 1, 1) := cod_of b87 dX7_about_79
theorem t87_79 {d : Nat} {h : Hp} {Q : Pst} {l0 l2 : Value} {x : Int32} {st : List Value} : T d 87 79 [l0, .int x, l2] st h Q ↔ T d 87 80 [l0, .int x, l2] (.int x :: st) h Q := T_iload_n c87_79 rfl
theorem c87_80 : cod 87 80 = some (.invokestatic 126, 3) := cod_of b87 dX7_about_80
theorem t87_80 {d : Nat} {h : Hp} {Q : Pst} {a0 : Nat} {a1 : Int32} {ls : List Value} : T (d + 1) 87 80 ls [.int a1, .ref a0] h Q ↔ T d 122 0 [.ref a0, .int a1] [] h (fun x h2 => T (d + 1) 87 83 ls (rl x []) h2 Q) := T_staticR (as := [.ref a0, .int a1]) (r := []) m87 m122 c87_80 k7_126 (Or.inl rfl) rfl (by decide) rfl (by simp [wrd, Value.category]) (by simp [stk, Value.category]) rfl
theorem c87_83 : cod 87 83 = some (.ireturn, 1) := cod_of b87 dX7_about_83
theorem t87_83 {d : Nat} {h : Hp} {Q : Pst} {x : Int32} {ls : List Value} : T d 87 83 ls [.int x] h Q ↔ Q (some (.int x)) h := T_iretR m87 c87_83 rfl
theorem c87_60 : cod 87 60 = some (.aload_n 0, 1) := cod_of b87 dX7_about_60
theorem t87_60 {d : Nat} {h : Hp} {Q : Pst} {l1 l2 : Value} {x : Nat} {st : List Value} : T d 87 60 [.ref x, l1, l2] st h Q ↔ T d 87 61 [.ref x, l1, l2] (.ref x :: st) h Q := T_aload_n c87_60 rfl
theorem c87_61 : cod 87 61 = some (.getfield 10, 3) := cod_of b87 dX7_about_61
theorem t87_61 {d : Nat} {h : Hp} {Q : Pst} {a : Nat} {ls : List Value} {st : List Value} : T d 87 61 ls (.ref a :: st) h Q ↔ gF (h.2.2 a) 6 0 (fun v => T d 87 64 ls (v :: st) h Q) := T_getfieldR m87 c87_61 f7_10
theorem c87_64 : cod 87 64 = some (.getfield 171, 3) := cod_of b87 dX7_about_64
theorem t87_64 {d : Nat} {h : Hp} {Q : Pst} {a : Nat} {ls : List Value} {st : List Value} : T d 87 64 ls (.ref a :: st) h Q ↔ gF (h.2.2 a) 5 3 (fun v => T d 87 67 ls (v :: st) h Q) := T_getfieldR m87 c87_64 f7_171
theorem c87_67 : cod 87 67 = some (.iload_n 1, 1) := cod_of b87 dX7_about_67
theorem t87_67 {d : Nat} {h : Hp} {Q : Pst} {l0 l2 : Value} {x : Int32} {st : List Value} : T d 87 67 [l0, .int x, l2] st h Q ↔ T d 87 68 [l0, .int x, l2] (.int x :: st) h Q := T_iload_n c87_67 rfl
theorem c87_68 : cod 87 68 = some (.invokestatic 126, 3) := cod_of b87 dX7_about_68
theorem t87_68 {d : Nat} {h : Hp} {Q : Pst} {a0 : Nat} {a1 : Int32} {ls : List Value} : T (d + 1) 87 68 ls [.int a1, .ref a0] h Q ↔ T d 122 0 [.ref a0, .int a1] [] h (fun x h2 => T (d + 1) 87 71 ls (rl x []) h2 Q) := T_staticR (as := [.ref a0, .int a1]) (r := []) m87 m122 c87_68 k7_126 (Or.inl rfl) rfl (by decide) rfl (by simp [wrd, Value.category]) (by simp [stk, Value.category]) rfl
theorem c87_71 : cod 87 71 = some (.ireturn, 1) := cod_of b87 dX7_about_71
theorem t87_71 {d : Nat} {h : Hp} {Q : Pst} {x : Int32} {ls : List Value} : T d 87 71 ls [.int x] h Q ↔ Q (some (.int x)) h := T_iretR m87 c87_71 rfl
theorem c87_20 : cod 87 20 = some (.aload_n 0, 1) := cod_of b87 dX7_about_20
theorem t87_20 {d : Nat} {h : Hp} {Q : Pst} {l1 l2 : Value} {x : Nat} {st : List Value} : T d 87 20 [.ref x, l1, l2] st h Q ↔ T d 87 21 [.ref x, l1, l2] (.ref x :: st) h Q := T_aload_n c87_20 rfl
theorem c87_21 : cod 87 21 = some (.bipush (-2), 2) := cod_of b87 dX7_about_21
theorem t87_21 {d : Nat} {h : Hp} {Q : Pst} {ls : List Value} {st : List Value} : T d 87 21 ls st h Q ↔ T d 87 23 ls (.int (-2) :: st) h Q := T_bipushV c87_21 (by decide)
theorem c87_23 : cod 87 23 = some (.invokevirtual 66, 3) := cod_of b87 dX7_about_23
theorem t87_23 {d : Nat} {h : Hp} {Q : Pst} {a0 : Int32} {a : Nat} {ls : List Value} (ho : isO (h.2.2 a) 6) : T (d + 1) 87 23 ls [.int a0, .ref a] h Q ↔ T d 116 0 [.ref a, .int a0, un] [] h (fun x h2 => T (d + 1) 87 26 ls (rl x []) h2 Q) := T_virtualR (as := [.int a0]) (r := []) m87 m116 c87_23 k7_66  rfl (by decide) rfl (by simp [wrd, Value.category]) (by simp [stk, Value.category]) rfl (by decide +kernel) ho
theorem c87_26 : cod 87 26 = some (.ireturn, 1) := cod_of b87 dX7_about_26
theorem t87_26 {d : Nat} {h : Hp} {Q : Pst} {x : Int32} {ls : List Value} : T d 87 26 ls [.int x] h Q ↔ Q (some (.int x)) h := T_iretR m87 c87_26 rfl
theorem b88 : (mR 88).2.2.1 = cX7_great := by rw [m88]
theorem c88_0 : cod 88 0 = some (.aload_n 0, 1) := cod_of b88 dX7_great_0
theorem t88_0 {d : Nat} {h : Hp} {Q : Pst} {l1 l2 : Value} {x : Nat} {st : List Value} : T d 88 0 [.ref x, l1, l2] st h Q ↔ T d 88 1 [.ref x, l1, l2] (.ref x :: st) h Q := T_aload_n c88_0 rfl
theorem c88_1 : cod 88 1 = some (.getfield 10, 3) := cod_of b88 dX7_great_1
theorem t88_1 {d : Nat} {h : Hp} {Q : Pst} {a : Nat} {ls : List Value} {st : List Value} : T d 88 1 ls (.ref a :: st) h Q ↔ gF (h.2.2 a) 6 0 (fun v => T d 88 4 ls (v :: st) h Q) := T_getfieldR m88 c88_1 f7_10
theorem c88_4 : cod 88 4 = some (.iload_n 1, 1) := cod_of b88 dX7_great_4
theorem t88_4 {d : Nat} {h : Hp} {Q : Pst} {l0 l2 : Value} {x : Int32} {st : List Value} : T d 88 4 [l0, .int x, l2] st h Q ↔ T d 88 5 [l0, .int x, l2] (.int x :: st) h Q := T_iload_n c88_4 rfl
theorem c88_5 : cod 88 5 = some (.invokevirtual 116, 3) := cod_of b88 dX7_great_5
theorem t88_5 {d : Nat} {h : Hp} {Q : Pst} {a0 : Int32} {a : Nat} {ls : List Value} (ho : isO (h.2.2 a) 5) : T (d + 1) 88 5 ls [.int a0, .ref a] h Q ↔ T d 55 0 [.ref a, .int a0] [] h (fun x h2 => T (d + 1) 88 8 ls (rl x []) h2 Q) := T_virtualR (as := [.int a0]) (r := []) m88 m55 c88_5 k7_116  rfl (by decide) rfl (by simp [wrd, Value.category]) (by simp [stk, Value.category]) rfl (by decide +kernel) ho
theorem c88_8 : cod 88 8 = some (.ifCond .eq 12, 3) := cod_of b88 dX7_great_8
theorem t88_8 {d : Nat} {h : Hp} {Q : Pst} {x : Int32} {ls : List Value} {st : List Value} : T d 88 8 ls (.int x :: st) h Q ↔ (if x = 0 then T d 88 20 ls st h Q else T d 88 11 ls st h Q) := T_if_eq c88_8 (by decide)
theorem c88_11 : cod 88 11 = some (.iload_n 2, 1) := cod_of b88 dX7_great_11
theorem t88_11 {d : Nat} {h : Hp} {Q : Pst} {l0 l1 : Value} {x : Int32} {st : List Value} : T d 88 11 [l0, l1, .int x] st h Q ↔ T d 88 12 [l0, l1, .int x] (.int x :: st) h Q := T_iload_n c88_11 rfl
theorem c88_12 : cod 88 12 = some (.iconst 0, 1) := cod_of b88 dX7_great_12
theorem t88_12 {d : Nat} {h : Hp} {Q : Pst} {ls : List Value} {st : List Value} : T d 88 12 ls st h Q ↔ T d 88 13 ls (.int 0 :: st) h Q := T_iconstV c88_12 (by decide)
theorem c88_13 : cod 88 13 = some (.iconst 4, 1) := cod_of b88 dX7_great_13
theorem t88_13 {d : Nat} {h : Hp} {Q : Pst} {ls : List Value} {st : List Value} : T d 88 13 ls st h Q ↔ T d 88 14 ls (.int 4 :: st) h Q := T_iconstV c88_13 (by decide)
theorem c88_14 : cod 88 14 = some (.invokestatic 62, 3) := cod_of b88 dX7_great_14
theorem t88_14 {d : Nat} {h : Hp} {Q : Pst} {a0 a1 a2 : Int32} {ls : List Value} : T (d + 1) 88 14 ls [.int a2, .int a1, .int a0] h Q ↔ T d 118 0 [.int a0, .int a1, .int a2] [] h (fun x h2 => T (d + 1) 88 17 ls (rl x []) h2 Q) := T_staticR (as := [.int a0, .int a1, .int a2]) (r := []) m88 m118 c88_14 k7_62 (Or.inl rfl) rfl (by decide) rfl (by simp [wrd, Value.category]) (by simp [stk, Value.category]) rfl
theorem c88_17 : cod 88 17 = some (.ifCond .ne 10, 3) := cod_of b88 dX7_great_17
theorem t88_17 {d : Nat} {h : Hp} {Q : Pst} {x : Int32} {ls : List Value} {st : List Value} : T d 88 17 ls (.int x :: st) h Q ↔ (if ¬ x = 0 then T d 88 27 ls st h Q else T d 88 20 ls st h Q) := T_if_ne c88_17 (by decide)
theorem c88_27 : cod 88 27 = some (.aload_n 0, 1) := cod_of b88 dX7_great_27
theorem t88_27 {d : Nat} {h : Hp} {Q : Pst} {l1 l2 : Value} {x : Nat} {st : List Value} : T d 88 27 [.ref x, l1, l2] st h Q ↔ T d 88 28 [.ref x, l1, l2] (.ref x :: st) h Q := T_aload_n c88_27 rfl
theorem c88_28 : cod 88 28 = some (.getfield 10, 3) := cod_of b88 dX7_great_28
theorem t88_28 {d : Nat} {h : Hp} {Q : Pst} {a : Nat} {ls : List Value} {st : List Value} : T d 88 28 ls (.ref a :: st) h Q ↔ gF (h.2.2 a) 6 0 (fun v => T d 88 31 ls (v :: st) h Q) := T_getfieldR m88 c88_28 f7_10
theorem c88_31 : cod 88 31 = some (.getfield 165, 3) := cod_of b88 dX7_great_31
theorem t88_31 {d : Nat} {h : Hp} {Q : Pst} {a : Nat} {ls : List Value} {st : List Value} : T d 88 31 ls (.ref a :: st) h Q ↔ gF (h.2.2 a) 5 0 (fun v => T d 88 34 ls (v :: st) h Q) := T_getfieldR m88 c88_31 f7_165
theorem c88_34 : cod 88 34 = some (.iload_n 1, 1) := cod_of b88 dX7_great_34
theorem t88_34 {d : Nat} {h : Hp} {Q : Pst} {l0 l2 : Value} {x : Int32} {st : List Value} : T d 88 34 [l0, .int x, l2] st h Q ↔ T d 88 35 [l0, .int x, l2] (.int x :: st) h Q := T_iload_n c88_34 rfl
theorem c88_35 : cod 88 35 = some (.invokestatic 126, 3) := cod_of b88 dX7_great_35
theorem t88_35 {d : Nat} {h : Hp} {Q : Pst} {a0 : Nat} {a1 : Int32} {ls : List Value} : T (d + 1) 88 35 ls [.int a1, .ref a0] h Q ↔ T d 122 0 [.ref a0, .int a1] [] h (fun x h2 => T (d + 1) 88 38 ls (rl x []) h2 Q) := T_staticR (as := [.ref a0, .int a1]) (r := []) m88 m122 c88_35 k7_126 (Or.inl rfl) rfl (by decide) rfl (by simp [wrd, Value.category]) (by simp [stk, Value.category]) rfl
theorem c88_38 : cod 88 38 = some (.aload_n 0, 1) := cod_of b88 dX7_great_38
theorem t88_38 {d : Nat} {h : Hp} {Q : Pst} {l1 l2 : Value} {x : Nat} {st : List Value} : T d 88 38 [.ref x, l1, l2] st h Q ↔ T d 88 39 [.ref x, l1, l2] (.ref x :: st) h Q := T_aload_n c88_38 rfl
theorem c88_39 : cod 88 39 = some (.getfield 10, 3) := cod_of b88 dX7_great_39
theorem t88_39 {d : Nat} {h : Hp} {Q : Pst} {a : Nat} {ls : List Value} {st : List Value} : T d 88 39 ls (.ref a :: st) h Q ↔ gF (h.2.2 a) 6 0 (fun v => T d 88 42 ls (v :: st) h Q) := T_getfieldR m88 c88_39 f7_10
theorem c88_42 : cod 88 42 = some (.getfield 168, 3) := cod_of b88 dX7_great_42
theorem t88_42 {d : Nat} {h : Hp} {Q : Pst} {a : Nat} {ls : List Value} {st : List Value} : T d 88 42 ls (.ref a :: st) h Q ↔ gF (h.2.2 a) 5 1 (fun v => T d 88 45 ls (v :: st) h Q) := T_getfieldR m88 c88_42 f7_168
theorem c88_45 : cod 88 45 = some (.iload_n 1, 1) := cod_of b88 dX7_great_45
theorem t88_45 {d : Nat} {h : Hp} {Q : Pst} {l0 l2 : Value} {x : Int32} {st : List Value} : T d 88 45 [l0, .int x, l2] st h Q ↔ T d 88 46 [l0, .int x, l2] (.int x :: st) h Q := T_iload_n c88_45 rfl
theorem c88_46 : cod 88 46 = some (.invokestatic 126, 3) := cod_of b88 dX7_great_46
theorem t88_46 {d : Nat} {h : Hp} {Q : Pst} {a0 : Nat} {a1 s0 : Int32} {ls : List Value} : T (d + 1) 88 46 ls [.int a1, .ref a0, .int s0] h Q ↔ T d 122 0 [.ref a0, .int a1] [] h (fun x h2 => T (d + 1) 88 49 ls (rl x [.int s0]) h2 Q) := T_staticR (as := [.ref a0, .int a1]) (r := [.int s0]) m88 m122 c88_46 k7_126 (Or.inl rfl) rfl (by decide) rfl (by simp [wrd, Value.category]) (by simp [stk, Value.category]) rfl
theorem c88_49 : cod 88 49 = some (.iload_n 2, 1) := cod_of b88 dX7_great_49
theorem t88_49 {d : Nat} {h : Hp} {Q : Pst} {l0 l1 : Value} {x : Int32} {st : List Value} : T d 88 49 [l0, l1, .int x] st h Q ↔ T d 88 50 [l0, l1, .int x] (.int x :: st) h Q := T_iload_n c88_49 rfl
theorem c88_50 : cod 88 50 = some (.invokestatic 186, 3) := cod_of b88 dX7_great_50
theorem t88_50 {d : Nat} {h : Hp} {Q : Pst} {a0 a1 a2 : Int32} {ls : List Value} : T (d + 1) 88 50 ls [.int a2, .int a1, .int a0] h Q ↔ T d 49 0 [.int a0, .int a1, .int a2, un, un, un] [] h (fun x h2 => T (d + 1) 88 53 ls (rl x []) h2 Q) := T_staticR (as := [.int a0, .int a1, .int a2]) (r := []) m88 m49 c88_50 k7_186 (Or.inl rfl) rfl (by decide) rfl (by simp [wrd, Value.category]) (by simp [stk, Value.category]) rfl
theorem c88_53 : cod 88 53 = some (.ireturn, 1) := cod_of b88 dX7_great_53
theorem t88_53 {d : Nat} {h : Hp} {Q : Pst} {x : Int32} {ls : List Value} : T d 88 53 ls [.int x] h Q ↔ Q (some (.int x)) h := T_iretR m88 c88_53 rfl
theorem c88_20 : cod 88 20 = some (.aload_n 0, 1) := cod_of b88 dX7_great_20
theorem t88_20 {d : Nat} {h : Hp} {Q : Pst} {l1 l2 : Value} {x : Nat} {st : List Value} : T d 88 20 [.ref x, l1, l2] st h Q ↔ T d 88 21 [.ref x, l1, l2] (.ref x :: st) h Q := T_aload_n c88_20 rfl
theorem c88_21 : cod 88 21 = some (.bipush (-2), 2) := cod_of b88 dX7_great_21
theorem t88_21 {d : Nat} {h : Hp} {Q : Pst} {ls : List Value} {st : List Value} : T d 88 21 ls st h Q ↔ T d 88 23 ls (.int (-2) :: st) h Q := T_bipushV c88_21 (by decide)
theorem c88_23 : cod 88 23 = some (.invokevirtual 66, 3) := cod_of b88 dX7_great_23
theorem t88_23 {d : Nat} {h : Hp} {Q : Pst} {a0 : Int32} {a : Nat} {ls : List Value} (ho : isO (h.2.2 a) 6) : T (d + 1) 88 23 ls [.int a0, .ref a] h Q ↔ T d 116 0 [.ref a, .int a0, un] [] h (fun x h2 => T (d + 1) 88 26 ls (rl x []) h2 Q) := T_virtualR (as := [.int a0]) (r := []) m88 m116 c88_23 k7_66  rfl (by decide) rfl (by simp [wrd, Value.category]) (by simp [stk, Value.category]) rfl (by decide +kernel) ho
theorem c88_26 : cod 88 26 = some (.ireturn, 1) := cod_of b88 dX7_great_26
theorem t88_26 {d : Nat} {h : Hp} {Q : Pst} {x : Int32} {ls : List Value} : T d 88 26 ls [.int x] h Q ↔ Q (some (.int x)) h := T_iretR m88 c88_26 rfl
theorem b89 : (mR 89).2.2.1 = cX7_stays := by rw [m89]
theorem c89_0 : cod 89 0 = some (.aload_n 0, 1) := cod_of b89 dX7_stays_0
theorem t89_0 {d : Nat} {h : Hp} {Q : Pst} {l1 l2 : Value} {x : Nat} {st : List Value} : T d 89 0 [.ref x, l1, l2] st h Q ↔ T d 89 1 [.ref x, l1, l2] (.ref x :: st) h Q := T_aload_n c89_0 rfl
theorem c89_1 : cod 89 1 = some (.getfield 10, 3) := cod_of b89 dX7_stays_1
theorem t89_1 {d : Nat} {h : Hp} {Q : Pst} {a : Nat} {ls : List Value} {st : List Value} : T d 89 1 ls (.ref a :: st) h Q ↔ gF (h.2.2 a) 6 0 (fun v => T d 89 4 ls (v :: st) h Q) := T_getfieldR m89 c89_1 f7_10
theorem c89_4 : cod 89 4 = some (.iload_n 1, 1) := cod_of b89 dX7_stays_4
theorem t89_4 {d : Nat} {h : Hp} {Q : Pst} {l0 l2 : Value} {x : Int32} {st : List Value} : T d 89 4 [l0, .int x, l2] st h Q ↔ T d 89 5 [l0, .int x, l2] (.int x :: st) h Q := T_iload_n c89_4 rfl
theorem c89_5 : cod 89 5 = some (.invokevirtual 116, 3) := cod_of b89 dX7_stays_5
theorem t89_5 {d : Nat} {h : Hp} {Q : Pst} {a0 : Int32} {a : Nat} {ls : List Value} (ho : isO (h.2.2 a) 5) : T (d + 1) 89 5 ls [.int a0, .ref a] h Q ↔ T d 55 0 [.ref a, .int a0] [] h (fun x h2 => T (d + 1) 89 8 ls (rl x []) h2 Q) := T_virtualR (as := [.int a0]) (r := []) m89 m55 c89_5 k7_116  rfl (by decide) rfl (by simp [wrd, Value.category]) (by simp [stk, Value.category]) rfl (by decide +kernel) ho
theorem c89_8 : cod 89 8 = some (.ifCond .eq 14, 3) := cod_of b89 dX7_stays_8
theorem t89_8 {d : Nat} {h : Hp} {Q : Pst} {x : Int32} {ls : List Value} {st : List Value} : T d 89 8 ls (.int x :: st) h Q ↔ (if x = 0 then T d 89 22 ls st h Q else T d 89 11 ls st h Q) := T_if_eq c89_8 (by decide)
theorem c89_11 : cod 89 11 = some (.aload_n 0, 1) := cod_of b89 dX7_stays_11
theorem t89_11 {d : Nat} {h : Hp} {Q : Pst} {l1 l2 : Value} {x : Nat} {st : List Value} : T d 89 11 [.ref x, l1, l2] st h Q ↔ T d 89 12 [.ref x, l1, l2] (.ref x :: st) h Q := T_aload_n c89_11 rfl
theorem c89_12 : cod 89 12 = some (.getfield 10, 3) := cod_of b89 dX7_stays_12
theorem t89_12 {d : Nat} {h : Hp} {Q : Pst} {a : Nat} {ls : List Value} {st : List Value} : T d 89 12 ls (.ref a :: st) h Q ↔ gF (h.2.2 a) 6 0 (fun v => T d 89 15 ls (v :: st) h Q) := T_getfieldR m89 c89_12 f7_10
theorem c89_15 : cod 89 15 = some (.iload_n 2, 1) := cod_of b89 dX7_stays_15
theorem t89_15 {d : Nat} {h : Hp} {Q : Pst} {l0 l1 : Value} {x : Int32} {st : List Value} : T d 89 15 [l0, l1, .int x] st h Q ↔ T d 89 16 [l0, l1, .int x] (.int x :: st) h Q := T_iload_n c89_15 rfl
theorem c89_16 : cod 89 16 = some (.invokevirtual 120, 3) := cod_of b89 dX7_stays_16
theorem t89_16 {d : Nat} {h : Hp} {Q : Pst} {a0 : Int32} {a : Nat} {ls : List Value} (ho : isO (h.2.2 a) 5) : T (d + 1) 89 16 ls [.int a0, .ref a] h Q ↔ T d 56 0 [.ref a, .int a0] [] h (fun x h2 => T (d + 1) 89 19 ls (rl x []) h2 Q) := T_virtualR (as := [.int a0]) (r := []) m89 m56 c89_16 k7_120  rfl (by decide) rfl (by simp [wrd, Value.category]) (by simp [stk, Value.category]) rfl (by decide +kernel) ho
theorem c89_19 : cod 89 19 = some (.ifCond .ne 10, 3) := cod_of b89 dX7_stays_19
theorem t89_19 {d : Nat} {h : Hp} {Q : Pst} {x : Int32} {ls : List Value} {st : List Value} : T d 89 19 ls (.int x :: st) h Q ↔ (if ¬ x = 0 then T d 89 29 ls st h Q else T d 89 22 ls st h Q) := T_if_ne c89_19 (by decide)
theorem c89_29 : cod 89 29 = some (.aload_n 0, 1) := cod_of b89 dX7_stays_29
theorem t89_29 {d : Nat} {h : Hp} {Q : Pst} {l1 l2 : Value} {x : Nat} {st : List Value} : T d 89 29 [.ref x, l1, l2] st h Q ↔ T d 89 30 [.ref x, l1, l2] (.ref x :: st) h Q := T_aload_n c89_29 rfl
theorem c89_30 : cod 89 30 = some (.getfield 10, 3) := cod_of b89 dX7_stays_30
theorem t89_30 {d : Nat} {h : Hp} {Q : Pst} {a : Nat} {ls : List Value} {st : List Value} : T d 89 30 ls (.ref a :: st) h Q ↔ gF (h.2.2 a) 6 0 (fun v => T d 89 33 ls (v :: st) h Q) := T_getfieldR m89 c89_30 f7_10
theorem c89_33 : cod 89 33 = some (.iload_n 1, 1) := cod_of b89 dX7_stays_33
theorem t89_33 {d : Nat} {h : Hp} {Q : Pst} {l0 l2 : Value} {x : Int32} {st : List Value} : T d 89 33 [l0, .int x, l2] st h Q ↔ T d 89 34 [l0, .int x, l2] (.int x :: st) h Q := T_iload_n c89_33 rfl
theorem c89_34 : cod 89 34 = some (.iload_n 2, 1) := cod_of b89 dX7_stays_34
theorem t89_34 {d : Nat} {h : Hp} {Q : Pst} {l0 l1 : Value} {x : Int32} {st : List Value} : T d 89 34 [l0, l1, .int x] st h Q ↔ T d 89 35 [l0, l1, .int x] (.int x :: st) h Q := T_iload_n c89_34 rfl
theorem c89_35 : cod 89 35 = some (.invokevirtual 137, 3) := cod_of b89 dX7_stays_35
theorem t89_35 {d : Nat} {h : Hp} {Q : Pst} {a0 a1 : Int32} {a : Nat} {ls : List Value} (ho : isO (h.2.2 a) 5) : T (d + 1) 89 35 ls [.int a1, .int a0, .ref a] h Q ↔ T d 62 0 [.ref a, .int a0, .int a1] [] h (fun x h2 => T (d + 1) 89 38 ls (rl x []) h2 Q) := T_virtualR (as := [.int a0, .int a1]) (r := []) m89 m62 c89_35 k7_137  rfl (by decide) rfl (by simp [wrd, Value.category]) (by simp [stk, Value.category]) rfl (by decide +kernel) ho
theorem c89_38 : cod 89 38 = some (.ireturn, 1) := cod_of b89 dX7_stays_38
theorem t89_38 {d : Nat} {h : Hp} {Q : Pst} {x : Int32} {ls : List Value} : T d 89 38 ls [.int x] h Q ↔ Q (some (.int x)) h := T_iretR m89 c89_38 rfl
theorem c89_22 : cod 89 22 = some (.aload_n 0, 1) := cod_of b89 dX7_stays_22
theorem t89_22 {d : Nat} {h : Hp} {Q : Pst} {l1 l2 : Value} {x : Nat} {st : List Value} : T d 89 22 [.ref x, l1, l2] st h Q ↔ T d 89 23 [.ref x, l1, l2] (.ref x :: st) h Q := T_aload_n c89_22 rfl
theorem c89_23 : cod 89 23 = some (.bipush (-2), 2) := cod_of b89 dX7_stays_23
theorem t89_23 {d : Nat} {h : Hp} {Q : Pst} {ls : List Value} {st : List Value} : T d 89 23 ls st h Q ↔ T d 89 25 ls (.int (-2) :: st) h Q := T_bipushV c89_23 (by decide)
theorem c89_25 : cod 89 25 = some (.invokevirtual 66, 3) := cod_of b89 dX7_stays_25
theorem t89_25 {d : Nat} {h : Hp} {Q : Pst} {a0 : Int32} {a : Nat} {ls : List Value} (ho : isO (h.2.2 a) 6) : T (d + 1) 89 25 ls [.int a0, .ref a] h Q ↔ T d 116 0 [.ref a, .int a0, un] [] h (fun x h2 => T (d + 1) 89 28 ls (rl x []) h2 Q) := T_virtualR (as := [.int a0]) (r := []) m89 m116 c89_25 k7_66  rfl (by decide) rfl (by simp [wrd, Value.category]) (by simp [stk, Value.category]) rfl (by decide +kernel) ho
theorem c89_28 : cod 89 28 = some (.ireturn, 1) := cod_of b89 dX7_stays_28
theorem t89_28 {d : Nat} {h : Hp} {Q : Pst} {x : Int32} {ls : List Value} : T d 89 28 ls [.int x] h Q ↔ Q (some (.int x)) h := T_iretR m89 c89_28 rfl
theorem b90 : (mR 90).2.2.1 = cX7_then := by rw [m90]
theorem c90_0 : cod 90 0 = some (.aload_n 0, 1) := cod_of b90 dX7_then_0
theorem t90_0 {d : Nat} {h : Hp} {Q : Pst} {l1 l2 : Value} {x : Nat} {st : List Value} : T d 90 0 [.ref x, l1, l2] st h Q ↔ T d 90 1 [.ref x, l1, l2] (.ref x :: st) h Q := T_aload_n c90_0 rfl
theorem c90_1 : cod 90 1 = some (.getfield 10, 3) := cod_of b90 dX7_then_1
theorem t90_1 {d : Nat} {h : Hp} {Q : Pst} {a : Nat} {ls : List Value} {st : List Value} : T d 90 1 ls (.ref a :: st) h Q ↔ gF (h.2.2 a) 6 0 (fun v => T d 90 4 ls (v :: st) h Q) := T_getfieldR m90 c90_1 f7_10
theorem c90_4 : cod 90 4 = some (.iload_n 1, 1) := cod_of b90 dX7_then_4
theorem t90_4 {d : Nat} {h : Hp} {Q : Pst} {l0 l2 : Value} {x : Int32} {st : List Value} : T d 90 4 [l0, .int x, l2] st h Q ↔ T d 90 5 [l0, .int x, l2] (.int x :: st) h Q := T_iload_n c90_4 rfl
theorem c90_5 : cod 90 5 = some (.invokevirtual 120, 3) := cod_of b90 dX7_then_5
theorem t90_5 {d : Nat} {h : Hp} {Q : Pst} {a0 : Int32} {a : Nat} {ls : List Value} (ho : isO (h.2.2 a) 5) : T (d + 1) 90 5 ls [.int a0, .ref a] h Q ↔ T d 56 0 [.ref a, .int a0] [] h (fun x h2 => T (d + 1) 90 8 ls (rl x []) h2 Q) := T_virtualR (as := [.int a0]) (r := []) m90 m56 c90_5 k7_120  rfl (by decide) rfl (by simp [wrd, Value.category]) (by simp [stk, Value.category]) rfl (by decide +kernel) ho
theorem c90_8 : cod 90 8 = some (.ifCond .eq 13, 3) := cod_of b90 dX7_then_8
theorem t90_8 {d : Nat} {h : Hp} {Q : Pst} {x : Int32} {ls : List Value} {st : List Value} : T d 90 8 ls (.int x :: st) h Q ↔ (if x = 0 then T d 90 21 ls st h Q else T d 90 11 ls st h Q) := T_if_eq c90_8 (by decide)
theorem c90_11 : cod 90 11 = some (.iload_n 2, 1) := cod_of b90 dX7_then_11
theorem t90_11 {d : Nat} {h : Hp} {Q : Pst} {l0 l1 : Value} {x : Int32} {st : List Value} : T d 90 11 [l0, l1, .int x] st h Q ↔ T d 90 12 [l0, l1, .int x] (.int x :: st) h Q := T_iload_n c90_11 rfl
theorem c90_12 : cod 90 12 = some (.iconst 0, 1) := cod_of b90 dX7_then_12
theorem t90_12 {d : Nat} {h : Hp} {Q : Pst} {ls : List Value} {st : List Value} : T d 90 12 ls st h Q ↔ T d 90 13 ls (.int 0 :: st) h Q := T_iconstV c90_12 (by decide)
theorem c90_13 : cod 90 13 = some (.bipush 60, 2) := cod_of b90 dX7_then_13
theorem t90_13 {d : Nat} {h : Hp} {Q : Pst} {ls : List Value} {st : List Value} : T d 90 13 ls st h Q ↔ T d 90 15 ls (.int 60 :: st) h Q := T_bipushV c90_13 (by decide)
theorem c90_15 : cod 90 15 = some (.invokestatic 62, 3) := cod_of b90 dX7_then_15
theorem t90_15 {d : Nat} {h : Hp} {Q : Pst} {a0 a1 a2 : Int32} {ls : List Value} : T (d + 1) 90 15 ls [.int a2, .int a1, .int a0] h Q ↔ T d 118 0 [.int a0, .int a1, .int a2] [] h (fun x h2 => T (d + 1) 90 18 ls (rl x []) h2 Q) := T_staticR (as := [.int a0, .int a1, .int a2]) (r := []) m90 m118 c90_15 k7_62 (Or.inl rfl) rfl (by decide) rfl (by simp [wrd, Value.category]) (by simp [stk, Value.category]) rfl
theorem c90_18 : cod 90 18 = some (.ifCond .ne 10, 3) := cod_of b90 dX7_then_18
theorem t90_18 {d : Nat} {h : Hp} {Q : Pst} {x : Int32} {ls : List Value} {st : List Value} : T d 90 18 ls (.int x :: st) h Q ↔ (if ¬ x = 0 then T d 90 28 ls st h Q else T d 90 21 ls st h Q) := T_if_ne c90_18 (by decide)
theorem c90_28 : cod 90 28 = some (.aload_n 0, 1) := cod_of b90 dX7_then_28
theorem t90_28 {d : Nat} {h : Hp} {Q : Pst} {l1 l2 : Value} {x : Nat} {st : List Value} : T d 90 28 [.ref x, l1, l2] st h Q ↔ T d 90 29 [.ref x, l1, l2] (.ref x :: st) h Q := T_aload_n c90_28 rfl
theorem c90_29 : cod 90 29 = some (.getfield 10, 3) := cod_of b90 dX7_then_29
theorem t90_29 {d : Nat} {h : Hp} {Q : Pst} {a : Nat} {ls : List Value} {st : List Value} : T d 90 29 ls (.ref a :: st) h Q ↔ gF (h.2.2 a) 6 0 (fun v => T d 90 32 ls (v :: st) h Q) := T_getfieldR m90 c90_29 f7_10
theorem c90_32 : cod 90 32 = some (.iload_n 1, 1) := cod_of b90 dX7_then_32
theorem t90_32 {d : Nat} {h : Hp} {Q : Pst} {l0 l2 : Value} {x : Int32} {st : List Value} : T d 90 32 [l0, .int x, l2] st h Q ↔ T d 90 33 [l0, .int x, l2] (.int x :: st) h Q := T_iload_n c90_32 rfl
theorem c90_33 : cod 90 33 = some (.iload_n 2, 1) := cod_of b90 dX7_then_33
theorem t90_33 {d : Nat} {h : Hp} {Q : Pst} {l0 l1 : Value} {x : Int32} {st : List Value} : T d 90 33 [l0, l1, .int x] st h Q ↔ T d 90 34 [l0, l1, .int x] (.int x :: st) h Q := T_iload_n c90_33 rfl
theorem c90_34 : cod 90 34 = some (.invokevirtual 192, 3) := cod_of b90 dX7_then_34
theorem t90_34 {d : Nat} {h : Hp} {Q : Pst} {a0 a1 : Int32} {a : Nat} {ls : List Value} (ho : isO (h.2.2 a) 5) : T (d + 1) 90 34 ls [.int a1, .int a0, .ref a] h Q ↔ T d 70 0 [.ref a, .int a0, .int a1, un] [] h (fun x h2 => T (d + 1) 90 37 ls (rl x []) h2 Q) := T_virtualR (as := [.int a0, .int a1]) (r := []) m90 m70 c90_34 k7_192  rfl (by decide) rfl (by simp [wrd, Value.category]) (by simp [stk, Value.category]) rfl (by decide +kernel) ho
theorem c90_37 : cod 90 37 = some (.ireturn, 1) := cod_of b90 dX7_then_37
theorem t90_37 {d : Nat} {h : Hp} {Q : Pst} {x : Int32} {ls : List Value} : T d 90 37 ls [.int x] h Q ↔ Q (some (.int x)) h := T_iretR m90 c90_37 rfl
theorem c90_21 : cod 90 21 = some (.aload_n 0, 1) := cod_of b90 dX7_then_21
theorem t90_21 {d : Nat} {h : Hp} {Q : Pst} {l1 l2 : Value} {x : Nat} {st : List Value} : T d 90 21 [.ref x, l1, l2] st h Q ↔ T d 90 22 [.ref x, l1, l2] (.ref x :: st) h Q := T_aload_n c90_21 rfl
theorem c90_22 : cod 90 22 = some (.bipush (-2), 2) := cod_of b90 dX7_then_22
theorem t90_22 {d : Nat} {h : Hp} {Q : Pst} {ls : List Value} {st : List Value} : T d 90 22 ls st h Q ↔ T d 90 24 ls (.int (-2) :: st) h Q := T_bipushV c90_22 (by decide)
theorem c90_24 : cod 90 24 = some (.invokevirtual 66, 3) := cod_of b90 dX7_then_24
theorem t90_24 {d : Nat} {h : Hp} {Q : Pst} {a0 : Int32} {a : Nat} {ls : List Value} (ho : isO (h.2.2 a) 6) : T (d + 1) 90 24 ls [.int a0, .ref a] h Q ↔ T d 116 0 [.ref a, .int a0, un] [] h (fun x h2 => T (d + 1) 90 27 ls (rl x []) h2 Q) := T_virtualR (as := [.int a0]) (r := []) m90 m116 c90_24 k7_66  rfl (by decide) rfl (by simp [wrd, Value.category]) (by simp [stk, Value.category]) rfl (by decide +kernel) ho
theorem c90_27 : cod 90 27 = some (.ireturn, 1) := cod_of b90 dX7_then_27
theorem t90_27 {d : Nat} {h : Hp} {Q : Pst} {x : Int32} {ls : List Value} : T d 90 27 ls [.int x] h Q ↔ Q (some (.int x)) h := T_iretR m90 c90_27 rfl
theorem b91 : (mR 91).2.2.1 = cX7_when := by rw [m91]
theorem c91_0 : cod 91 0 = some (.aload_n 0, 1) := cod_of b91 dX7_when_0
theorem t91_0 {d : Nat} {h : Hp} {Q : Pst} {l1 l2 l3 : Value} {x : Nat} {st : List Value} : T d 91 0 [.ref x, l1, l2, l3] st h Q ↔ T d 91 1 [.ref x, l1, l2, l3] (.ref x :: st) h Q := T_aload_n c91_0 rfl
theorem c91_1 : cod 91 1 = some (.getfield 10, 3) := cod_of b91 dX7_when_1
theorem t91_1 {d : Nat} {h : Hp} {Q : Pst} {a : Nat} {ls : List Value} {st : List Value} : T d 91 1 ls (.ref a :: st) h Q ↔ gF (h.2.2 a) 6 0 (fun v => T d 91 4 ls (v :: st) h Q) := T_getfieldR m91 c91_1 f7_10
theorem c91_4 : cod 91 4 = some (.iload_n 1, 1) := cod_of b91 dX7_when_4
theorem t91_4 {d : Nat} {h : Hp} {Q : Pst} {l0 l2 l3 : Value} {x : Int32} {st : List Value} : T d 91 4 [l0, .int x, l2, l3] st h Q ↔ T d 91 5 [l0, .int x, l2, l3] (.int x :: st) h Q := T_iload_n c91_4 rfl
theorem c91_5 : cod 91 5 = some (.invokevirtual 120, 3) := cod_of b91 dX7_when_5
theorem t91_5 {d : Nat} {h : Hp} {Q : Pst} {a0 : Int32} {a : Nat} {ls : List Value} (ho : isO (h.2.2 a) 5) : T (d + 1) 91 5 ls [.int a0, .ref a] h Q ↔ T d 56 0 [.ref a, .int a0] [] h (fun x h2 => T (d + 1) 91 8 ls (rl x []) h2 Q) := T_virtualR (as := [.int a0]) (r := []) m91 m56 c91_5 k7_120  rfl (by decide) rfl (by simp [wrd, Value.category]) (by simp [stk, Value.category]) rfl (by decide +kernel) ho
theorem c91_8 : cod 91 8 = some (.ifCond .eq 14, 3) := cod_of b91 dX7_when_8
theorem t91_8 {d : Nat} {h : Hp} {Q : Pst} {x : Int32} {ls : List Value} {st : List Value} : T d 91 8 ls (.int x :: st) h Q ↔ (if x = 0 then T d 91 22 ls st h Q else T d 91 11 ls st h Q) := T_if_eq c91_8 (by decide)
theorem c91_11 : cod 91 11 = some (.iload_n 2, 1) := cod_of b91 dX7_when_11
theorem t91_11 {d : Nat} {h : Hp} {Q : Pst} {l0 l1 l3 : Value} {x : Int32} {st : List Value} : T d 91 11 [l0, l1, .int x, l3] st h Q ↔ T d 91 12 [l0, l1, .int x, l3] (.int x :: st) h Q := T_iload_n c91_11 rfl
theorem c91_12 : cod 91 12 = some (.iconst 1, 1) := cod_of b91 dX7_when_12
theorem t91_12 {d : Nat} {h : Hp} {Q : Pst} {ls : List Value} {st : List Value} : T d 91 12 ls st h Q ↔ T d 91 13 ls (.int 1 :: st) h Q := T_iconstV c91_12 (by decide)
theorem c91_13 : cod 91 13 = some (.sipush 999, 3) := cod_of b91 dX7_when_13
theorem t91_13 {d : Nat} {h : Hp} {Q : Pst} {ls : List Value} {st : List Value} : T d 91 13 ls st h Q ↔ T d 91 16 ls (.int 999 :: st) h Q := T_sipushV c91_13 (by decide)
theorem c91_16 : cod 91 16 = some (.invokestatic 62, 3) := cod_of b91 dX7_when_16
theorem t91_16 {d : Nat} {h : Hp} {Q : Pst} {a0 a1 a2 : Int32} {ls : List Value} : T (d + 1) 91 16 ls [.int a2, .int a1, .int a0] h Q ↔ T d 118 0 [.int a0, .int a1, .int a2] [] h (fun x h2 => T (d + 1) 91 19 ls (rl x []) h2 Q) := T_staticR (as := [.int a0, .int a1, .int a2]) (r := []) m91 m118 c91_16 k7_62 (Or.inl rfl) rfl (by decide) rfl (by simp [wrd, Value.category]) (by simp [stk, Value.category]) rfl
theorem c91_19 : cod 91 19 = some (.ifCond .ne 10, 3) := cod_of b91 dX7_when_19
theorem t91_19 {d : Nat} {h : Hp} {Q : Pst} {x : Int32} {ls : List Value} {st : List Value} : T d 91 19 ls (.int x :: st) h Q ↔ (if ¬ x = 0 then T d 91 29 ls st h Q else T d 91 22 ls st h Q) := T_if_ne c91_19 (by decide)
theorem c91_29 : cod 91 29 = some (.iconst 0, 1) := cod_of b91 dX7_when_29
theorem t91_29 {d : Nat} {h : Hp} {Q : Pst} {ls : List Value} {st : List Value} : T d 91 29 ls st h Q ↔ T d 91 30 ls (.int 0 :: st) h Q := T_iconstV c91_29 (by decide)
theorem c91_30 : cod 91 30 = some (.istore_n 3, 1) := cod_of b91 dX7_when_30
theorem t91_30 {d : Nat} {h : Hp} {Q : Pst} {l0 l1 l2 l3 : Value} {x : Int32} {st : List Value} : T d 91 30 [l0, l1, l2, l3] (.int x :: st) h Q ↔ T d 91 31 [l0, l1, kil l2, .int x] st h Q := T_istore_n c91_30 (Nat.le_of_ble_eq_true rfl)
theorem c91_31 : cod 91 31 = some (.iload_n 3, 1) := cod_of b91 dX7_when_31
theorem t91_31 {d : Nat} {h : Hp} {Q : Pst} {l0 l1 l2 : Value} {x : Int32} {st : List Value} : T d 91 31 [l0, l1, l2, .int x] st h Q ↔ T d 91 32 [l0, l1, l2, .int x] (.int x :: st) h Q := T_iload_n c91_31 rfl
theorem c91_32 : cod 91 32 = some (.bipush 60, 2) := cod_of b91 dX7_when_32
theorem t91_32 {d : Nat} {h : Hp} {Q : Pst} {ls : List Value} {st : List Value} : T d 91 32 ls st h Q ↔ T d 91 34 ls (.int 60 :: st) h Q := T_bipushV c91_32 (by decide)
theorem c91_34 : cod 91 34 = some (.if_icmp .gt 24, 3) := cod_of b91 dX7_when_34
theorem t91_34 {d : Nat} {h : Hp} {Q : Pst} {x y : Int32} {ls : List Value} {st : List Value} : T d 91 34 ls (.int y :: .int x :: st) h Q ↔ (if y < x then T d 91 58 ls st h Q else T d 91 37 ls st h Q) := T_icmp_gt c91_34 (by decide)
theorem c91_37 : cod 91 37 = some (.aload_n 0, 1) := cod_of b91 dX7_when_37
theorem t91_37 {d : Nat} {h : Hp} {Q : Pst} {l1 l2 l3 : Value} {x : Nat} {st : List Value} : T d 91 37 [.ref x, l1, l2, l3] st h Q ↔ T d 91 38 [.ref x, l1, l2, l3] (.ref x :: st) h Q := T_aload_n c91_37 rfl
theorem c91_38 : cod 91 38 = some (.getfield 10, 3) := cod_of b91 dX7_when_38
theorem t91_38 {d : Nat} {h : Hp} {Q : Pst} {a : Nat} {ls : List Value} {st : List Value} : T d 91 38 ls (.ref a :: st) h Q ↔ gF (h.2.2 a) 6 0 (fun v => T d 91 41 ls (v :: st) h Q) := T_getfieldR m91 c91_38 f7_10
theorem c91_41 : cod 91 41 = some (.iload_n 1, 1) := cod_of b91 dX7_when_41
theorem t91_41 {d : Nat} {h : Hp} {Q : Pst} {l0 l2 l3 : Value} {x : Int32} {st : List Value} : T d 91 41 [l0, .int x, l2, l3] st h Q ↔ T d 91 42 [l0, .int x, l2, l3] (.int x :: st) h Q := T_iload_n c91_41 rfl
theorem c91_42 : cod 91 42 = some (.iload_n 3, 1) := cod_of b91 dX7_when_42
theorem t91_42 {d : Nat} {h : Hp} {Q : Pst} {l0 l1 l2 : Value} {x : Int32} {st : List Value} : T d 91 42 [l0, l1, l2, .int x] st h Q ↔ T d 91 43 [l0, l1, l2, .int x] (.int x :: st) h Q := T_iload_n c91_42 rfl
theorem c91_43 : cod 91 43 = some (.invokevirtual 192, 3) := cod_of b91 dX7_when_43
theorem t91_43 {d : Nat} {h : Hp} {Q : Pst} {a0 a1 : Int32} {a : Nat} {ls : List Value} (ho : isO (h.2.2 a) 5) : T (d + 1) 91 43 ls [.int a1, .int a0, .ref a] h Q ↔ T d 70 0 [.ref a, .int a0, .int a1, un] [] h (fun x h2 => T (d + 1) 91 46 ls (rl x []) h2 Q) := T_virtualR (as := [.int a0, .int a1]) (r := []) m91 m70 c91_43 k7_192  rfl (by decide) rfl (by simp [wrd, Value.category]) (by simp [stk, Value.category]) rfl (by decide +kernel) ho
theorem c91_46 : cod 91 46 = some (.iload_n 2, 1) := cod_of b91 dX7_when_46
theorem t91_46 {d : Nat} {h : Hp} {Q : Pst} {l0 l1 l3 : Value} {x : Int32} {st : List Value} : T d 91 46 [l0, l1, .int x, l3] st h Q ↔ T d 91 47 [l0, l1, .int x, l3] (.int x :: st) h Q := T_iload_n c91_46 rfl
theorem c91_47 : cod 91 47 = some (.if_icmp .lt 5, 3) := cod_of b91 dX7_when_47
theorem t91_47 {d : Nat} {h : Hp} {Q : Pst} {x y : Int32} {ls : List Value} {st : List Value} : T d 91 47 ls (.int y :: .int x :: st) h Q ↔ (if x < y then T d 91 52 ls st h Q else T d 91 50 ls st h Q) := T_icmp_lt c91_47 (by decide)
theorem c91_50 : cod 91 50 = some (.iload_n 3, 1) := cod_of b91 dX7_when_50
theorem t91_50 {d : Nat} {h : Hp} {Q : Pst} {l0 l1 l2 : Value} {x : Int32} {st : List Value} : T d 91 50 [l0, l1, l2, .int x] st h Q ↔ T d 91 51 [l0, l1, l2, .int x] (.int x :: st) h Q := T_iload_n c91_50 rfl
theorem c91_51 : cod 91 51 = some (.ireturn, 1) := cod_of b91 dX7_when_51
theorem t91_51 {d : Nat} {h : Hp} {Q : Pst} {x : Int32} {ls : List Value} : T d 91 51 ls [.int x] h Q ↔ Q (some (.int x)) h := T_iretR m91 c91_51 rfl
theorem c91_52 : cod 91 52 = some (.iinc 3 1, 3) := cod_of b91 dX7_when_52
theorem t91_52 {d : Nat} {h : Hp} {Q : Pst} {l0 l1 l2 : Value} {x : Int32} {st : List Value} : T d 91 52 [l0, l1, l2, .int x] st h Q ↔ T d 91 55 [l0, l1, kil l2, .int (x + 1)] st h Q := T_iincV c91_52 rfl (Nat.le_of_ble_eq_true rfl) (by decide) rfl
theorem c91_55 : cod 91 55 = some (.goto (-24), 3) := cod_of b91 dX7_when_55
theorem t91_55 {d : Nat} {h : Hp} {Q : Pst} {ls : List Value} {st : List Value} : T d 91 55 ls st h Q ↔ T d 91 31 ls st h Q := T_goto c91_55 (by decide)
theorem c91_58 : cod 91 58 = some (.iconst (-1), 1) := cod_of b91 dX7_when_58
theorem t91_58 {d : Nat} {h : Hp} {Q : Pst} {ls : List Value} {st : List Value} : T d 91 58 ls st h Q ↔ T d 91 59 ls (.int (-1) :: st) h Q := T_iconstV c91_58 (by decide)
theorem c91_59 : cod 91 59 = some (.ireturn, 1) := cod_of b91 dX7_when_59
theorem t91_59 {d : Nat} {h : Hp} {Q : Pst} {x : Int32} {ls : List Value} : T d 91 59 ls [.int x] h Q ↔ Q (some (.int x)) h := T_iretR m91 c91_59 rfl
theorem c91_22 : cod 91 22 = some (.aload_n 0, 1) := cod_of b91 dX7_when_22
theorem t91_22 {d : Nat} {h : Hp} {Q : Pst} {l1 l2 l3 : Value} {x : Nat} {st : List Value} : T d 91 22 [.ref x, l1, l2, l3] st h Q ↔ T d 91 23 [.ref x, l1, l2, l3] (.ref x :: st) h Q := T_aload_n c91_22 rfl
theorem c91_23 : cod 91 23 = some (.bipush (-2), 2) := cod_of b91 dX7_when_23
theorem t91_23 {d : Nat} {h : Hp} {Q : Pst} {ls : List Value} {st : List Value} : T d 91 23 ls st h Q ↔ T d 91 25 ls (.int (-2) :: st) h Q := T_bipushV c91_23 (by decide)
theorem c91_25 : cod 91 25 = some (.invokevirtual 66, 3) := cod_of b91 dX7_when_25
theorem t91_25 {d : Nat} {h : Hp} {Q : Pst} {a0 : Int32} {a : Nat} {ls : List Value} (ho : isO (h.2.2 a) 6) : T (d + 1) 91 25 ls [.int a0, .ref a] h Q ↔ T d 116 0 [.ref a, .int a0, un] [] h (fun x h2 => T (d + 1) 91 28 ls (rl x []) h2 Q) := T_virtualR (as := [.int a0]) (r := []) m91 m116 c91_25 k7_66  rfl (by decide) rfl (by simp [wrd, Value.category]) (by simp [stk, Value.category]) rfl (by decide +kernel) ho
theorem c91_28 : cod 91 28 = some (.ireturn, 1) := cod_of b91 dX7_when_28
theorem t91_28 {d : Nat} {h : Hp} {Q : Pst} {x : Int32} {ls : List Value} : T d 91 28 ls [.int x] h Q ↔ Q (some (.int x)) h := T_iretR m91 c91_28 rfl
theorem b92 : (mR 92).2.2.1 = cX7_most := by rw [m92]
theorem c92_0 : cod 92 0 = some (.aload_n 0, 1) := cod_of b92 dX7_most_0
theorem t92_0 {d : Nat} {h : Hp} {Q : Pst} {l1 l2 l3 l4 l5 l6 : Value} {x : Nat} {st : List Value} : T d 92 0 [.ref x, l1, l2, l3, l4, l5, l6] st h Q ↔ T d 92 1 [.ref x, l1, l2, l3, l4, l5, l6] (.ref x :: st) h Q := T_aload_n c92_0 rfl
theorem c92_1 : cod 92 1 = some (.getfield 10, 3) := cod_of b92 dX7_most_1
theorem t92_1 {d : Nat} {h : Hp} {Q : Pst} {a : Nat} {ls : List Value} {st : List Value} : T d 92 1 ls (.ref a :: st) h Q ↔ gF (h.2.2 a) 6 0 (fun v => T d 92 4 ls (v :: st) h Q) := T_getfieldR m92 c92_1 f7_10
theorem c92_4 : cod 92 4 = some (.iload_n 1, 1) := cod_of b92 dX7_most_4
theorem t92_4 {d : Nat} {h : Hp} {Q : Pst} {l0 l2 l3 l4 l5 l6 : Value} {x : Int32} {st : List Value} : T d 92 4 [l0, .int x, l2, l3, l4, l5, l6] st h Q ↔ T d 92 5 [l0, .int x, l2, l3, l4, l5, l6] (.int x :: st) h Q := T_iload_n c92_4 rfl
theorem c92_5 : cod 92 5 = some (.invokevirtual 116, 3) := cod_of b92 dX7_most_5
theorem t92_5 {d : Nat} {h : Hp} {Q : Pst} {a0 : Int32} {a : Nat} {ls : List Value} (ho : isO (h.2.2 a) 5) : T (d + 1) 92 5 ls [.int a0, .ref a] h Q ↔ T d 55 0 [.ref a, .int a0] [] h (fun x h2 => T (d + 1) 92 8 ls (rl x []) h2 Q) := T_virtualR (as := [.int a0]) (r := []) m92 m55 c92_5 k7_116  rfl (by decide) rfl (by simp [wrd, Value.category]) (by simp [stk, Value.category]) rfl (by decide +kernel) ho
theorem c92_8 : cod 92 8 = some (.ifCond .eq 12, 3) := cod_of b92 dX7_most_8
theorem t92_8 {d : Nat} {h : Hp} {Q : Pst} {x : Int32} {ls : List Value} {st : List Value} : T d 92 8 ls (.int x :: st) h Q ↔ (if x = 0 then T d 92 20 ls st h Q else T d 92 11 ls st h Q) := T_if_eq c92_8 (by decide)
theorem c92_11 : cod 92 11 = some (.iload_n 2, 1) := cod_of b92 dX7_most_11
theorem t92_11 {d : Nat} {h : Hp} {Q : Pst} {l0 l1 l3 l4 l5 l6 : Value} {x : Int32} {st : List Value} : T d 92 11 [l0, l1, .int x, l3, l4, l5, l6] st h Q ↔ T d 92 12 [l0, l1, .int x, l3, l4, l5, l6] (.int x :: st) h Q := T_iload_n c92_11 rfl
theorem c92_12 : cod 92 12 = some (.iconst 0, 1) := cod_of b92 dX7_most_12
theorem t92_12 {d : Nat} {h : Hp} {Q : Pst} {ls : List Value} {st : List Value} : T d 92 12 ls st h Q ↔ T d 92 13 ls (.int 0 :: st) h Q := T_iconstV c92_12 (by decide)
theorem c92_13 : cod 92 13 = some (.iconst 1, 1) := cod_of b92 dX7_most_13
theorem t92_13 {d : Nat} {h : Hp} {Q : Pst} {ls : List Value} {st : List Value} : T d 92 13 ls st h Q ↔ T d 92 14 ls (.int 1 :: st) h Q := T_iconstV c92_13 (by decide)
theorem c92_14 : cod 92 14 = some (.invokestatic 62, 3) := cod_of b92 dX7_most_14
theorem t92_14 {d : Nat} {h : Hp} {Q : Pst} {a0 a1 a2 : Int32} {ls : List Value} : T (d + 1) 92 14 ls [.int a2, .int a1, .int a0] h Q ↔ T d 118 0 [.int a0, .int a1, .int a2] [] h (fun x h2 => T (d + 1) 92 17 ls (rl x []) h2 Q) := T_staticR (as := [.int a0, .int a1, .int a2]) (r := []) m92 m118 c92_14 k7_62 (Or.inl rfl) rfl (by decide) rfl (by simp [wrd, Value.category]) (by simp [stk, Value.category]) rfl
theorem c92_17 : cod 92 17 = some (.ifCond .ne 10, 3) := cod_of b92 dX7_most_17
theorem t92_17 {d : Nat} {h : Hp} {Q : Pst} {x : Int32} {ls : List Value} {st : List Value} : T d 92 17 ls (.int x :: st) h Q ↔ (if ¬ x = 0 then T d 92 27 ls st h Q else T d 92 20 ls st h Q) := T_if_ne c92_17 (by decide)
theorem c92_27 : cod 92 27 = some (.iconst (-1), 1) := cod_of b92 dX7_most_27
theorem t92_27 {d : Nat} {h : Hp} {Q : Pst} {ls : List Value} {st : List Value} : T d 92 27 ls st h Q ↔ T d 92 28 ls (.int (-1) :: st) h Q := T_iconstV c92_27 (by decide)
theorem c92_28 : cod 92 28 = some (.istore_n 3, 1) := cod_of b92 dX7_most_28
theorem t92_28 {d : Nat} {h : Hp} {Q : Pst} {l0 l1 l2 l3 l4 l5 l6 : Value} {x : Int32} {st : List Value} : T d 92 28 [l0, l1, l2, l3, l4, l5, l6] (.int x :: st) h Q ↔ T d 92 29 [l0, l1, kil l2, .int x, l4, l5, l6] st h Q := T_istore_n c92_28 (Nat.le_of_ble_eq_true rfl)
theorem c92_29 : cod 92 29 = some (.iconst 0, 1) := cod_of b92 dX7_most_29
theorem t92_29 {d : Nat} {h : Hp} {Q : Pst} {ls : List Value} {st : List Value} : T d 92 29 ls st h Q ↔ T d 92 30 ls (.int 0 :: st) h Q := T_iconstV c92_29 (by decide)
theorem c92_30 : cod 92 30 = some (.istore 4, 2) := cod_of b92 dX7_most_30
theorem t92_30 {d : Nat} {h : Hp} {Q : Pst} {l0 l1 l2 l3 l4 l5 l6 : Value} {x : Int32} {st : List Value} : T d 92 30 [l0, l1, l2, l3, l4, l5, l6] (.int x :: st) h Q ↔ T d 92 32 [l0, l1, l2, kil l3, .int x, l5, l6] st h Q := T_istore c92_30 (Nat.le_of_ble_eq_true rfl)
theorem c92_32 : cod 92 32 = some (.iconst 0, 1) := cod_of b92 dX7_most_32
theorem t92_32 {d : Nat} {h : Hp} {Q : Pst} {ls : List Value} {st : List Value} : T d 92 32 ls st h Q ↔ T d 92 33 ls (.int 0 :: st) h Q := T_iconstV c92_32 (by decide)
theorem c92_33 : cod 92 33 = some (.istore 5, 2) := cod_of b92 dX7_most_33
theorem t92_33 {d : Nat} {h : Hp} {Q : Pst} {l0 l1 l2 l3 l4 l5 l6 : Value} {x : Int32} {st : List Value} : T d 92 33 [l0, l1, l2, l3, l4, l5, l6] (.int x :: st) h Q ↔ T d 92 35 [l0, l1, l2, l3, kil l4, .int x, l6] st h Q := T_istore c92_33 (Nat.le_of_ble_eq_true rfl)
theorem c92_35 : cod 92 35 = some (.iload 5, 2) := cod_of b92 dX7_most_35
theorem t92_35 {d : Nat} {h : Hp} {Q : Pst} {l0 l1 l2 l3 l4 l6 : Value} {x : Int32} {st : List Value} : T d 92 35 [l0, l1, l2, l3, l4, .int x, l6] st h Q ↔ T d 92 37 [l0, l1, l2, l3, l4, .int x, l6] (.int x :: st) h Q := T_iload c92_35 rfl
theorem c92_37 : cod 92 37 = some (.aload_n 0, 1) := cod_of b92 dX7_most_37
theorem t92_37 {d : Nat} {h : Hp} {Q : Pst} {l1 l2 l3 l4 l5 l6 : Value} {x : Nat} {st : List Value} : T d 92 37 [.ref x, l1, l2, l3, l4, l5, l6] st h Q ↔ T d 92 38 [.ref x, l1, l2, l3, l4, l5, l6] (.ref x :: st) h Q := T_aload_n c92_37 rfl
theorem c92_38 : cod 92 38 = some (.getfield 10, 3) := cod_of b92 dX7_most_38
theorem t92_38 {d : Nat} {h : Hp} {Q : Pst} {a : Nat} {ls : List Value} {st : List Value} : T d 92 38 ls (.ref a :: st) h Q ↔ gF (h.2.2 a) 6 0 (fun v => T d 92 41 ls (v :: st) h Q) := T_getfieldR m92 c92_38 f7_10
theorem c92_41 : cod 92 41 = some (.getfield 81, 3) := cod_of b92 dX7_most_41
theorem t92_41 {d : Nat} {h : Hp} {Q : Pst} {a : Nat} {ls : List Value} {st : List Value} : T d 92 41 ls (.ref a :: st) h Q ↔ gF (h.2.2 a) 5 11 (fun v => T d 92 44 ls (v :: st) h Q) := T_getfieldR m92 c92_41 f7_81
theorem c92_44 : cod 92 44 = some (.if_icmp .ge 40, 3) := cod_of b92 dX7_most_44
theorem t92_44 {d : Nat} {h : Hp} {Q : Pst} {x y : Int32} {ls : List Value} {st : List Value} : T d 92 44 ls (.int y :: .int x :: st) h Q ↔ (if y ≤ x then T d 92 84 ls st h Q else T d 92 47 ls st h Q) := T_icmp_ge c92_44 (by decide)
theorem c92_47 : cod 92 47 = some (.aload_n 0, 1) := cod_of b92 dX7_most_47
theorem t92_47 {d : Nat} {h : Hp} {Q : Pst} {l1 l2 l3 l4 l5 l6 : Value} {x : Nat} {st : List Value} : T d 92 47 [.ref x, l1, l2, l3, l4, l5, l6] st h Q ↔ T d 92 48 [.ref x, l1, l2, l3, l4, l5, l6] (.ref x :: st) h Q := T_aload_n c92_47 rfl
theorem c92_48 : cod 92 48 = some (.getfield 10, 3) := cod_of b92 dX7_most_48
theorem t92_48 {d : Nat} {h : Hp} {Q : Pst} {a : Nat} {ls : List Value} {st : List Value} : T d 92 48 ls (.ref a :: st) h Q ↔ gF (h.2.2 a) 6 0 (fun v => T d 92 51 ls (v :: st) h Q) := T_getfieldR m92 c92_48 f7_10
theorem c92_51 : cod 92 51 = some (.iload_n 1, 1) := cod_of b92 dX7_most_51
theorem t92_51 {d : Nat} {h : Hp} {Q : Pst} {l0 l2 l3 l4 l5 l6 : Value} {x : Int32} {st : List Value} : T d 92 51 [l0, .int x, l2, l3, l4, l5, l6] st h Q ↔ T d 92 52 [l0, .int x, l2, l3, l4, l5, l6] (.int x :: st) h Q := T_iload_n c92_51 rfl
theorem c92_52 : cod 92 52 = some (.iload 5, 2) := cod_of b92 dX7_most_52
theorem t92_52 {d : Nat} {h : Hp} {Q : Pst} {l0 l1 l2 l3 l4 l6 : Value} {x : Int32} {st : List Value} : T d 92 52 [l0, l1, l2, l3, l4, .int x, l6] st h Q ↔ T d 92 54 [l0, l1, l2, l3, l4, .int x, l6] (.int x :: st) h Q := T_iload c92_52 rfl
theorem c92_54 : cod 92 54 = some (.invokevirtual 195, 3) := cod_of b92 dX7_most_54
theorem t92_54 {d : Nat} {h : Hp} {Q : Pst} {a0 a1 : Int32} {a : Nat} {ls : List Value} (ho : isO (h.2.2 a) 5) : T (d + 1) 92 54 ls [.int a1, .int a0, .ref a] h Q ↔ T d 63 0 [.ref a, .int a0, .int a1] [] h (fun x h2 => T (d + 1) 92 57 ls (rl x []) h2 Q) := T_virtualR (as := [.int a0, .int a1]) (r := []) m92 m63 c92_54 k7_195  rfl (by decide) rfl (by simp [wrd, Value.category]) (by simp [stk, Value.category]) rfl (by decide +kernel) ho
theorem c92_57 : cod 92 57 = some (.istore 6, 2) := cod_of b92 dX7_most_57
theorem t92_57 {d : Nat} {h : Hp} {Q : Pst} {l0 l1 l2 l3 l4 l5 l6 : Value} {x : Int32} {st : List Value} : T d 92 57 [l0, l1, l2, l3, l4, l5, l6] (.int x :: st) h Q ↔ T d 92 59 [l0, l1, l2, l3, l4, kil l5, .int x] st h Q := T_istore c92_57 (Nat.le_of_ble_eq_true rfl)
theorem c92_59 : cod 92 59 = some (.iload_n 3, 1) := cod_of b92 dX7_most_59
theorem t92_59 {d : Nat} {h : Hp} {Q : Pst} {l0 l1 l2 l4 l5 l6 : Value} {x : Int32} {st : List Value} : T d 92 59 [l0, l1, l2, .int x, l4, l5, l6] st h Q ↔ T d 92 60 [l0, l1, l2, .int x, l4, l5, l6] (.int x :: st) h Q := T_iload_n c92_59 rfl
theorem c92_60 : cod 92 60 = some (.iconst (-1), 1) := cod_of b92 dX7_most_60
theorem t92_60 {d : Nat} {h : Hp} {Q : Pst} {ls : List Value} {st : List Value} : T d 92 60 ls st h Q ↔ T d 92 61 ls (.int (-1) :: st) h Q := T_iconstV c92_60 (by decide)
theorem c92_61 : cod 92 61 = some (.if_icmp .eq 10, 3) := cod_of b92 dX7_most_61
theorem t92_61 {d : Nat} {h : Hp} {Q : Pst} {x y : Int32} {ls : List Value} {st : List Value} : T d 92 61 ls (.int y :: .int x :: st) h Q ↔ (if x = y then T d 92 71 ls st h Q else T d 92 64 ls st h Q) := T_icmp_eq c92_61 (by decide)
theorem c92_64 : cod 92 64 = some (.iload 6, 2) := cod_of b92 dX7_most_64
theorem t92_64 {d : Nat} {h : Hp} {Q : Pst} {l0 l1 l2 l3 l4 l5 : Value} {x : Int32} {st : List Value} : T d 92 64 [l0, l1, l2, l3, l4, l5, .int x] st h Q ↔ T d 92 66 [l0, l1, l2, l3, l4, l5, .int x] (.int x :: st) h Q := T_iload c92_64 rfl
theorem c92_66 : cod 92 66 = some (.iload 4, 2) := cod_of b92 dX7_most_66
theorem t92_66 {d : Nat} {h : Hp} {Q : Pst} {l0 l1 l2 l3 l5 l6 : Value} {x : Int32} {st : List Value} : T d 92 66 [l0, l1, l2, l3, .int x, l5, l6] st h Q ↔ T d 92 68 [l0, l1, l2, l3, .int x, l5, l6] (.int x :: st) h Q := T_iload c92_66 rfl
theorem c92_68 : cod 92 68 = some (.if_icmp .le 10, 3) := cod_of b92 dX7_most_68
theorem t92_68 {d : Nat} {h : Hp} {Q : Pst} {x y : Int32} {ls : List Value} {st : List Value} : T d 92 68 ls (.int y :: .int x :: st) h Q ↔ (if x ≤ y then T d 92 78 ls st h Q else T d 92 71 ls st h Q) := T_icmp_le c92_68 (by decide)
theorem c92_78 : cod 92 78 = some (.iinc 5 1, 3) := cod_of b92 dX7_most_78
theorem t92_78 {d : Nat} {h : Hp} {Q : Pst} {l0 l1 l2 l3 l4 l6 : Value} {x : Int32} {st : List Value} : T d 92 78 [l0, l1, l2, l3, l4, .int x, l6] st h Q ↔ T d 92 81 [l0, l1, l2, l3, kil l4, .int (x + 1), l6] st h Q := T_iincV c92_78 rfl (Nat.le_of_ble_eq_true rfl) (by decide) rfl
theorem c92_81 : cod 92 81 = some (.goto (-46), 3) := cod_of b92 dX7_most_81
theorem t92_81 {d : Nat} {h : Hp} {Q : Pst} {ls : List Value} {st : List Value} : T d 92 81 ls st h Q ↔ T d 92 35 ls st h Q := T_goto c92_81 (by decide)
theorem c92_71 : cod 92 71 = some (.iload 5, 2) := cod_of b92 dX7_most_71
theorem t92_71 {d : Nat} {h : Hp} {Q : Pst} {l0 l1 l2 l3 l4 l6 : Value} {x : Int32} {st : List Value} : T d 92 71 [l0, l1, l2, l3, l4, .int x, l6] st h Q ↔ T d 92 73 [l0, l1, l2, l3, l4, .int x, l6] (.int x :: st) h Q := T_iload c92_71 rfl
theorem c92_73 : cod 92 73 = some (.istore_n 3, 1) := cod_of b92 dX7_most_73
theorem t92_73 {d : Nat} {h : Hp} {Q : Pst} {l0 l1 l2 l3 l4 l5 l6 : Value} {x : Int32} {st : List Value} : T d 92 73 [l0, l1, l2, l3, l4, l5, l6] (.int x :: st) h Q ↔ T d 92 74 [l0, l1, kil l2, .int x, l4, l5, l6] st h Q := T_istore_n c92_73 (Nat.le_of_ble_eq_true rfl)
theorem c92_74 : cod 92 74 = some (.iload 6, 2) := cod_of b92 dX7_most_74
theorem t92_74 {d : Nat} {h : Hp} {Q : Pst} {l0 l1 l2 l3 l4 l5 : Value} {x : Int32} {st : List Value} : T d 92 74 [l0, l1, l2, l3, l4, l5, .int x] st h Q ↔ T d 92 76 [l0, l1, l2, l3, l4, l5, .int x] (.int x :: st) h Q := T_iload c92_74 rfl
theorem c92_76 : cod 92 76 = some (.istore 4, 2) := cod_of b92 dX7_most_76
theorem t92_76 {d : Nat} {h : Hp} {Q : Pst} {l0 l1 l2 l3 l4 l5 l6 : Value} {x : Int32} {st : List Value} : T d 92 76 [l0, l1, l2, l3, l4, l5, l6] (.int x :: st) h Q ↔ T d 92 78 [l0, l1, l2, kil l3, .int x, l5, l6] st h Q := T_istore c92_76 (Nat.le_of_ble_eq_true rfl)
theorem c92_84 : cod 92 84 = some (.iload_n 2, 1) := cod_of b92 dX7_most_84
theorem t92_84 {d : Nat} {h : Hp} {Q : Pst} {l0 l1 l3 l4 l5 l6 : Value} {x : Int32} {st : List Value} : T d 92 84 [l0, l1, .int x, l3, l4, l5, l6] st h Q ↔ T d 92 85 [l0, l1, .int x, l3, l4, l5, l6] (.int x :: st) h Q := T_iload_n c92_84 rfl
theorem c92_85 : cod 92 85 = some (.ifCond .ne 7, 3) := cod_of b92 dX7_most_85
theorem t92_85 {d : Nat} {h : Hp} {Q : Pst} {x : Int32} {ls : List Value} {st : List Value} : T d 92 85 ls (.int x :: st) h Q ↔ (if ¬ x = 0 then T d 92 92 ls st h Q else T d 92 88 ls st h Q) := T_if_ne c92_85 (by decide)
theorem c92_88 : cod 92 88 = some (.iload_n 3, 1) := cod_of b92 dX7_most_88
theorem t92_88 {d : Nat} {h : Hp} {Q : Pst} {l0 l1 l2 l4 l5 l6 : Value} {x : Int32} {st : List Value} : T d 92 88 [l0, l1, l2, .int x, l4, l5, l6] st h Q ↔ T d 92 89 [l0, l1, l2, .int x, l4, l5, l6] (.int x :: st) h Q := T_iload_n c92_88 rfl
theorem c92_89 : cod 92 89 = some (.goto 5, 3) := cod_of b92 dX7_most_89
theorem t92_89 {d : Nat} {h : Hp} {Q : Pst} {ls : List Value} {st : List Value} : T d 92 89 ls st h Q ↔ T d 92 94 ls st h Q := T_goto c92_89 (by decide)
theorem c92_94 : cod 92 94 = some (.ireturn, 1) := cod_of b92 dX7_most_94
theorem t92_94 {d : Nat} {h : Hp} {Q : Pst} {x : Int32} {ls : List Value} : T d 92 94 ls [.int x] h Q ↔ Q (some (.int x)) h := T_iretR m92 c92_94 rfl
theorem c92_92 : cod 92 92 = some (.iload 4, 2) := cod_of b92 dX7_most_92
theorem t92_92 {d : Nat} {h : Hp} {Q : Pst} {l0 l1 l2 l3 l5 l6 : Value} {x : Int32} {st : List Value} : T d 92 92 [l0, l1, l2, l3, .int x, l5, l6] st h Q ↔ T d 92 94 [l0, l1, l2, l3, .int x, l5, l6] (.int x :: st) h Q := T_iload c92_92 rfl
theorem c92_20 : cod 92 20 = some (.aload_n 0, 1) := cod_of b92 dX7_most_20
theorem t92_20 {d : Nat} {h : Hp} {Q : Pst} {l1 l2 l3 l4 l5 l6 : Value} {x : Nat} {st : List Value} : T d 92 20 [.ref x, l1, l2, l3, l4, l5, l6] st h Q ↔ T d 92 21 [.ref x, l1, l2, l3, l4, l5, l6] (.ref x :: st) h Q := T_aload_n c92_20 rfl
theorem c92_21 : cod 92 21 = some (.bipush (-2), 2) := cod_of b92 dX7_most_21
theorem t92_21 {d : Nat} {h : Hp} {Q : Pst} {ls : List Value} {st : List Value} : T d 92 21 ls st h Q ↔ T d 92 23 ls (.int (-2) :: st) h Q := T_bipushV c92_21 (by decide)
theorem c92_23 : cod 92 23 = some (.invokevirtual 66, 3) := cod_of b92 dX7_most_23
theorem t92_23 {d : Nat} {h : Hp} {Q : Pst} {a0 : Int32} {a : Nat} {ls : List Value} (ho : isO (h.2.2 a) 6) : T (d + 1) 92 23 ls [.int a0, .ref a] h Q ↔ T d 116 0 [.ref a, .int a0, un] [] h (fun x h2 => T (d + 1) 92 26 ls (rl x []) h2 Q) := T_virtualR (as := [.int a0]) (r := []) m92 m116 c92_23 k7_66  rfl (by decide) rfl (by simp [wrd, Value.category]) (by simp [stk, Value.category]) rfl (by decide +kernel) ho
theorem c92_26 : cod 92 26 = some (.ireturn, 1) := cod_of b92 dX7_most_26
theorem t92_26 {d : Nat} {h : Hp} {Q : Pst} {x : Int32} {ls : List Value} : T d 92 26 ls [.int x] h Q ↔ Q (some (.int x)) h := T_iretR m92 c92_26 rfl
theorem b93 : (mR 93).2.2.1 = cX7_round := by rw [m93]
theorem c93_0 : cod 93 0 = some (.aload_n 0, 1) := cod_of b93 dX7_round_0
theorem t93_0 {d : Nat} {h : Hp} {Q : Pst} {l1 l2 l3 l4 : Value} {x : Nat} {st : List Value} : T d 93 0 [.ref x, l1, l2, l3, l4] st h Q ↔ T d 93 1 [.ref x, l1, l2, l3, l4] (.ref x :: st) h Q := T_aload_n c93_0 rfl
theorem c93_1 : cod 93 1 = some (.getfield 10, 3) := cod_of b93 dX7_round_1
theorem t93_1 {d : Nat} {h : Hp} {Q : Pst} {a : Nat} {ls : List Value} {st : List Value} : T d 93 1 ls (.ref a :: st) h Q ↔ gF (h.2.2 a) 6 0 (fun v => T d 93 4 ls (v :: st) h Q) := T_getfieldR m93 c93_1 f7_10
theorem c93_4 : cod 93 4 = some (.iload_n 1, 1) := cod_of b93 dX7_round_4
theorem t93_4 {d : Nat} {h : Hp} {Q : Pst} {l0 l2 l3 l4 : Value} {x : Int32} {st : List Value} : T d 93 4 [l0, .int x, l2, l3, l4] st h Q ↔ T d 93 5 [l0, .int x, l2, l3, l4] (.int x :: st) h Q := T_iload_n c93_4 rfl
theorem c93_5 : cod 93 5 = some (.invokevirtual 116, 3) := cod_of b93 dX7_round_5
theorem t93_5 {d : Nat} {h : Hp} {Q : Pst} {a0 : Int32} {a : Nat} {ls : List Value} (ho : isO (h.2.2 a) 5) : T (d + 1) 93 5 ls [.int a0, .ref a] h Q ↔ T d 55 0 [.ref a, .int a0] [] h (fun x h2 => T (d + 1) 93 8 ls (rl x []) h2 Q) := T_virtualR (as := [.int a0]) (r := []) m93 m55 c93_5 k7_116  rfl (by decide) rfl (by simp [wrd, Value.category]) (by simp [stk, Value.category]) rfl (by decide +kernel) ho
theorem c93_8 : cod 93 8 = some (.ifCond .ne 10, 3) := cod_of b93 dX7_round_8
theorem t93_8 {d : Nat} {h : Hp} {Q : Pst} {x : Int32} {ls : List Value} {st : List Value} : T d 93 8 ls (.int x :: st) h Q ↔ (if ¬ x = 0 then T d 93 18 ls st h Q else T d 93 11 ls st h Q) := T_if_ne c93_8 (by decide)
theorem c93_11 : cod 93 11 = some (.aload_n 0, 1) := cod_of b93 dX7_round_11
theorem t93_11 {d : Nat} {h : Hp} {Q : Pst} {l1 l2 l3 l4 : Value} {x : Nat} {st : List Value} : T d 93 11 [.ref x, l1, l2, l3, l4] st h Q ↔ T d 93 12 [.ref x, l1, l2, l3, l4] (.ref x :: st) h Q := T_aload_n c93_11 rfl
theorem c93_12 : cod 93 12 = some (.bipush (-2), 2) := cod_of b93 dX7_round_12
theorem t93_12 {d : Nat} {h : Hp} {Q : Pst} {ls : List Value} {st : List Value} : T d 93 12 ls st h Q ↔ T d 93 14 ls (.int (-2) :: st) h Q := T_bipushV c93_12 (by decide)
theorem c93_14 : cod 93 14 = some (.invokevirtual 66, 3) := cod_of b93 dX7_round_14
theorem t93_14 {d : Nat} {h : Hp} {Q : Pst} {a0 : Int32} {a : Nat} {ls : List Value} (ho : isO (h.2.2 a) 6) : T (d + 1) 93 14 ls [.int a0, .ref a] h Q ↔ T d 116 0 [.ref a, .int a0, un] [] h (fun x h2 => T (d + 1) 93 17 ls (rl x []) h2 Q) := T_virtualR (as := [.int a0]) (r := []) m93 m116 c93_14 k7_66  rfl (by decide) rfl (by simp [wrd, Value.category]) (by simp [stk, Value.category]) rfl (by decide +kernel) ho
theorem c93_17 : cod 93 17 = some (.ireturn, 1) := cod_of b93 dX7_round_17
theorem t93_17 {d : Nat} {h : Hp} {Q : Pst} {x : Int32} {ls : List Value} : T d 93 17 ls [.int x] h Q ↔ Q (some (.int x)) h := T_iretR m93 c93_17 rfl
theorem c93_18 : cod 93 18 = some (.iconst (-1), 1) := cod_of b93 dX7_round_18
theorem t93_18 {d : Nat} {h : Hp} {Q : Pst} {ls : List Value} {st : List Value} : T d 93 18 ls st h Q ↔ T d 93 19 ls (.int (-1) :: st) h Q := T_iconstV c93_18 (by decide)
theorem c93_19 : cod 93 19 = some (.istore_n 2, 1) := cod_of b93 dX7_round_19
theorem t93_19 {d : Nat} {h : Hp} {Q : Pst} {l0 l1 l2 l3 l4 : Value} {x : Int32} {st : List Value} : T d 93 19 [l0, l1, l2, l3, l4] (.int x :: st) h Q ↔ T d 93 20 [l0, kil l1, .int x, l3, l4] st h Q := T_istore_n c93_19 (Nat.le_of_ble_eq_true rfl)
theorem c93_20 : cod 93 20 = some (.iconst 1, 1) := cod_of b93 dX7_round_20
theorem t93_20 {d : Nat} {h : Hp} {Q : Pst} {ls : List Value} {st : List Value} : T d 93 20 ls st h Q ↔ T d 93 21 ls (.int 1 :: st) h Q := T_iconstV c93_20 (by decide)
theorem c93_21 : cod 93 21 = some (.istore_n 3, 1) := cod_of b93 dX7_round_21
theorem t93_21 {d : Nat} {h : Hp} {Q : Pst} {l0 l1 l2 l3 l4 : Value} {x : Int32} {st : List Value} : T d 93 21 [l0, l1, l2, l3, l4] (.int x :: st) h Q ↔ T d 93 22 [l0, l1, kil l2, .int x, l4] st h Q := T_istore_n c93_21 (Nat.le_of_ble_eq_true rfl)
theorem c93_22 : cod 93 22 = some (.iload_n 3, 1) := cod_of b93 dX7_round_22
theorem t93_22 {d : Nat} {h : Hp} {Q : Pst} {l0 l1 l2 l4 : Value} {x : Int32} {st : List Value} : T d 93 22 [l0, l1, l2, .int x, l4] st h Q ↔ T d 93 23 [l0, l1, l2, .int x, l4] (.int x :: st) h Q := T_iload_n c93_22 rfl
theorem c93_23 : cod 93 23 = some (.iconst 1, 1) := cod_of b93 dX7_round_23
theorem t93_23 {d : Nat} {h : Hp} {Q : Pst} {ls : List Value} {st : List Value} : T d 93 23 ls st h Q ↔ T d 93 24 ls (.int 1 :: st) h Q := T_iconstV c93_23 (by decide)
theorem c93_24 : cod 93 24 = some (.aload_n 0, 1) := cod_of b93 dX7_round_24
theorem t93_24 {d : Nat} {h : Hp} {Q : Pst} {l1 l2 l3 l4 : Value} {x : Nat} {st : List Value} : T d 93 24 [.ref x, l1, l2, l3, l4] st h Q ↔ T d 93 25 [.ref x, l1, l2, l3, l4] (.ref x :: st) h Q := T_aload_n c93_24 rfl
theorem c93_25 : cod 93 25 = some (.getfield 10, 3) := cod_of b93 dX7_round_25
theorem t93_25 {d : Nat} {h : Hp} {Q : Pst} {a : Nat} {ls : List Value} {st : List Value} : T d 93 25 ls (.ref a :: st) h Q ↔ gF (h.2.2 a) 6 0 (fun v => T d 93 28 ls (v :: st) h Q) := T_getfieldR m93 c93_25 f7_10
theorem c93_28 : cod 93 28 = some (.getfield 81, 3) := cod_of b93 dX7_round_28
theorem t93_28 {d : Nat} {h : Hp} {Q : Pst} {a : Nat} {ls : List Value} {st : List Value} : T d 93 28 ls (.ref a :: st) h Q ↔ gF (h.2.2 a) 5 11 (fun v => T d 93 31 ls (v :: st) h Q) := T_getfieldR m93 c93_28 f7_81
theorem c93_31 : cod 93 31 = some (.ishl, 1) := cod_of b93 dX7_round_31
theorem t93_31 {d : Nat} {h : Hp} {Q : Pst} {x y : Int32} {ls : List Value} {st : List Value} : T d 93 31 ls (.int y :: .int x :: st) h Q ↔ T d 93 32 ls (.int (x <<< (y &&& 31)) :: st) h Q := T_ishl c93_31
theorem c93_32 : cod 93 32 = some (.if_icmp .ge 53, 3) := cod_of b93 dX7_round_32
theorem t93_32 {d : Nat} {h : Hp} {Q : Pst} {x y : Int32} {ls : List Value} {st : List Value} : T d 93 32 ls (.int y :: .int x :: st) h Q ↔ (if y ≤ x then T d 93 85 ls st h Q else T d 93 35 ls st h Q) := T_icmp_ge c93_32 (by decide)
theorem c93_35 : cod 93 35 = some (.iload_n 2, 1) := cod_of b93 dX7_round_35
theorem t93_35 {d : Nat} {h : Hp} {Q : Pst} {l0 l1 l3 l4 : Value} {x : Int32} {st : List Value} : T d 93 35 [l0, l1, .int x, l3, l4] st h Q ↔ T d 93 36 [l0, l1, .int x, l3, l4] (.int x :: st) h Q := T_iload_n c93_35 rfl
theorem c93_36 : cod 93 36 = some (.iconst (-1), 1) := cod_of b93 dX7_round_36
theorem t93_36 {d : Nat} {h : Hp} {Q : Pst} {ls : List Value} {st : List Value} : T d 93 36 ls st h Q ↔ T d 93 37 ls (.int (-1) :: st) h Q := T_iconstV c93_36 (by decide)
theorem c93_37 : cod 93 37 = some (.if_icmp .eq 14, 3) := cod_of b93 dX7_round_37
theorem t93_37 {d : Nat} {h : Hp} {Q : Pst} {x y : Int32} {ls : List Value} {st : List Value} : T d 93 37 ls (.int y :: .int x :: st) h Q ↔ (if x = y then T d 93 51 ls st h Q else T d 93 40 ls st h Q) := T_icmp_eq c93_37 (by decide)
theorem c93_40 : cod 93 40 = some (.iload_n 3, 1) := cod_of b93 dX7_round_40
theorem t93_40 {d : Nat} {h : Hp} {Q : Pst} {l0 l1 l2 l4 : Value} {x : Int32} {st : List Value} : T d 93 40 [l0, l1, l2, .int x, l4] st h Q ↔ T d 93 41 [l0, l1, l2, .int x, l4] (.int x :: st) h Q := T_iload_n c93_40 rfl
theorem c93_41 : cod 93 41 = some (.invokestatic 198, 3) := cod_of b93 dX7_round_41
theorem t93_41 {d : Nat} {h : Hp} {Q : Pst} {a0 : Int32} {ls : List Value} : T (d + 1) 93 41 ls [.int a0] h Q ↔ T d 213 0 [.int a0] [] h (fun x h2 => T (d + 1) 93 44 ls (rl x []) h2 Q) := T_staticR (as := [.int a0]) (r := []) m93 m213 c93_41 k7_198 (Or.inl rfl) rfl (by decide) rfl (by simp [wrd, Value.category]) (by simp [stk, Value.category]) rfl
theorem c93_44 : cod 93 44 = some (.iload_n 2, 1) := cod_of b93 dX7_round_44
theorem t93_44 {d : Nat} {h : Hp} {Q : Pst} {l0 l1 l3 l4 : Value} {x : Int32} {st : List Value} : T d 93 44 [l0, l1, .int x, l3, l4] st h Q ↔ T d 93 45 [l0, l1, .int x, l3, l4] (.int x :: st) h Q := T_iload_n c93_44 rfl
theorem c93_45 : cod 93 45 = some (.invokestatic 198, 3) := cod_of b93 dX7_round_45
theorem t93_45 {d : Nat} {h : Hp} {Q : Pst} {a0 s0 : Int32} {ls : List Value} : T (d + 1) 93 45 ls [.int a0, .int s0] h Q ↔ T d 213 0 [.int a0] [] h (fun x h2 => T (d + 1) 93 48 ls (rl x [.int s0]) h2 Q) := T_staticR (as := [.int a0]) (r := [.int s0]) m93 m213 c93_45 k7_198 (Or.inl rfl) rfl (by decide) rfl (by simp [wrd, Value.category]) (by simp [stk, Value.category]) rfl
theorem c93_48 : cod 93 48 = some (.if_icmp .ge 7, 3) := cod_of b93 dX7_round_48
theorem t93_48 {d : Nat} {h : Hp} {Q : Pst} {x y : Int32} {ls : List Value} {st : List Value} : T d 93 48 ls (.int y :: .int x :: st) h Q ↔ (if y ≤ x then T d 93 55 ls st h Q else T d 93 51 ls st h Q) := T_icmp_ge c93_48 (by decide)
theorem c93_55 : cod 93 55 = some (.iconst 0, 1) := cod_of b93 dX7_round_55
theorem t93_55 {d : Nat} {h : Hp} {Q : Pst} {ls : List Value} {st : List Value} : T d 93 55 ls st h Q ↔ T d 93 56 ls (.int 0 :: st) h Q := T_iconstV c93_55 (by decide)
theorem c93_56 : cod 93 56 = some (.istore 4, 2) := cod_of b93 dX7_round_56
theorem t93_56 {d : Nat} {h : Hp} {Q : Pst} {l0 l1 l2 l3 l4 : Value} {x : Int32} {st : List Value} : T d 93 56 [l0, l1, l2, l3, l4] (.int x :: st) h Q ↔ T d 93 58 [l0, l1, l2, kil l3, .int x] st h Q := T_istore c93_56 (Nat.le_of_ble_eq_true rfl)
theorem c93_58 : cod 93 58 = some (.iload 4, 2) := cod_of b93 dX7_round_58
theorem t93_58 {d : Nat} {h : Hp} {Q : Pst} {l0 l1 l2 l3 : Value} {x : Int32} {st : List Value} : T d 93 58 [l0, l1, l2, l3, .int x] st h Q ↔ T d 93 60 [l0, l1, l2, l3, .int x] (.int x :: st) h Q := T_iload c93_58 rfl
theorem c93_60 : cod 93 60 = some (.ifCond .eq 19, 3) := cod_of b93 dX7_round_60
theorem t93_60 {d : Nat} {h : Hp} {Q : Pst} {x : Int32} {ls : List Value} {st : List Value} : T d 93 60 ls (.int x :: st) h Q ↔ (if x = 0 then T d 93 79 ls st h Q else T d 93 63 ls st h Q) := T_if_eq c93_60 (by decide)
theorem c93_63 : cod 93 63 = some (.aload_n 0, 1) := cod_of b93 dX7_round_63
theorem t93_63 {d : Nat} {h : Hp} {Q : Pst} {l1 l2 l3 l4 : Value} {x : Nat} {st : List Value} : T d 93 63 [.ref x, l1, l2, l3, l4] st h Q ↔ T d 93 64 [.ref x, l1, l2, l3, l4] (.ref x :: st) h Q := T_aload_n c93_63 rfl
theorem c93_64 : cod 93 64 = some (.getfield 10, 3) := cod_of b93 dX7_round_64
theorem t93_64 {d : Nat} {h : Hp} {Q : Pst} {a : Nat} {ls : List Value} {st : List Value} : T d 93 64 ls (.ref a :: st) h Q ↔ gF (h.2.2 a) 6 0 (fun v => T d 93 67 ls (v :: st) h Q) := T_getfieldR m93 c93_64 f7_10
theorem c93_67 : cod 93 67 = some (.iload_n 1, 1) := cod_of b93 dX7_round_67
theorem t93_67 {d : Nat} {h : Hp} {Q : Pst} {l0 l2 l3 l4 : Value} {x : Int32} {st : List Value} : T d 93 67 [l0, .int x, l2, l3, l4] st h Q ↔ T d 93 68 [l0, .int x, l2, l3, l4] (.int x :: st) h Q := T_iload_n c93_67 rfl
theorem c93_68 : cod 93 68 = some (.iload_n 3, 1) := cod_of b93 dX7_round_68
theorem t93_68 {d : Nat} {h : Hp} {Q : Pst} {l0 l1 l2 l4 : Value} {x : Int32} {st : List Value} : T d 93 68 [l0, l1, l2, .int x, l4] st h Q ↔ T d 93 69 [l0, l1, l2, .int x, l4] (.int x :: st) h Q := T_iload_n c93_68 rfl
theorem c93_69 : cod 93 69 = some (.invokevirtual 203, 3) := cod_of b93 dX7_round_69
theorem t93_69 {d : Nat} {h : Hp} {Q : Pst} {a0 a1 : Int32} {a : Nat} {ls : List Value} (ho : isO (h.2.2 a) 5) : T (d + 1) 93 69 ls [.int a1, .int a0, .ref a] h Q ↔ T d 67 0 [.ref a, .int a0, .int a1, un, un] [] h (fun x h2 => T (d + 1) 93 72 ls (rl x []) h2 Q) := T_virtualR (as := [.int a0, .int a1]) (r := []) m93 m67 c93_69 k7_203  rfl (by decide) rfl (by simp [wrd, Value.category]) (by simp [stk, Value.category]) rfl (by decide +kernel) ho
theorem c93_72 : cod 93 72 = some (.bipush 31, 2) := cod_of b93 dX7_round_72
theorem t93_72 {d : Nat} {h : Hp} {Q : Pst} {ls : List Value} {st : List Value} : T d 93 72 ls st h Q ↔ T d 93 74 ls (.int 31 :: st) h Q := T_bipushV c93_72 (by decide)
theorem c93_74 : cod 93 74 = some (.if_icmp .ne 5, 3) := cod_of b93 dX7_round_74
theorem t93_74 {d : Nat} {h : Hp} {Q : Pst} {x y : Int32} {ls : List Value} {st : List Value} : T d 93 74 ls (.int y :: .int x :: st) h Q ↔ (if ¬ x = y then T d 93 79 ls st h Q else T d 93 77 ls st h Q) := T_icmp_ne c93_74 (by decide)
theorem c93_77 : cod 93 77 = some (.iload_n 3, 1) := cod_of b93 dX7_round_77
theorem t93_77 {d : Nat} {h : Hp} {Q : Pst} {l0 l1 l2 l4 : Value} {x : Int32} {st : List Value} : T d 93 77 [l0, l1, l2, .int x, l4] st h Q ↔ T d 93 78 [l0, l1, l2, .int x, l4] (.int x :: st) h Q := T_iload_n c93_77 rfl
theorem c93_78 : cod 93 78 = some (.istore_n 2, 1) := cod_of b93 dX7_round_78
theorem t93_78 {d : Nat} {h : Hp} {Q : Pst} {l0 l1 l2 l3 l4 : Value} {x : Int32} {st : List Value} : T d 93 78 [l0, l1, l2, l3, l4] (.int x :: st) h Q ↔ T d 93 79 [l0, kil l1, .int x, l3, l4] st h Q := T_istore_n c93_78 (Nat.le_of_ble_eq_true rfl)
theorem c93_79 : cod 93 79 = some (.iinc 3 1, 3) := cod_of b93 dX7_round_79
theorem t93_79 {d : Nat} {h : Hp} {Q : Pst} {l0 l1 l2 l4 : Value} {x : Int32} {st : List Value} : T d 93 79 [l0, l1, l2, .int x, l4] st h Q ↔ T d 93 82 [l0, l1, kil l2, .int (x + 1), l4] st h Q := T_iincV c93_79 rfl (Nat.le_of_ble_eq_true rfl) (by decide) rfl
theorem c93_82 : cod 93 82 = some (.goto (-60), 3) := cod_of b93 dX7_round_82
theorem t93_82 {d : Nat} {h : Hp} {Q : Pst} {ls : List Value} {st : List Value} : T d 93 82 ls st h Q ↔ T d 93 22 ls st h Q := T_goto c93_82 (by decide)
theorem c93_51 : cod 93 51 = some (.iconst 1, 1) := cod_of b93 dX7_round_51
theorem t93_51 {d : Nat} {h : Hp} {Q : Pst} {ls : List Value} {st : List Value} : T d 93 51 ls st h Q ↔ T d 93 52 ls (.int 1 :: st) h Q := T_iconstV c93_51 (by decide)
theorem c93_52 : cod 93 52 = some (.goto 4, 3) := cod_of b93 dX7_round_52
theorem t93_52 {d : Nat} {h : Hp} {Q : Pst} {ls : List Value} {st : List Value} : T d 93 52 ls st h Q ↔ T d 93 56 ls st h Q := T_goto c93_52 (by decide)
theorem c93_85 : cod 93 85 = some (.iload_n 2, 1) := cod_of b93 dX7_round_85
theorem t93_85 {d : Nat} {h : Hp} {Q : Pst} {l0 l1 l3 l4 : Value} {x : Int32} {st : List Value} : T d 93 85 [l0, l1, .int x, l3, l4] st h Q ↔ T d 93 86 [l0, l1, .int x, l3, l4] (.int x :: st) h Q := T_iload_n c93_85 rfl
theorem c93_86 : cod 93 86 = some (.ireturn, 1) := cod_of b93 dX7_round_86
theorem t93_86 {d : Nat} {h : Hp} {Q : Pst} {x : Int32} {ls : List Value} : T d 93 86 ls [.int x] h Q ↔ Q (some (.int x)) h := T_iretR m93 c93_86 rfl
theorem b94 : (mR 94).2.2.1 = cX7_mesh := by rw [m94]
theorem c94_0 : cod 94 0 = some (.aload_n 0, 1) := cod_of b94 dX7_mesh_0
theorem t94_0 {d : Nat} {h : Hp} {Q : Pst} {l1 l2 l3 l4 : Value} {x : Nat} {st : List Value} : T d 94 0 [.ref x, l1, l2, l3, l4] st h Q ↔ T d 94 1 [.ref x, l1, l2, l3, l4] (.ref x :: st) h Q := T_aload_n c94_0 rfl
theorem c94_1 : cod 94 1 = some (.getfield 10, 3) := cod_of b94 dX7_mesh_1
theorem t94_1 {d : Nat} {h : Hp} {Q : Pst} {a : Nat} {ls : List Value} {st : List Value} : T d 94 1 ls (.ref a :: st) h Q ↔ gF (h.2.2 a) 6 0 (fun v => T d 94 4 ls (v :: st) h Q) := T_getfieldR m94 c94_1 f7_10
theorem c94_4 : cod 94 4 = some (.iload_n 1, 1) := cod_of b94 dX7_mesh_4
theorem t94_4 {d : Nat} {h : Hp} {Q : Pst} {l0 l2 l3 l4 : Value} {x : Int32} {st : List Value} : T d 94 4 [l0, .int x, l2, l3, l4] st h Q ↔ T d 94 5 [l0, .int x, l2, l3, l4] (.int x :: st) h Q := T_iload_n c94_4 rfl
theorem c94_5 : cod 94 5 = some (.invokevirtual 116, 3) := cod_of b94 dX7_mesh_5
theorem t94_5 {d : Nat} {h : Hp} {Q : Pst} {a0 : Int32} {a : Nat} {ls : List Value} (ho : isO (h.2.2 a) 5) : T (d + 1) 94 5 ls [.int a0, .ref a] h Q ↔ T d 55 0 [.ref a, .int a0] [] h (fun x h2 => T (d + 1) 94 8 ls (rl x []) h2 Q) := T_virtualR (as := [.int a0]) (r := []) m94 m55 c94_5 k7_116  rfl (by decide) rfl (by simp [wrd, Value.category]) (by simp [stk, Value.category]) rfl (by decide +kernel) ho
theorem c94_8 : cod 94 8 = some (.ifCond .eq 23, 3) := cod_of b94 dX7_mesh_8
theorem t94_8 {d : Nat} {h : Hp} {Q : Pst} {x : Int32} {ls : List Value} {st : List Value} : T d 94 8 ls (.int x :: st) h Q ↔ (if x = 0 then T d 94 31 ls st h Q else T d 94 11 ls st h Q) := T_if_eq c94_8 (by decide)
theorem c94_11 : cod 94 11 = some (.aload_n 0, 1) := cod_of b94 dX7_mesh_11
theorem t94_11 {d : Nat} {h : Hp} {Q : Pst} {l1 l2 l3 l4 : Value} {x : Nat} {st : List Value} : T d 94 11 [.ref x, l1, l2, l3, l4] st h Q ↔ T d 94 12 [.ref x, l1, l2, l3, l4] (.ref x :: st) h Q := T_aload_n c94_11 rfl
theorem c94_12 : cod 94 12 = some (.getfield 10, 3) := cod_of b94 dX7_mesh_12
theorem t94_12 {d : Nat} {h : Hp} {Q : Pst} {a : Nat} {ls : List Value} {st : List Value} : T d 94 12 ls (.ref a :: st) h Q ↔ gF (h.2.2 a) 6 0 (fun v => T d 94 15 ls (v :: st) h Q) := T_getfieldR m94 c94_12 f7_10
theorem c94_15 : cod 94 15 = some (.iload_n 2, 1) := cod_of b94 dX7_mesh_15
theorem t94_15 {d : Nat} {h : Hp} {Q : Pst} {l0 l1 l3 l4 : Value} {x : Int32} {st : List Value} : T d 94 15 [l0, l1, .int x, l3, l4] st h Q ↔ T d 94 16 [l0, l1, .int x, l3, l4] (.int x :: st) h Q := T_iload_n c94_15 rfl
theorem c94_16 : cod 94 16 = some (.invokevirtual 120, 3) := cod_of b94 dX7_mesh_16
theorem t94_16 {d : Nat} {h : Hp} {Q : Pst} {a0 : Int32} {a : Nat} {ls : List Value} (ho : isO (h.2.2 a) 5) : T (d + 1) 94 16 ls [.int a0, .ref a] h Q ↔ T d 56 0 [.ref a, .int a0] [] h (fun x h2 => T (d + 1) 94 19 ls (rl x []) h2 Q) := T_virtualR (as := [.int a0]) (r := []) m94 m56 c94_16 k7_120  rfl (by decide) rfl (by simp [wrd, Value.category]) (by simp [stk, Value.category]) rfl (by decide +kernel) ho
theorem c94_19 : cod 94 19 = some (.ifCond .eq 12, 3) := cod_of b94 dX7_mesh_19
theorem t94_19 {d : Nat} {h : Hp} {Q : Pst} {x : Int32} {ls : List Value} {st : List Value} : T d 94 19 ls (.int x :: st) h Q ↔ (if x = 0 then T d 94 31 ls st h Q else T d 94 22 ls st h Q) := T_if_eq c94_19 (by decide)
theorem c94_22 : cod 94 22 = some (.iload_n 3, 1) := cod_of b94 dX7_mesh_22
theorem t94_22 {d : Nat} {h : Hp} {Q : Pst} {l0 l1 l2 l4 : Value} {x : Int32} {st : List Value} : T d 94 22 [l0, l1, l2, .int x, l4] st h Q ↔ T d 94 23 [l0, l1, l2, .int x, l4] (.int x :: st) h Q := T_iload_n c94_22 rfl
theorem c94_23 : cod 94 23 = some (.iconst 0, 1) := cod_of b94 dX7_mesh_23
theorem t94_23 {d : Nat} {h : Hp} {Q : Pst} {ls : List Value} {st : List Value} : T d 94 23 ls st h Q ↔ T d 94 24 ls (.int 0 :: st) h Q := T_iconstV c94_23 (by decide)
theorem c94_24 : cod 94 24 = some (.iconst 5, 1) := cod_of b94 dX7_mesh_24
theorem t94_24 {d : Nat} {h : Hp} {Q : Pst} {ls : List Value} {st : List Value} : T d 94 24 ls st h Q ↔ T d 94 25 ls (.int 5 :: st) h Q := T_iconstV c94_24 (by decide)
theorem c94_25 : cod 94 25 = some (.invokestatic 62, 3) := cod_of b94 dX7_mesh_25
theorem t94_25 {d : Nat} {h : Hp} {Q : Pst} {a0 a1 a2 : Int32} {ls : List Value} : T (d + 1) 94 25 ls [.int a2, .int a1, .int a0] h Q ↔ T d 118 0 [.int a0, .int a1, .int a2] [] h (fun x h2 => T (d + 1) 94 28 ls (rl x []) h2 Q) := T_staticR (as := [.int a0, .int a1, .int a2]) (r := []) m94 m118 c94_25 k7_62 (Or.inl rfl) rfl (by decide) rfl (by simp [wrd, Value.category]) (by simp [stk, Value.category]) rfl
theorem c94_28 : cod 94 28 = some (.ifCond .ne 10, 3) := cod_of b94 dX7_mesh_28
theorem t94_28 {d : Nat} {h : Hp} {Q : Pst} {x : Int32} {ls : List Value} {st : List Value} : T d 94 28 ls (.int x :: st) h Q ↔ (if ¬ x = 0 then T d 94 38 ls st h Q else T d 94 31 ls st h Q) := T_if_ne c94_28 (by decide)
theorem c94_38 : cod 94 38 = some (.bipush 30, 2) := cod_of b94 dX7_mesh_38
theorem t94_38 {d : Nat} {h : Hp} {Q : Pst} {ls : List Value} {st : List Value} : T d 94 38 ls st h Q ↔ T d 94 40 ls (.int 30 :: st) h Q := T_bipushV c94_38 (by decide)
theorem c94_40 : cod 94 40 = some (.istore 4, 2) := cod_of b94 dX7_mesh_40
theorem t94_40 {d : Nat} {h : Hp} {Q : Pst} {l0 l1 l2 l3 l4 : Value} {x : Int32} {st : List Value} : T d 94 40 [l0, l1, l2, l3, l4] (.int x :: st) h Q ↔ T d 94 42 [l0, l1, l2, kil l3, .int x] st h Q := T_istore c94_40 (Nat.le_of_ble_eq_true rfl)
theorem c94_42 : cod 94 42 = some (.iload 4, 2) := cod_of b94 dX7_mesh_42
theorem t94_42 {d : Nat} {h : Hp} {Q : Pst} {l0 l1 l2 l3 : Value} {x : Int32} {st : List Value} : T d 94 42 [l0, l1, l2, l3, .int x] st h Q ↔ T d 94 44 [l0, l1, l2, l3, .int x] (.int x :: st) h Q := T_iload c94_42 rfl
theorem c94_44 : cod 94 44 = some (.iconst 1, 1) := cod_of b94 dX7_mesh_44
theorem t94_44 {d : Nat} {h : Hp} {Q : Pst} {ls : List Value} {st : List Value} : T d 94 44 ls st h Q ↔ T d 94 45 ls (.int 1 :: st) h Q := T_iconstV c94_44 (by decide)
theorem c94_45 : cod 94 45 = some (.if_icmp .lt 27, 3) := cod_of b94 dX7_mesh_45
theorem t94_45 {d : Nat} {h : Hp} {Q : Pst} {x y : Int32} {ls : List Value} {st : List Value} : T d 94 45 ls (.int y :: .int x :: st) h Q ↔ (if x < y then T d 94 72 ls st h Q else T d 94 48 ls st h Q) := T_icmp_lt c94_45 (by decide)
theorem c94_48 : cod 94 48 = some (.aload_n 0, 1) := cod_of b94 dX7_mesh_48
theorem t94_48 {d : Nat} {h : Hp} {Q : Pst} {l1 l2 l3 l4 : Value} {x : Nat} {st : List Value} : T d 94 48 [.ref x, l1, l2, l3, l4] st h Q ↔ T d 94 49 [.ref x, l1, l2, l3, l4] (.ref x :: st) h Q := T_aload_n c94_48 rfl
theorem c94_49 : cod 94 49 = some (.getfield 10, 3) := cod_of b94 dX7_mesh_49
theorem t94_49 {d : Nat} {h : Hp} {Q : Pst} {a : Nat} {ls : List Value} {st : List Value} : T d 94 49 ls (.ref a :: st) h Q ↔ gF (h.2.2 a) 6 0 (fun v => T d 94 52 ls (v :: st) h Q) := T_getfieldR m94 c94_49 f7_10
theorem c94_52 : cod 94 52 = some (.iload_n 1, 1) := cod_of b94 dX7_mesh_52
theorem t94_52 {d : Nat} {h : Hp} {Q : Pst} {l0 l2 l3 l4 : Value} {x : Int32} {st : List Value} : T d 94 52 [l0, .int x, l2, l3, l4] st h Q ↔ T d 94 53 [l0, .int x, l2, l3, l4] (.int x :: st) h Q := T_iload_n c94_52 rfl
theorem c94_53 : cod 94 53 = some (.iload_n 2, 1) := cod_of b94 dX7_mesh_53
theorem t94_53 {d : Nat} {h : Hp} {Q : Pst} {l0 l1 l3 l4 : Value} {x : Int32} {st : List Value} : T d 94 53 [l0, l1, .int x, l3, l4] st h Q ↔ T d 94 54 [l0, l1, .int x, l3, l4] (.int x :: st) h Q := T_iload_n c94_53 rfl
theorem c94_54 : cod 94 54 = some (.iload 4, 2) := cod_of b94 dX7_mesh_54
theorem t94_54 {d : Nat} {h : Hp} {Q : Pst} {l0 l1 l2 l3 : Value} {x : Int32} {st : List Value} : T d 94 54 [l0, l1, l2, l3, .int x] st h Q ↔ T d 94 56 [l0, l1, l2, l3, .int x] (.int x :: st) h Q := T_iload c94_54 rfl
theorem c94_56 : cod 94 56 = some (.invokevirtual 206, 3) := cod_of b94 dX7_mesh_56
theorem t94_56 {d : Nat} {h : Hp} {Q : Pst} {a0 a1 a2 : Int32} {a : Nat} {ls : List Value} (ho : isO (h.2.2 a) 5) : T (d + 1) 94 56 ls [.int a2, .int a1, .int a0, .ref a] h Q ↔ T d 64 0 [.ref a, .int a0, .int a1, .int a2, un] [] h (fun x h2 => T (d + 1) 94 59 ls (rl x []) h2 Q) := T_virtualR (as := [.int a0, .int a1, .int a2]) (r := []) m94 m64 c94_56 k7_206  rfl (by decide) rfl (by simp [wrd, Value.category]) (by simp [stk, Value.category]) rfl (by decide +kernel) ho
theorem c94_59 : cod 94 59 = some (.iload_n 3, 1) := cod_of b94 dX7_mesh_59
theorem t94_59 {d : Nat} {h : Hp} {Q : Pst} {l0 l1 l2 l4 : Value} {x : Int32} {st : List Value} : T d 94 59 [l0, l1, l2, .int x, l4] st h Q ↔ T d 94 60 [l0, l1, l2, .int x, l4] (.int x :: st) h Q := T_iload_n c94_59 rfl
theorem c94_60 : cod 94 60 = some (.if_icmp .lt 6, 3) := cod_of b94 dX7_mesh_60
theorem t94_60 {d : Nat} {h : Hp} {Q : Pst} {x y : Int32} {ls : List Value} {st : List Value} : T d 94 60 ls (.int y :: .int x :: st) h Q ↔ (if x < y then T d 94 66 ls st h Q else T d 94 63 ls st h Q) := T_icmp_lt c94_60 (by decide)
theorem c94_63 : cod 94 63 = some (.iload 4, 2) := cod_of b94 dX7_mesh_63
theorem t94_63 {d : Nat} {h : Hp} {Q : Pst} {l0 l1 l2 l3 : Value} {x : Int32} {st : List Value} : T d 94 63 [l0, l1, l2, l3, .int x] st h Q ↔ T d 94 65 [l0, l1, l2, l3, .int x] (.int x :: st) h Q := T_iload c94_63 rfl
theorem c94_65 : cod 94 65 = some (.ireturn, 1) := cod_of b94 dX7_mesh_65
theorem t94_65 {d : Nat} {h : Hp} {Q : Pst} {x : Int32} {ls : List Value} : T d 94 65 ls [.int x] h Q ↔ Q (some (.int x)) h := T_iretR m94 c94_65 rfl
theorem c94_66 : cod 94 66 = some (.iinc 4 (-1), 3) := cod_of b94 dX7_mesh_66
theorem t94_66 {d : Nat} {h : Hp} {Q : Pst} {l0 l1 l2 l3 : Value} {x : Int32} {st : List Value} : T d 94 66 [l0, l1, l2, l3, .int x] st h Q ↔ T d 94 69 [l0, l1, l2, kil l3, .int (x + (-1))] st h Q := T_iincV c94_66 rfl (Nat.le_of_ble_eq_true rfl) (by decide) rfl
theorem c94_69 : cod 94 69 = some (.goto (-27), 3) := cod_of b94 dX7_mesh_69
theorem t94_69 {d : Nat} {h : Hp} {Q : Pst} {ls : List Value} {st : List Value} : T d 94 69 ls st h Q ↔ T d 94 42 ls st h Q := T_goto c94_69 (by decide)
theorem c94_72 : cod 94 72 = some (.iconst (-1), 1) := cod_of b94 dX7_mesh_72
theorem t94_72 {d : Nat} {h : Hp} {Q : Pst} {ls : List Value} {st : List Value} : T d 94 72 ls st h Q ↔ T d 94 73 ls (.int (-1) :: st) h Q := T_iconstV c94_72 (by decide)
theorem c94_73 : cod 94 73 = some (.ireturn, 1) := cod_of b94 dX7_mesh_73
theorem t94_73 {d : Nat} {h : Hp} {Q : Pst} {x : Int32} {ls : List Value} : T d 94 73 ls [.int x] h Q ↔ Q (some (.int x)) h := T_iretR m94 c94_73 rfl
theorem c94_31 : cod 94 31 = some (.aload_n 0, 1) := cod_of b94 dX7_mesh_31
theorem t94_31 {d : Nat} {h : Hp} {Q : Pst} {l1 l2 l3 l4 : Value} {x : Nat} {st : List Value} : T d 94 31 [.ref x, l1, l2, l3, l4] st h Q ↔ T d 94 32 [.ref x, l1, l2, l3, l4] (.ref x :: st) h Q := T_aload_n c94_31 rfl
theorem c94_32 : cod 94 32 = some (.bipush (-2), 2) := cod_of b94 dX7_mesh_32
theorem t94_32 {d : Nat} {h : Hp} {Q : Pst} {ls : List Value} {st : List Value} : T d 94 32 ls st h Q ↔ T d 94 34 ls (.int (-2) :: st) h Q := T_bipushV c94_32 (by decide)
theorem c94_34 : cod 94 34 = some (.invokevirtual 66, 3) := cod_of b94 dX7_mesh_34
theorem t94_34 {d : Nat} {h : Hp} {Q : Pst} {a0 : Int32} {a : Nat} {ls : List Value} (ho : isO (h.2.2 a) 6) : T (d + 1) 94 34 ls [.int a0, .ref a] h Q ↔ T d 116 0 [.ref a, .int a0, un] [] h (fun x h2 => T (d + 1) 94 37 ls (rl x []) h2 Q) := T_virtualR (as := [.int a0]) (r := []) m94 m116 c94_34 k7_66  rfl (by decide) rfl (by simp [wrd, Value.category]) (by simp [stk, Value.category]) rfl (by decide +kernel) ho
theorem c94_37 : cod 94 37 = some (.ireturn, 1) := cod_of b94 dX7_mesh_37
theorem t94_37 {d : Nat} {h : Hp} {Q : Pst} {x : Int32} {ls : List Value} : T d 94 37 ls [.int x] h Q ↔ Q (some (.int x)) h := T_iretR m94 c94_37 rfl
theorem b95 : (mR 95).2.2.1 = cX7_place := by rw [m95]
theorem c95_0 : cod 95 0 = some (.iload_n 1, 1) := cod_of b95 dX7_place_0
theorem t95_0 {d : Nat} {h : Hp} {Q : Pst} {l0 : Value} {x : Int32} {st : List Value} : T d 95 0 [l0, .int x] st h Q ↔ T d 95 1 [l0, .int x] (.int x :: st) h Q := T_iload_n c95_0 rfl
theorem c95_1 : cod 95 1 = some (.iconst (-1), 1) := cod_of b95 dX7_place_1
theorem t95_1 {d : Nat} {h : Hp} {Q : Pst} {ls : List Value} {st : List Value} : T d 95 1 ls st h Q ↔ T d 95 2 ls (.int (-1) :: st) h Q := T_iconstV c95_1 (by decide)
theorem c95_2 : cod 95 2 = some (.if_icmp .eq 24, 3) := cod_of b95 dX7_place_2
theorem t95_2 {d : Nat} {h : Hp} {Q : Pst} {x y : Int32} {ls : List Value} {st : List Value} : T d 95 2 ls (.int y :: .int x :: st) h Q ↔ (if x = y then T d 95 26 ls st h Q else T d 95 5 ls st h Q) := T_icmp_eq c95_2 (by decide)
theorem c95_5 : cod 95 5 = some (.aload_n 0, 1) := cod_of b95 dX7_place_5
theorem t95_5 {d : Nat} {h : Hp} {Q : Pst} {l1 : Value} {x : Nat} {st : List Value} : T d 95 5 [.ref x, l1] st h Q ↔ T d 95 6 [.ref x, l1] (.ref x :: st) h Q := T_aload_n c95_5 rfl
theorem c95_6 : cod 95 6 = some (.getfield 10, 3) := cod_of b95 dX7_place_6
theorem t95_6 {d : Nat} {h : Hp} {Q : Pst} {a : Nat} {ls : List Value} {st : List Value} : T d 95 6 ls (.ref a :: st) h Q ↔ gF (h.2.2 a) 6 0 (fun v => T d 95 9 ls (v :: st) h Q) := T_getfieldR m95 c95_6 f7_10
theorem c95_9 : cod 95 9 = some (.iload_n 1, 1) := cod_of b95 dX7_place_9
theorem t95_9 {d : Nat} {h : Hp} {Q : Pst} {l0 : Value} {x : Int32} {st : List Value} : T d 95 9 [l0, .int x] st h Q ↔ T d 95 10 [l0, .int x] (.int x :: st) h Q := T_iload_n c95_9 rfl
theorem c95_10 : cod 95 10 = some (.invokevirtual 116, 3) := cod_of b95 dX7_place_10
theorem t95_10 {d : Nat} {h : Hp} {Q : Pst} {a0 : Int32} {a : Nat} {ls : List Value} (ho : isO (h.2.2 a) 5) : T (d + 1) 95 10 ls [.int a0, .ref a] h Q ↔ T d 55 0 [.ref a, .int a0] [] h (fun x h2 => T (d + 1) 95 13 ls (rl x []) h2 Q) := T_virtualR (as := [.int a0]) (r := []) m95 m55 c95_10 k7_116  rfl (by decide) rfl (by simp [wrd, Value.category]) (by simp [stk, Value.category]) rfl (by decide +kernel) ho
theorem c95_13 : cod 95 13 = some (.ifCond .ne 13, 3) := cod_of b95 dX7_place_13
theorem t95_13 {d : Nat} {h : Hp} {Q : Pst} {x : Int32} {ls : List Value} {st : List Value} : T d 95 13 ls (.int x :: st) h Q ↔ (if ¬ x = 0 then T d 95 26 ls st h Q else T d 95 16 ls st h Q) := T_if_ne c95_13 (by decide)
theorem c95_16 : cod 95 16 = some (.aload_n 0, 1) := cod_of b95 dX7_place_16
theorem t95_16 {d : Nat} {h : Hp} {Q : Pst} {l1 : Value} {x : Nat} {st : List Value} : T d 95 16 [.ref x, l1] st h Q ↔ T d 95 17 [.ref x, l1] (.ref x :: st) h Q := T_aload_n c95_16 rfl
theorem c95_17 : cod 95 17 = some (.bipush (-2), 2) := cod_of b95 dX7_place_17
theorem t95_17 {d : Nat} {h : Hp} {Q : Pst} {ls : List Value} {st : List Value} : T d 95 17 ls st h Q ↔ T d 95 19 ls (.int (-2) :: st) h Q := T_bipushV c95_17 (by decide)
theorem c95_19 : cod 95 19 = some (.invokevirtual 66, 3) := cod_of b95 dX7_place_19
theorem t95_19 {d : Nat} {h : Hp} {Q : Pst} {a0 : Int32} {a : Nat} {ls : List Value} (ho : isO (h.2.2 a) 6) : T (d + 1) 95 19 ls [.int a0, .ref a] h Q ↔ T d 116 0 [.ref a, .int a0, un] [] h (fun x h2 => T (d + 1) 95 22 ls (rl x []) h2 Q) := T_virtualR (as := [.int a0]) (r := []) m95 m116 c95_19 k7_66  rfl (by decide) rfl (by simp [wrd, Value.category]) (by simp [stk, Value.category]) rfl (by decide +kernel) ho
theorem c95_22 : cod 95 22 = some (.pop, 1) := cod_of b95 dX7_place_22
theorem t95_22 {d : Nat} {h : Hp} {Q : Pst} {x : Int32} {ls : List Value} {st : List Value} : T d 95 22 ls (.int x :: st) h Q ↔ T d 95 23 ls st h Q := T_pop c95_22 rfl
theorem c95_23 : cod 95 23 = some (.bipush (-10), 2) := cod_of b95 dX7_place_23
theorem t95_23 {d : Nat} {h : Hp} {Q : Pst} {ls : List Value} {st : List Value} : T d 95 23 ls st h Q ↔ T d 95 25 ls (.int (-10) :: st) h Q := T_bipushV c95_23 (by decide)
theorem c95_25 : cod 95 25 = some (.ireturn, 1) := cod_of b95 dX7_place_25
theorem t95_25 {d : Nat} {h : Hp} {Q : Pst} {x : Int32} {ls : List Value} : T d 95 25 ls [.int x] h Q ↔ Q (some (.int x)) h := T_iretR m95 c95_25 rfl
theorem c95_26 : cod 95 26 = some (.aload_n 0, 1) := cod_of b95 dX7_place_26
theorem t95_26 {d : Nat} {h : Hp} {Q : Pst} {l1 : Value} {x : Nat} {st : List Value} : T d 95 26 [.ref x, l1] st h Q ↔ T d 95 27 [.ref x, l1] (.ref x :: st) h Q := T_aload_n c95_26 rfl
theorem c95_27 : cod 95 27 = some (.getfield 40, 3) := cod_of b95 dX7_place_27
theorem t95_27 {d : Nat} {h : Hp} {Q : Pst} {a : Nat} {ls : List Value} {st : List Value} : T d 95 27 ls (.ref a :: st) h Q ↔ gF (h.2.2 a) 6 5 (fun v => T d 95 30 ls (v :: st) h Q) := T_getfieldR m95 c95_27 f7_40
theorem c95_30 : cod 95 30 = some (.aload_n 0, 1) := cod_of b95 dX7_place_30
theorem t95_30 {d : Nat} {h : Hp} {Q : Pst} {l1 : Value} {x : Nat} {st : List Value} : T d 95 30 [.ref x, l1] st h Q ↔ T d 95 31 [.ref x, l1] (.ref x :: st) h Q := T_aload_n c95_30 rfl
theorem c95_31 : cod 95 31 = some (.getfield 10, 3) := cod_of b95 dX7_place_31
theorem t95_31 {d : Nat} {h : Hp} {Q : Pst} {a : Nat} {ls : List Value} {st : List Value} : T d 95 31 ls (.ref a :: st) h Q ↔ gF (h.2.2 a) 6 0 (fun v => T d 95 34 ls (v :: st) h Q) := T_getfieldR m95 c95_31 f7_10
theorem c95_34 : cod 95 34 = some (.invokevirtual 209, 3) := cod_of b95 dX7_place_34
theorem t95_34 {d : Nat} {h : Hp} {Q : Pst} {a0 a : Nat} {ls : List Value} (ho : isO (h.2.2 a) 4) : T (d + 1) 95 34 ls [.ref a0, .ref a] h Q ↔ T d 46 0 [.ref a, .ref a0, un, un] [] h (fun x h2 => T (d + 1) 95 37 ls (rl x []) h2 Q) := T_virtualR (as := [.ref a0]) (r := []) m95 m46 c95_34 k7_209  rfl (by decide) rfl (by simp [wrd, Value.category]) (by simp [stk, Value.category]) rfl (by decide +kernel) ho
theorem c95_37 : cod 95 37 = some (.iload_n 1, 1) := cod_of b95 dX7_place_37
theorem t95_37 {d : Nat} {h : Hp} {Q : Pst} {l0 : Value} {x : Int32} {st : List Value} : T d 95 37 [l0, .int x] st h Q ↔ T d 95 38 [l0, .int x] (.int x :: st) h Q := T_iload_n c95_37 rfl
theorem c95_38 : cod 95 38 = some (.iconst (-1), 1) := cod_of b95 dX7_place_38
theorem t95_38 {d : Nat} {h : Hp} {Q : Pst} {ls : List Value} {st : List Value} : T d 95 38 ls st h Q ↔ T d 95 39 ls (.int (-1) :: st) h Q := T_iconstV c95_38 (by decide)
theorem c95_39 : cod 95 39 = some (.if_icmp .ne 13, 3) := cod_of b95 dX7_place_39
theorem t95_39 {d : Nat} {h : Hp} {Q : Pst} {x y : Int32} {ls : List Value} {st : List Value} : T d 95 39 ls (.int y :: .int x :: st) h Q ↔ (if ¬ x = y then T d 95 52 ls st h Q else T d 95 42 ls st h Q) := T_icmp_ne c95_39 (by decide)
theorem c95_42 : cod 95 42 = some (.aload_n 0, 1) := cod_of b95 dX7_place_42
theorem t95_42 {d : Nat} {h : Hp} {Q : Pst} {l1 : Value} {x : Nat} {st : List Value} : T d 95 42 [.ref x, l1] st h Q ↔ T d 95 43 [.ref x, l1] (.ref x :: st) h Q := T_aload_n c95_42 rfl
theorem c95_43 : cod 95 43 = some (.getfield 40, 3) := cod_of b95 dX7_place_43
theorem t95_43 {d : Nat} {h : Hp} {Q : Pst} {a : Nat} {ls : List Value} {st : List Value} : T d 95 43 ls (.ref a :: st) h Q ↔ gF (h.2.2 a) 6 5 (fun v => T d 95 46 ls (v :: st) h Q) := T_getfieldR m95 c95_43 f7_40
theorem c95_46 : cod 95 46 = some (.getfield 212, 3) := cod_of b95 dX7_place_46
theorem t95_46 {d : Nat} {h : Hp} {Q : Pst} {a : Nat} {ls : List Value} {st : List Value} : T d 95 46 ls (.ref a :: st) h Q ↔ gF (h.2.2 a) 4 6 (fun v => T d 95 49 ls (v :: st) h Q) := T_getfieldR m95 c95_46 f7_212
theorem c95_49 : cod 95 49 = some (.goto 14, 3) := cod_of b95 dX7_place_49
theorem t95_49 {d : Nat} {h : Hp} {Q : Pst} {ls : List Value} {st : List Value} : T d 95 49 ls st h Q ↔ T d 95 63 ls st h Q := T_goto c95_49 (by decide)
theorem c95_63 : cod 95 63 = some (.ireturn, 1) := cod_of b95 dX7_place_63
theorem t95_63 {d : Nat} {h : Hp} {Q : Pst} {x : Int32} {ls : List Value} : T d 95 63 ls [.int x] h Q ↔ Q (some (.int x)) h := T_iretR m95 c95_63 rfl
theorem c95_52 : cod 95 52 = some (.aload_n 0, 1) := cod_of b95 dX7_place_52
theorem t95_52 {d : Nat} {h : Hp} {Q : Pst} {l1 : Value} {x : Nat} {st : List Value} : T d 95 52 [.ref x, l1] st h Q ↔ T d 95 53 [.ref x, l1] (.ref x :: st) h Q := T_aload_n c95_52 rfl
theorem c95_53 : cod 95 53 = some (.getfield 40, 3) := cod_of b95 dX7_place_53
theorem t95_53 {d : Nat} {h : Hp} {Q : Pst} {a : Nat} {ls : List Value} {st : List Value} : T d 95 53 ls (.ref a :: st) h Q ↔ gF (h.2.2 a) 6 5 (fun v => T d 95 56 ls (v :: st) h Q) := T_getfieldR m95 c95_53 f7_40
theorem c95_56 : cod 95 56 = some (.getfield 215, 3) := cod_of b95 dX7_place_56
theorem t95_56 {d : Nat} {h : Hp} {Q : Pst} {a : Nat} {ls : List Value} {st : List Value} : T d 95 56 ls (.ref a :: st) h Q ↔ gF (h.2.2 a) 4 3 (fun v => T d 95 59 ls (v :: st) h Q) := T_getfieldR m95 c95_56 f7_215
theorem c95_59 : cod 95 59 = some (.iload_n 1, 1) := cod_of b95 dX7_place_59
theorem t95_59 {d : Nat} {h : Hp} {Q : Pst} {l0 : Value} {x : Int32} {st : List Value} : T d 95 59 [l0, .int x] st h Q ↔ T d 95 60 [l0, .int x] (.int x :: st) h Q := T_iload_n c95_59 rfl
theorem c95_60 : cod 95 60 = some (.invokestatic 126, 3) := cod_of b95 dX7_place_60
theorem t95_60 {d : Nat} {h : Hp} {Q : Pst} {a0 : Nat} {a1 : Int32} {ls : List Value} : T (d + 1) 95 60 ls [.int a1, .ref a0] h Q ↔ T d 122 0 [.ref a0, .int a1] [] h (fun x h2 => T (d + 1) 95 63 ls (rl x []) h2 Q) := T_staticR (as := [.ref a0, .int a1]) (r := []) m95 m122 c95_60 k7_126 (Or.inl rfl) rfl (by decide) rfl (by simp [wrd, Value.category]) (by simp [stk, Value.category]) rfl
theorem b96 : (mR 96).2.2.1 = cX7_seen := by rw [m96]
theorem c96_0 : cod 96 0 = some (.aload_n 0, 1) := cod_of b96 dX7_seen_0
theorem t96_0 {d : Nat} {h : Hp} {Q : Pst} {l1 l2 l3 l4 : Value} {x : Nat} {st : List Value} : T d 96 0 [.ref x, l1, l2, l3, l4] st h Q ↔ T d 96 1 [.ref x, l1, l2, l3, l4] (.ref x :: st) h Q := T_aload_n c96_0 rfl
theorem c96_1 : cod 96 1 = some (.getfield 10, 3) := cod_of b96 dX7_seen_1
theorem t96_1 {d : Nat} {h : Hp} {Q : Pst} {a : Nat} {ls : List Value} {st : List Value} : T d 96 1 ls (.ref a :: st) h Q ↔ gF (h.2.2 a) 6 0 (fun v => T d 96 4 ls (v :: st) h Q) := T_getfieldR m96 c96_1 f7_10
theorem c96_4 : cod 96 4 = some (.iload_n 1, 1) := cod_of b96 dX7_seen_4
theorem t96_4 {d : Nat} {h : Hp} {Q : Pst} {l0 l2 l3 l4 : Value} {x : Int32} {st : List Value} : T d 96 4 [l0, .int x, l2, l3, l4] st h Q ↔ T d 96 5 [l0, .int x, l2, l3, l4] (.int x :: st) h Q := T_iload_n c96_4 rfl
theorem c96_5 : cod 96 5 = some (.invokevirtual 116, 3) := cod_of b96 dX7_seen_5
theorem t96_5 {d : Nat} {h : Hp} {Q : Pst} {a0 : Int32} {a : Nat} {ls : List Value} (ho : isO (h.2.2 a) 5) : T (d + 1) 96 5 ls [.int a0, .ref a] h Q ↔ T d 55 0 [.ref a, .int a0] [] h (fun x h2 => T (d + 1) 96 8 ls (rl x []) h2 Q) := T_virtualR (as := [.int a0]) (r := []) m96 m55 c96_5 k7_116  rfl (by decide) rfl (by simp [wrd, Value.category]) (by simp [stk, Value.category]) rfl (by decide +kernel) ho
theorem c96_8 : cod 96 8 = some (.ifCond .eq 33, 3) := cod_of b96 dX7_seen_8
theorem t96_8 {d : Nat} {h : Hp} {Q : Pst} {x : Int32} {ls : List Value} {st : List Value} : T d 96 8 ls (.int x :: st) h Q ↔ (if x = 0 then T d 96 41 ls st h Q else T d 96 11 ls st h Q) := T_if_eq c96_8 (by decide)
theorem c96_11 : cod 96 11 = some (.aload_n 0, 1) := cod_of b96 dX7_seen_11
theorem t96_11 {d : Nat} {h : Hp} {Q : Pst} {l1 l2 l3 l4 : Value} {x : Nat} {st : List Value} : T d 96 11 [.ref x, l1, l2, l3, l4] st h Q ↔ T d 96 12 [.ref x, l1, l2, l3, l4] (.ref x :: st) h Q := T_aload_n c96_11 rfl
theorem c96_12 : cod 96 12 = some (.getfield 10, 3) := cod_of b96 dX7_seen_12
theorem t96_12 {d : Nat} {h : Hp} {Q : Pst} {a : Nat} {ls : List Value} {st : List Value} : T d 96 12 ls (.ref a :: st) h Q ↔ gF (h.2.2 a) 6 0 (fun v => T d 96 15 ls (v :: st) h Q) := T_getfieldR m96 c96_12 f7_10
theorem c96_15 : cod 96 15 = some (.iload_n 2, 1) := cod_of b96 dX7_seen_15
theorem t96_15 {d : Nat} {h : Hp} {Q : Pst} {l0 l1 l3 l4 : Value} {x : Int32} {st : List Value} : T d 96 15 [l0, l1, .int x, l3, l4] st h Q ↔ T d 96 16 [l0, l1, .int x, l3, l4] (.int x :: st) h Q := T_iload_n c96_15 rfl
theorem c96_16 : cod 96 16 = some (.invokevirtual 120, 3) := cod_of b96 dX7_seen_16
theorem t96_16 {d : Nat} {h : Hp} {Q : Pst} {a0 : Int32} {a : Nat} {ls : List Value} (ho : isO (h.2.2 a) 5) : T (d + 1) 96 16 ls [.int a0, .ref a] h Q ↔ T d 56 0 [.ref a, .int a0] [] h (fun x h2 => T (d + 1) 96 19 ls (rl x []) h2 Q) := T_virtualR (as := [.int a0]) (r := []) m96 m56 c96_16 k7_120  rfl (by decide) rfl (by simp [wrd, Value.category]) (by simp [stk, Value.category]) rfl (by decide +kernel) ho
theorem c96_19 : cod 96 19 = some (.ifCond .eq 22, 3) := cod_of b96 dX7_seen_19
theorem t96_19 {d : Nat} {h : Hp} {Q : Pst} {x : Int32} {ls : List Value} {st : List Value} : T d 96 19 ls (.int x :: st) h Q ↔ (if x = 0 then T d 96 41 ls st h Q else T d 96 22 ls st h Q) := T_if_eq c96_19 (by decide)
theorem c96_22 : cod 96 22 = some (.iload_n 3, 1) := cod_of b96 dX7_seen_22
theorem t96_22 {d : Nat} {h : Hp} {Q : Pst} {l0 l1 l2 l4 : Value} {x : Int32} {st : List Value} : T d 96 22 [l0, l1, l2, .int x, l4] st h Q ↔ T d 96 23 [l0, l1, l2, .int x, l4] (.int x :: st) h Q := T_iload_n c96_22 rfl
theorem c96_23 : cod 96 23 = some (.iconst 0, 1) := cod_of b96 dX7_seen_23
theorem t96_23 {d : Nat} {h : Hp} {Q : Pst} {ls : List Value} {st : List Value} : T d 96 23 ls st h Q ↔ T d 96 24 ls (.int 0 :: st) h Q := T_iconstV c96_23 (by decide)
theorem c96_24 : cod 96 24 = some (.iconst 4, 1) := cod_of b96 dX7_seen_24
theorem t96_24 {d : Nat} {h : Hp} {Q : Pst} {ls : List Value} {st : List Value} : T d 96 24 ls st h Q ↔ T d 96 25 ls (.int 4 :: st) h Q := T_iconstV c96_24 (by decide)
theorem c96_25 : cod 96 25 = some (.invokestatic 62, 3) := cod_of b96 dX7_seen_25
theorem t96_25 {d : Nat} {h : Hp} {Q : Pst} {a0 a1 a2 : Int32} {ls : List Value} : T (d + 1) 96 25 ls [.int a2, .int a1, .int a0] h Q ↔ T d 118 0 [.int a0, .int a1, .int a2] [] h (fun x h2 => T (d + 1) 96 28 ls (rl x []) h2 Q) := T_staticR (as := [.int a0, .int a1, .int a2]) (r := []) m96 m118 c96_25 k7_62 (Or.inl rfl) rfl (by decide) rfl (by simp [wrd, Value.category]) (by simp [stk, Value.category]) rfl
theorem c96_28 : cod 96 28 = some (.ifCond .eq 13, 3) := cod_of b96 dX7_seen_28
theorem t96_28 {d : Nat} {h : Hp} {Q : Pst} {x : Int32} {ls : List Value} {st : List Value} : T d 96 28 ls (.int x :: st) h Q ↔ (if x = 0 then T d 96 41 ls st h Q else T d 96 31 ls st h Q) := T_if_eq c96_28 (by decide)
theorem c96_31 : cod 96 31 = some (.iload 4, 2) := cod_of b96 dX7_seen_31
theorem t96_31 {d : Nat} {h : Hp} {Q : Pst} {l0 l1 l2 l3 : Value} {x : Int32} {st : List Value} : T d 96 31 [l0, l1, l2, l3, .int x] st h Q ↔ T d 96 33 [l0, l1, l2, l3, .int x] (.int x :: st) h Q := T_iload c96_31 rfl
theorem c96_33 : cod 96 33 = some (.iconst 0, 1) := cod_of b96 dX7_seen_33
theorem t96_33 {d : Nat} {h : Hp} {Q : Pst} {ls : List Value} {st : List Value} : T d 96 33 ls st h Q ↔ T d 96 34 ls (.int 0 :: st) h Q := T_iconstV c96_33 (by decide)
theorem c96_34 : cod 96 34 = some (.iconst 5, 1) := cod_of b96 dX7_seen_34
theorem t96_34 {d : Nat} {h : Hp} {Q : Pst} {ls : List Value} {st : List Value} : T d 96 34 ls st h Q ↔ T d 96 35 ls (.int 5 :: st) h Q := T_iconstV c96_34 (by decide)
theorem c96_35 : cod 96 35 = some (.invokestatic 62, 3) := cod_of b96 dX7_seen_35
theorem t96_35 {d : Nat} {h : Hp} {Q : Pst} {a0 a1 a2 : Int32} {ls : List Value} : T (d + 1) 96 35 ls [.int a2, .int a1, .int a0] h Q ↔ T d 118 0 [.int a0, .int a1, .int a2] [] h (fun x h2 => T (d + 1) 96 38 ls (rl x []) h2 Q) := T_staticR (as := [.int a0, .int a1, .int a2]) (r := []) m96 m118 c96_35 k7_62 (Or.inl rfl) rfl (by decide) rfl (by simp [wrd, Value.category]) (by simp [stk, Value.category]) rfl
theorem c96_38 : cod 96 38 = some (.ifCond .ne 10, 3) := cod_of b96 dX7_seen_38
theorem t96_38 {d : Nat} {h : Hp} {Q : Pst} {x : Int32} {ls : List Value} {st : List Value} : T d 96 38 ls (.int x :: st) h Q ↔ (if ¬ x = 0 then T d 96 48 ls st h Q else T d 96 41 ls st h Q) := T_if_ne c96_38 (by decide)
theorem c96_48 : cod 96 48 = some (.aload_n 0, 1) := cod_of b96 dX7_seen_48
theorem t96_48 {d : Nat} {h : Hp} {Q : Pst} {l1 l2 l3 l4 : Value} {x : Nat} {st : List Value} : T d 96 48 [.ref x, l1, l2, l3, l4] st h Q ↔ T d 96 49 [.ref x, l1, l2, l3, l4] (.ref x :: st) h Q := T_aload_n c96_48 rfl
theorem c96_49 : cod 96 49 = some (.getfield 10, 3) := cod_of b96 dX7_seen_49
theorem t96_49 {d : Nat} {h : Hp} {Q : Pst} {a : Nat} {ls : List Value} {st : List Value} : T d 96 49 ls (.ref a :: st) h Q ↔ gF (h.2.2 a) 6 0 (fun v => T d 96 52 ls (v :: st) h Q) := T_getfieldR m96 c96_49 f7_10
theorem c96_52 : cod 96 52 = some (.getfield 218, 3) := cod_of b96 dX7_seen_52
theorem t96_52 {d : Nat} {h : Hp} {Q : Pst} {a : Nat} {ls : List Value} {st : List Value} : T d 96 52 ls (.ref a :: st) h Q ↔ gF (h.2.2 a) 5 6 (fun v => T d 96 55 ls (v :: st) h Q) := T_getfieldR m96 c96_52 f7_218
theorem c96_55 : cod 96 55 = some (.invokevirtual 221, 3) := cod_of b96 dX7_seen_55
theorem t96_55 {d : Nat} {h : Hp} {Q : Pst} {a : Nat} {ls : List Value} (ho : isO (h.2.2 a) 3) : T (d + 1) 96 55 ls [.ref a] h Q ↔ T d 35 0 [.ref a] [] h (fun x h2 => T (d + 1) 96 58 ls (rl x []) h2 Q) := T_virtualR (as := []) (r := []) m96 m35 c96_55 k7_221  rfl (by decide) rfl (by simp [wrd, Value.category]) (by simp [stk, Value.category]) rfl (by decide +kernel) ho
theorem c96_58 : cod 96 58 = some (.ifCond .eq 10, 3) := cod_of b96 dX7_seen_58
theorem t96_58 {d : Nat} {h : Hp} {Q : Pst} {x : Int32} {ls : List Value} {st : List Value} : T d 96 58 ls (.int x :: st) h Q ↔ (if x = 0 then T d 96 68 ls st h Q else T d 96 61 ls st h Q) := T_if_eq c96_58 (by decide)
theorem c96_61 : cod 96 61 = some (.aload_n 0, 1) := cod_of b96 dX7_seen_61
theorem t96_61 {d : Nat} {h : Hp} {Q : Pst} {l1 l2 l3 l4 : Value} {x : Nat} {st : List Value} : T d 96 61 [.ref x, l1, l2, l3, l4] st h Q ↔ T d 96 62 [.ref x, l1, l2, l3, l4] (.ref x :: st) h Q := T_aload_n c96_61 rfl
theorem c96_62 : cod 96 62 = some (.bipush (-4), 2) := cod_of b96 dX7_seen_62
theorem t96_62 {d : Nat} {h : Hp} {Q : Pst} {ls : List Value} {st : List Value} : T d 96 62 ls st h Q ↔ T d 96 64 ls (.int (-4) :: st) h Q := T_bipushV c96_62 (by decide)
theorem c96_64 : cod 96 64 = some (.invokevirtual 66, 3) := cod_of b96 dX7_seen_64
theorem t96_64 {d : Nat} {h : Hp} {Q : Pst} {a0 : Int32} {a : Nat} {ls : List Value} (ho : isO (h.2.2 a) 6) : T (d + 1) 96 64 ls [.int a0, .ref a] h Q ↔ T d 116 0 [.ref a, .int a0, un] [] h (fun x h2 => T (d + 1) 96 67 ls (rl x []) h2 Q) := T_virtualR (as := [.int a0]) (r := []) m96 m116 c96_64 k7_66  rfl (by decide) rfl (by simp [wrd, Value.category]) (by simp [stk, Value.category]) rfl (by decide +kernel) ho
theorem c96_67 : cod 96 67 = some (.ireturn, 1) := cod_of b96 dX7_seen_67
theorem t96_67 {d : Nat} {h : Hp} {Q : Pst} {x : Int32} {ls : List Value} : T d 96 67 ls [.int x] h Q ↔ Q (some (.int x)) h := T_iretR m96 c96_67 rfl
theorem c96_68 : cod 96 68 = some (.aload_n 0, 1) := cod_of b96 dX7_seen_68
theorem t96_68 {d : Nat} {h : Hp} {Q : Pst} {l1 l2 l3 l4 : Value} {x : Nat} {st : List Value} : T d 96 68 [.ref x, l1, l2, l3, l4] st h Q ↔ T d 96 69 [.ref x, l1, l2, l3, l4] (.ref x :: st) h Q := T_aload_n c96_68 rfl
theorem c96_69 : cod 96 69 = some (.getfield 10, 3) := cod_of b96 dX7_seen_69
theorem t96_69 {d : Nat} {h : Hp} {Q : Pst} {a : Nat} {ls : List Value} {st : List Value} : T d 96 69 ls (.ref a :: st) h Q ↔ gF (h.2.2 a) 6 0 (fun v => T d 96 72 ls (v :: st) h Q) := T_getfieldR m96 c96_69 f7_10
theorem c96_72 : cod 96 72 = some (.getfield 218, 3) := cod_of b96 dX7_seen_72
theorem t96_72 {d : Nat} {h : Hp} {Q : Pst} {a : Nat} {ls : List Value} {st : List Value} : T d 96 72 ls (.ref a :: st) h Q ↔ gF (h.2.2 a) 5 6 (fun v => T d 96 75 ls (v :: st) h Q) := T_getfieldR m96 c96_72 f7_218
theorem c96_75 : cod 96 75 = some (.invokevirtual 225, 3) := cod_of b96 dX7_seen_75
theorem t96_75 {d : Nat} {h : Hp} {Q : Pst} {a : Nat} {ls : List Value} (ho : isO (h.2.2 a) 3) : T (d + 1) 96 75 ls [.ref a] h Q ↔ T d 36 0 [.ref a] [] h (fun x h2 => T (d + 1) 96 78 ls (rl x []) h2 Q) := T_virtualR (as := []) (r := []) m96 m36 c96_75 k7_225  rfl (by decide) rfl (by simp [wrd, Value.category]) (by simp [stk, Value.category]) rfl (by decide +kernel) ho
theorem c96_78 : cod 96 78 = some (.aload_n 0, 1) := cod_of b96 dX7_seen_78
theorem t96_78 {d : Nat} {h : Hp} {Q : Pst} {l1 l2 l3 l4 : Value} {x : Nat} {st : List Value} : T d 96 78 [.ref x, l1, l2, l3, l4] st h Q ↔ T d 96 79 [.ref x, l1, l2, l3, l4] (.ref x :: st) h Q := T_aload_n c96_78 rfl
theorem c96_79 : cod 96 79 = some (.getfield 10, 3) := cod_of b96 dX7_seen_79
theorem t96_79 {d : Nat} {h : Hp} {Q : Pst} {a : Nat} {ls : List Value} {st : List Value} : T d 96 79 ls (.ref a :: st) h Q ↔ gF (h.2.2 a) 6 0 (fun v => T d 96 82 ls (v :: st) h Q) := T_getfieldR m96 c96_79 f7_10
theorem c96_82 : cod 96 82 = some (.getfield 218, 3) := cod_of b96 dX7_seen_82
theorem t96_82 {d : Nat} {h : Hp} {Q : Pst} {a : Nat} {ls : List Value} {st : List Value} : T d 96 82 ls (.ref a :: st) h Q ↔ gF (h.2.2 a) 5 6 (fun v => T d 96 85 ls (v :: st) h Q) := T_getfieldR m96 c96_82 f7_218
theorem c96_85 : cod 96 85 = some (.iload_n 1, 1) := cod_of b96 dX7_seen_85
theorem t96_85 {d : Nat} {h : Hp} {Q : Pst} {l0 l2 l3 l4 : Value} {x : Int32} {st : List Value} : T d 96 85 [l0, .int x, l2, l3, l4] st h Q ↔ T d 96 86 [l0, .int x, l2, l3, l4] (.int x :: st) h Q := T_iload_n c96_85 rfl
theorem c96_86 : cod 96 86 = some (.iload_n 2, 1) := cod_of b96 dX7_seen_86
theorem t96_86 {d : Nat} {h : Hp} {Q : Pst} {l0 l1 l3 l4 : Value} {x : Int32} {st : List Value} : T d 96 86 [l0, l1, .int x, l3, l4] st h Q ↔ T d 96 87 [l0, l1, .int x, l3, l4] (.int x :: st) h Q := T_iload_n c96_86 rfl
theorem c96_87 : cod 96 87 = some (.iload_n 3, 1) := cod_of b96 dX7_seen_87
theorem t96_87 {d : Nat} {h : Hp} {Q : Pst} {l0 l1 l2 l4 : Value} {x : Int32} {st : List Value} : T d 96 87 [l0, l1, l2, .int x, l4] st h Q ↔ T d 96 88 [l0, l1, l2, .int x, l4] (.int x :: st) h Q := T_iload_n c96_87 rfl
theorem c96_88 : cod 96 88 = some (.iload 4, 2) := cod_of b96 dX7_seen_88
theorem t96_88 {d : Nat} {h : Hp} {Q : Pst} {l0 l1 l2 l3 : Value} {x : Int32} {st : List Value} : T d 96 88 [l0, l1, l2, l3, .int x] st h Q ↔ T d 96 90 [l0, l1, l2, l3, .int x] (.int x :: st) h Q := T_iload c96_88 rfl
theorem c96_90 : cod 96 90 = some (.invokevirtual 228, 3) := cod_of b96 dX7_seen_90
theorem t96_90 {d : Nat} {h : Hp} {Q : Pst} {a0 a1 a2 a3 : Int32} {a : Nat} {ls : List Value} (ho : isO (h.2.2 a) 3) : T (d + 1) 96 90 ls [.int a3, .int a2, .int a1, .int a0, .ref a] h Q ↔ T d 38 0 [.ref a, .int a0, .int a1, .int a2, .int a3] [] h (fun x h2 => T (d + 1) 96 93 ls (rl x []) h2 Q) := T_virtualR (as := [.int a0, .int a1, .int a2, .int a3]) (r := []) m96 m38 c96_90 k7_228  rfl (by decide) rfl (by simp [wrd, Value.category]) (by simp [stk, Value.category]) rfl (by decide +kernel) ho
theorem c96_93 : cod 96 93 = some (.aload_n 0, 1) := cod_of b96 dX7_seen_93
theorem t96_93 {d : Nat} {h : Hp} {Q : Pst} {l1 l2 l3 l4 : Value} {x : Nat} {st : List Value} : T d 96 93 [.ref x, l1, l2, l3, l4] st h Q ↔ T d 96 94 [.ref x, l1, l2, l3, l4] (.ref x :: st) h Q := T_aload_n c96_93 rfl
theorem c96_94 : cod 96 94 = some (.getfield 10, 3) := cod_of b96 dX7_seen_94
theorem t96_94 {d : Nat} {h : Hp} {Q : Pst} {a : Nat} {ls : List Value} {st : List Value} : T d 96 94 ls (.ref a :: st) h Q ↔ gF (h.2.2 a) 6 0 (fun v => T d 96 97 ls (v :: st) h Q) := T_getfieldR m96 c96_94 f7_10
theorem c96_97 : cod 96 97 = some (.getfield 218, 3) := cod_of b96 dX7_seen_97
theorem t96_97 {d : Nat} {h : Hp} {Q : Pst} {a : Nat} {ls : List Value} {st : List Value} : T d 96 97 ls (.ref a :: st) h Q ↔ gF (h.2.2 a) 5 6 (fun v => T d 96 100 ls (v :: st) h Q) := T_getfieldR m96 c96_97 f7_218
theorem c96_100 : cod 96 100 = some (.getfield 154, 3) := cod_of b96 dX7_seen_100
theorem t96_100 {d : Nat} {h : Hp} {Q : Pst} {a : Nat} {ls : List Value} {st : List Value} : T d 96 100 ls (.ref a :: st) h Q ↔ gF (h.2.2 a) 3 3 (fun v => T d 96 103 ls (v :: st) h Q) := T_getfieldR m96 c96_100 f7_154
theorem c96_103 : cod 96 103 = some (.ireturn, 1) := cod_of b96 dX7_seen_103
theorem t96_103 {d : Nat} {h : Hp} {Q : Pst} {x : Int32} {ls : List Value} : T d 96 103 ls [.int x] h Q ↔ Q (some (.int x)) h := T_iretR m96 c96_103 rfl
theorem c96_41 : cod 96 41 = some (.aload_n 0, 1) := cod_of b96 dX7_seen_41
theorem t96_41 {d : Nat} {h : Hp} {Q : Pst} {l1 l2 l3 l4 : Value} {x : Nat} {st : List Value} : T d 96 41 [.ref x, l1, l2, l3, l4] st h Q ↔ T d 96 42 [.ref x, l1, l2, l3, l4] (.ref x :: st) h Q := T_aload_n c96_41 rfl
theorem c96_42 : cod 96 42 = some (.bipush (-2), 2) := cod_of b96 dX7_seen_42
theorem t96_42 {d : Nat} {h : Hp} {Q : Pst} {ls : List Value} {st : List Value} : T d 96 42 ls st h Q ↔ T d 96 44 ls (.int (-2) :: st) h Q := T_bipushV c96_42 (by decide)
theorem c96_44 : cod 96 44 = some (.invokevirtual 66, 3) := cod_of b96 dX7_seen_44
theorem t96_44 {d : Nat} {h : Hp} {Q : Pst} {a0 : Int32} {a : Nat} {ls : List Value} (ho : isO (h.2.2 a) 6) : T (d + 1) 96 44 ls [.int a0, .ref a] h Q ↔ T d 116 0 [.ref a, .int a0, un] [] h (fun x h2 => T (d + 1) 96 47 ls (rl x []) h2 Q) := T_virtualR (as := [.int a0]) (r := []) m96 m116 c96_44 k7_66  rfl (by decide) rfl (by simp [wrd, Value.category]) (by simp [stk, Value.category]) rfl (by decide +kernel) ho
theorem c96_47 : cod 96 47 = some (.ireturn, 1) := cod_of b96 dX7_seen_47
theorem t96_47 {d : Nat} {h : Hp} {Q : Pst} {x : Int32} {ls : List Value} : T d 96 47 ls [.int x] h Q ↔ Q (some (.int x)) h := T_iretR m96 c96_47 rfl
theorem b97 : (mR 97).2.2.1 = cX7_sizes := by rw [m97]
theorem c97_0 : cod 97 0 = some (.aload_n 0, 1) := cod_of b97 dX7_sizes_0
theorem t97_0 {d : Nat} {h : Hp} {Q : Pst} {l1 l2 l3 : Value} {x : Nat} {st : List Value} : T d 97 0 [.ref x, l1, l2, l3] st h Q ↔ T d 97 1 [.ref x, l1, l2, l3] (.ref x :: st) h Q := T_aload_n c97_0 rfl
theorem c97_1 : cod 97 1 = some (.getfield 10, 3) := cod_of b97 dX7_sizes_1
theorem t97_1 {d : Nat} {h : Hp} {Q : Pst} {a : Nat} {ls : List Value} {st : List Value} : T d 97 1 ls (.ref a :: st) h Q ↔ gF (h.2.2 a) 6 0 (fun v => T d 97 4 ls (v :: st) h Q) := T_getfieldR m97 c97_1 f7_10
theorem c97_4 : cod 97 4 = some (.iload_n 1, 1) := cod_of b97 dX7_sizes_4
theorem t97_4 {d : Nat} {h : Hp} {Q : Pst} {l0 l2 l3 : Value} {x : Int32} {st : List Value} : T d 97 4 [l0, .int x, l2, l3] st h Q ↔ T d 97 5 [l0, .int x, l2, l3] (.int x :: st) h Q := T_iload_n c97_4 rfl
theorem c97_5 : cod 97 5 = some (.invokevirtual 116, 3) := cod_of b97 dX7_sizes_5
theorem t97_5 {d : Nat} {h : Hp} {Q : Pst} {a0 : Int32} {a : Nat} {ls : List Value} (ho : isO (h.2.2 a) 5) : T (d + 1) 97 5 ls [.int a0, .ref a] h Q ↔ T d 55 0 [.ref a, .int a0] [] h (fun x h2 => T (d + 1) 97 8 ls (rl x []) h2 Q) := T_virtualR (as := [.int a0]) (r := []) m97 m55 c97_5 k7_116  rfl (by decide) rfl (by simp [wrd, Value.category]) (by simp [stk, Value.category]) rfl (by decide +kernel) ho
theorem c97_8 : cod 97 8 = some (.ifCond .eq 12, 3) := cod_of b97 dX7_sizes_8
theorem t97_8 {d : Nat} {h : Hp} {Q : Pst} {x : Int32} {ls : List Value} {st : List Value} : T d 97 8 ls (.int x :: st) h Q ↔ (if x = 0 then T d 97 20 ls st h Q else T d 97 11 ls st h Q) := T_if_eq c97_8 (by decide)
theorem c97_11 : cod 97 11 = some (.iload_n 2, 1) := cod_of b97 dX7_sizes_11
theorem t97_11 {d : Nat} {h : Hp} {Q : Pst} {l0 l1 l3 : Value} {x : Int32} {st : List Value} : T d 97 11 [l0, l1, .int x, l3] st h Q ↔ T d 97 12 [l0, l1, .int x, l3] (.int x :: st) h Q := T_iload_n c97_11 rfl
theorem c97_12 : cod 97 12 = some (.iconst 0, 1) := cod_of b97 dX7_sizes_12
theorem t97_12 {d : Nat} {h : Hp} {Q : Pst} {ls : List Value} {st : List Value} : T d 97 12 ls st h Q ↔ T d 97 13 ls (.int 0 :: st) h Q := T_iconstV c97_12 (by decide)
theorem c97_13 : cod 97 13 = some (.iconst 2, 1) := cod_of b97 dX7_sizes_13
theorem t97_13 {d : Nat} {h : Hp} {Q : Pst} {ls : List Value} {st : List Value} : T d 97 13 ls st h Q ↔ T d 97 14 ls (.int 2 :: st) h Q := T_iconstV c97_13 (by decide)
theorem c97_14 : cod 97 14 = some (.invokestatic 62, 3) := cod_of b97 dX7_sizes_14
theorem t97_14 {d : Nat} {h : Hp} {Q : Pst} {a0 a1 a2 : Int32} {ls : List Value} : T (d + 1) 97 14 ls [.int a2, .int a1, .int a0] h Q ↔ T d 118 0 [.int a0, .int a1, .int a2] [] h (fun x h2 => T (d + 1) 97 17 ls (rl x []) h2 Q) := T_staticR (as := [.int a0, .int a1, .int a2]) (r := []) m97 m118 c97_14 k7_62 (Or.inl rfl) rfl (by decide) rfl (by simp [wrd, Value.category]) (by simp [stk, Value.category]) rfl
theorem c97_17 : cod 97 17 = some (.ifCond .ne 10, 3) := cod_of b97 dX7_sizes_17
theorem t97_17 {d : Nat} {h : Hp} {Q : Pst} {x : Int32} {ls : List Value} {st : List Value} : T d 97 17 ls (.int x :: st) h Q ↔ (if ¬ x = 0 then T d 97 27 ls st h Q else T d 97 20 ls st h Q) := T_if_ne c97_17 (by decide)
theorem c97_27 : cod 97 27 = some (.aload_n 0, 1) := cod_of b97 dX7_sizes_27
theorem t97_27 {d : Nat} {h : Hp} {Q : Pst} {l1 l2 l3 : Value} {x : Nat} {st : List Value} : T d 97 27 [.ref x, l1, l2, l3] st h Q ↔ T d 97 28 [.ref x, l1, l2, l3] (.ref x :: st) h Q := T_aload_n c97_27 rfl
theorem c97_28 : cod 97 28 = some (.getfield 33, 3) := cod_of b97 dX7_sizes_28
theorem t97_28 {d : Nat} {h : Hp} {Q : Pst} {a : Nat} {ls : List Value} {st : List Value} : T d 97 28 ls (.ref a :: st) h Q ↔ gF (h.2.2 a) 6 4 (fun v => T d 97 31 ls (v :: st) h Q) := T_getfieldR m97 c97_28 f7_33
theorem c97_31 : cod 97 31 = some (.aload_n 0, 1) := cod_of b97 dX7_sizes_31
theorem t97_31 {d : Nat} {h : Hp} {Q : Pst} {l1 l2 l3 : Value} {x : Nat} {st : List Value} : T d 97 31 [.ref x, l1, l2, l3] st h Q ↔ T d 97 32 [.ref x, l1, l2, l3] (.ref x :: st) h Q := T_aload_n c97_31 rfl
theorem c97_32 : cod 97 32 = some (.getfield 10, 3) := cod_of b97 dX7_sizes_32
theorem t97_32 {d : Nat} {h : Hp} {Q : Pst} {a : Nat} {ls : List Value} {st : List Value} : T d 97 32 ls (.ref a :: st) h Q ↔ gF (h.2.2 a) 6 0 (fun v => T d 97 35 ls (v :: st) h Q) := T_getfieldR m97 c97_32 f7_10
theorem c97_35 : cod 97 35 = some (.iload_n 1, 1) := cod_of b97 dX7_sizes_35
theorem t97_35 {d : Nat} {h : Hp} {Q : Pst} {l0 l2 l3 : Value} {x : Int32} {st : List Value} : T d 97 35 [l0, .int x, l2, l3] st h Q ↔ T d 97 36 [l0, .int x, l2, l3] (.int x :: st) h Q := T_iload_n c97_35 rfl
theorem c97_36 : cod 97 36 = some (.invokevirtual 232, 3) := cod_of b97 dX7_sizes_36
theorem t97_36 {d : Nat} {h : Hp} {Q : Pst} {a0 a : Nat} {a1 : Int32} {ls : List Value} (ho : isO (h.2.2 a) 1) : T (d + 1) 97 36 ls [.int a1, .ref a0, .ref a] h Q ↔ T d 6 0 [.ref a, .ref a0, .int a1, un, un] [] h (fun x h2 => T (d + 1) 97 39 ls (rl x []) h2 Q) := T_virtualR (as := [.ref a0, .int a1]) (r := []) m97 m6 c97_36 k7_232  rfl (by decide) rfl (by simp [wrd, Value.category]) (by simp [stk, Value.category]) rfl (by decide +kernel) ho
theorem c97_39 : cod 97 39 = some (.istore_n 3, 1) := cod_of b97 dX7_sizes_39
theorem t97_39 {d : Nat} {h : Hp} {Q : Pst} {l0 l1 l2 l3 : Value} {x : Int32} {st : List Value} : T d 97 39 [l0, l1, l2, l3] (.int x :: st) h Q ↔ T d 97 40 [l0, l1, kil l2, .int x] st h Q := T_istore_n c97_39 (Nat.le_of_ble_eq_true rfl)
theorem c97_40 : cod 97 40 = some (.iload_n 2, 1) := cod_of b97 dX7_sizes_40
theorem t97_40 {d : Nat} {h : Hp} {Q : Pst} {l0 l1 l3 : Value} {x : Int32} {st : List Value} : T d 97 40 [l0, l1, .int x, l3] st h Q ↔ T d 97 41 [l0, l1, .int x, l3] (.int x :: st) h Q := T_iload_n c97_40 rfl
theorem c97_41 : cod 97 41 = some (.ifCond .ne 8, 3) := cod_of b97 dX7_sizes_41
theorem t97_41 {d : Nat} {h : Hp} {Q : Pst} {x : Int32} {ls : List Value} {st : List Value} : T d 97 41 ls (.int x :: st) h Q ↔ (if ¬ x = 0 then T d 97 49 ls st h Q else T d 97 44 ls st h Q) := T_if_ne c97_41 (by decide)
theorem c97_44 : cod 97 44 = some (.iload_n 3, 1) := cod_of b97 dX7_sizes_44
theorem t97_44 {d : Nat} {h : Hp} {Q : Pst} {l0 l1 l2 : Value} {x : Int32} {st : List Value} : T d 97 44 [l0, l1, l2, .int x] st h Q ↔ T d 97 45 [l0, l1, l2, .int x] (.int x :: st) h Q := T_iload_n c97_44 rfl
theorem c97_45 : cod 97 45 = some (.invokestatic 198, 3) := cod_of b97 dX7_sizes_45
theorem t97_45 {d : Nat} {h : Hp} {Q : Pst} {a0 : Int32} {ls : List Value} : T (d + 1) 97 45 ls [.int a0] h Q ↔ T d 213 0 [.int a0] [] h (fun x h2 => T (d + 1) 97 48 ls (rl x []) h2 Q) := T_staticR (as := [.int a0]) (r := []) m97 m213 c97_45 k7_198 (Or.inl rfl) rfl (by decide) rfl (by simp [wrd, Value.category]) (by simp [stk, Value.category]) rfl
theorem c97_48 : cod 97 48 = some (.ireturn, 1) := cod_of b97 dX7_sizes_48
theorem t97_48 {d : Nat} {h : Hp} {Q : Pst} {x : Int32} {ls : List Value} : T d 97 48 ls [.int x] h Q ↔ Q (some (.int x)) h := T_iretR m97 c97_48 rfl
theorem c97_49 : cod 97 49 = some (.iload_n 2, 1) := cod_of b97 dX7_sizes_49
theorem t97_49 {d : Nat} {h : Hp} {Q : Pst} {l0 l1 l3 : Value} {x : Int32} {st : List Value} : T d 97 49 [l0, l1, .int x, l3] st h Q ↔ T d 97 50 [l0, l1, .int x, l3] (.int x :: st) h Q := T_iload_n c97_49 rfl
theorem c97_50 : cod 97 50 = some (.iconst 1, 1) := cod_of b97 dX7_sizes_50
theorem t97_50 {d : Nat} {h : Hp} {Q : Pst} {ls : List Value} {st : List Value} : T d 97 50 ls st h Q ↔ T d 97 51 ls (.int 1 :: st) h Q := T_iconstV c97_50 (by decide)
theorem c97_51 : cod 97 51 = some (.if_icmp .ne 10, 3) := cod_of b97 dX7_sizes_51
theorem t97_51 {d : Nat} {h : Hp} {Q : Pst} {x y : Int32} {ls : List Value} {st : List Value} : T d 97 51 ls (.int y :: .int x :: st) h Q ↔ (if ¬ x = y then T d 97 61 ls st h Q else T d 97 54 ls st h Q) := T_icmp_ne c97_51 (by decide)
theorem c97_54 : cod 97 54 = some (.iload_n 3, 1) := cod_of b97 dX7_sizes_54
theorem t97_54 {d : Nat} {h : Hp} {Q : Pst} {l0 l1 l2 : Value} {x : Int32} {st : List Value} : T d 97 54 [l0, l1, l2, .int x] st h Q ↔ T d 97 55 [l0, l1, l2, .int x] (.int x :: st) h Q := T_iload_n c97_54 rfl
theorem c97_55 : cod 97 55 = some (.invokestatic 236, 3) := cod_of b97 dX7_sizes_55
theorem t97_55 {d : Nat} {h : Hp} {Q : Pst} {a0 : Int32} {ls : List Value} : T (d + 1) 97 55 ls [.int a0] h Q ↔ T d 120 0 [.int a0, un] [] h (fun x h2 => T (d + 1) 97 58 ls (rl x []) h2 Q) := T_staticR (as := [.int a0]) (r := []) m97 m120 c97_55 k7_236 (Or.inl rfl) rfl (by decide) rfl (by simp [wrd, Value.category]) (by simp [stk, Value.category]) rfl
theorem c97_58 : cod 97 58 = some (.goto 7, 3) := cod_of b97 dX7_sizes_58
theorem t97_58 {d : Nat} {h : Hp} {Q : Pst} {ls : List Value} {st : List Value} : T d 97 58 ls st h Q ↔ T d 97 65 ls st h Q := T_goto c97_58 (by decide)
theorem c97_65 : cod 97 65 = some (.ireturn, 1) := cod_of b97 dX7_sizes_65
theorem t97_65 {d : Nat} {h : Hp} {Q : Pst} {x : Int32} {ls : List Value} : T d 97 65 ls [.int x] h Q ↔ Q (some (.int x)) h := T_iretR m97 c97_65 rfl
theorem c97_61 : cod 97 61 = some (.iload_n 3, 1) := cod_of b97 dX7_sizes_61
theorem t97_61 {d : Nat} {h : Hp} {Q : Pst} {l0 l1 l2 : Value} {x : Int32} {st : List Value} : T d 97 61 [l0, l1, l2, .int x] st h Q ↔ T d 97 62 [l0, l1, l2, .int x] (.int x :: st) h Q := T_iload_n c97_61 rfl
theorem c97_62 : cod 97 62 = some (.invokestatic 239, 3) := cod_of b97 dX7_sizes_62
theorem t97_62 {d : Nat} {h : Hp} {Q : Pst} {a0 : Int32} {ls : List Value} : T (d + 1) 97 62 ls [.int a0] h Q ↔ T d 121 0 [.int a0, un] [] h (fun x h2 => T (d + 1) 97 65 ls (rl x []) h2 Q) := T_staticR (as := [.int a0]) (r := []) m97 m121 c97_62 k7_239 (Or.inl rfl) rfl (by decide) rfl (by simp [wrd, Value.category]) (by simp [stk, Value.category]) rfl
theorem c97_20 : cod 97 20 = some (.aload_n 0, 1) := cod_of b97 dX7_sizes_20
theorem t97_20 {d : Nat} {h : Hp} {Q : Pst} {l1 l2 l3 : Value} {x : Nat} {st : List Value} : T d 97 20 [.ref x, l1, l2, l3] st h Q ↔ T d 97 21 [.ref x, l1, l2, l3] (.ref x :: st) h Q := T_aload_n c97_20 rfl
theorem c97_21 : cod 97 21 = some (.bipush (-2), 2) := cod_of b97 dX7_sizes_21
theorem t97_21 {d : Nat} {h : Hp} {Q : Pst} {ls : List Value} {st : List Value} : T d 97 21 ls st h Q ↔ T d 97 23 ls (.int (-2) :: st) h Q := T_bipushV c97_21 (by decide)
theorem c97_23 : cod 97 23 = some (.invokevirtual 66, 3) := cod_of b97 dX7_sizes_23
theorem t97_23 {d : Nat} {h : Hp} {Q : Pst} {a0 : Int32} {a : Nat} {ls : List Value} (ho : isO (h.2.2 a) 6) : T (d + 1) 97 23 ls [.int a0, .ref a] h Q ↔ T d 116 0 [.ref a, .int a0, un] [] h (fun x h2 => T (d + 1) 97 26 ls (rl x []) h2 Q) := T_virtualR (as := [.int a0]) (r := []) m97 m116 c97_23 k7_66  rfl (by decide) rfl (by simp [wrd, Value.category]) (by simp [stk, Value.category]) rfl (by decide +kernel) ho
theorem c97_26 : cod 97 26 = some (.ireturn, 1) := cod_of b97 dX7_sizes_26
theorem t97_26 {d : Nat} {h : Hp} {Q : Pst} {x : Int32} {ls : List Value} : T d 97 26 ls [.int x] h Q ↔ Q (some (.int x)) h := T_iretR m97 c97_26 rfl
theorem b98 : (mR 98).2.2.1 = cX7_tell := by rw [m98]
theorem c98_0 : cod 98 0 = some (.aload_n 0, 1) := cod_of b98 dX7_tell_0
theorem t98_0 {d : Nat} {h : Hp} {Q : Pst} {l1 : Value} {x : Nat} {st : List Value} : T d 98 0 [.ref x, l1] st h Q ↔ T d 98 1 [.ref x, l1] (.ref x :: st) h Q := T_aload_n c98_0 rfl
theorem c98_1 : cod 98 1 = some (.getfield 10, 3) := cod_of b98 dX7_tell_1
theorem t98_1 {d : Nat} {h : Hp} {Q : Pst} {a : Nat} {ls : List Value} {st : List Value} : T d 98 1 ls (.ref a :: st) h Q ↔ gF (h.2.2 a) 6 0 (fun v => T d 98 4 ls (v :: st) h Q) := T_getfieldR m98 c98_1 f7_10
theorem c98_4 : cod 98 4 = some (.iload_n 1, 1) := cod_of b98 dX7_tell_4
theorem t98_4 {d : Nat} {h : Hp} {Q : Pst} {l0 : Value} {x : Int32} {st : List Value} : T d 98 4 [l0, .int x] st h Q ↔ T d 98 5 [l0, .int x] (.int x :: st) h Q := T_iload_n c98_4 rfl
theorem c98_5 : cod 98 5 = some (.invokevirtual 116, 3) := cod_of b98 dX7_tell_5
theorem t98_5 {d : Nat} {h : Hp} {Q : Pst} {a0 : Int32} {a : Nat} {ls : List Value} (ho : isO (h.2.2 a) 5) : T (d + 1) 98 5 ls [.int a0, .ref a] h Q ↔ T d 55 0 [.ref a, .int a0] [] h (fun x h2 => T (d + 1) 98 8 ls (rl x []) h2 Q) := T_virtualR (as := [.int a0]) (r := []) m98 m55 c98_5 k7_116  rfl (by decide) rfl (by simp [wrd, Value.category]) (by simp [stk, Value.category]) rfl (by decide +kernel) ho
theorem c98_8 : cod 98 8 = some (.ifCond .ne 10, 3) := cod_of b98 dX7_tell_8
theorem t98_8 {d : Nat} {h : Hp} {Q : Pst} {x : Int32} {ls : List Value} {st : List Value} : T d 98 8 ls (.int x :: st) h Q ↔ (if ¬ x = 0 then T d 98 18 ls st h Q else T d 98 11 ls st h Q) := T_if_ne c98_8 (by decide)
theorem c98_11 : cod 98 11 = some (.aload_n 0, 1) := cod_of b98 dX7_tell_11
theorem t98_11 {d : Nat} {h : Hp} {Q : Pst} {l1 : Value} {x : Nat} {st : List Value} : T d 98 11 [.ref x, l1] st h Q ↔ T d 98 12 [.ref x, l1] (.ref x :: st) h Q := T_aload_n c98_11 rfl
theorem c98_12 : cod 98 12 = some (.bipush (-2), 2) := cod_of b98 dX7_tell_12
theorem t98_12 {d : Nat} {h : Hp} {Q : Pst} {ls : List Value} {st : List Value} : T d 98 12 ls st h Q ↔ T d 98 14 ls (.int (-2) :: st) h Q := T_bipushV c98_12 (by decide)
theorem c98_14 : cod 98 14 = some (.invokevirtual 66, 3) := cod_of b98 dX7_tell_14
theorem t98_14 {d : Nat} {h : Hp} {Q : Pst} {a0 : Int32} {a : Nat} {ls : List Value} (ho : isO (h.2.2 a) 6) : T (d + 1) 98 14 ls [.int a0, .ref a] h Q ↔ T d 116 0 [.ref a, .int a0, un] [] h (fun x h2 => T (d + 1) 98 17 ls (rl x []) h2 Q) := T_virtualR (as := [.int a0]) (r := []) m98 m116 c98_14 k7_66  rfl (by decide) rfl (by simp [wrd, Value.category]) (by simp [stk, Value.category]) rfl (by decide +kernel) ho
theorem c98_17 : cod 98 17 = some (.ireturn, 1) := cod_of b98 dX7_tell_17
theorem t98_17 {d : Nat} {h : Hp} {Q : Pst} {x : Int32} {ls : List Value} : T d 98 17 ls [.int x] h Q ↔ Q (some (.int x)) h := T_iretR m98 c98_17 rfl
theorem c98_18 : cod 98 18 = some (.aload_n 0, 1) := cod_of b98 dX7_tell_18
theorem t98_18 {d : Nat} {h : Hp} {Q : Pst} {l1 : Value} {x : Nat} {st : List Value} : T d 98 18 [.ref x, l1] st h Q ↔ T d 98 19 [.ref x, l1] (.ref x :: st) h Q := T_aload_n c98_18 rfl
theorem c98_19 : cod 98 19 = some (.getfield 33, 3) := cod_of b98 dX7_tell_19
theorem t98_19 {d : Nat} {h : Hp} {Q : Pst} {a : Nat} {ls : List Value} {st : List Value} : T d 98 19 ls (.ref a :: st) h Q ↔ gF (h.2.2 a) 6 4 (fun v => T d 98 22 ls (v :: st) h Q) := T_getfieldR m98 c98_19 f7_33
theorem c98_22 : cod 98 22 = some (.aload_n 0, 1) := cod_of b98 dX7_tell_22
theorem t98_22 {d : Nat} {h : Hp} {Q : Pst} {l1 : Value} {x : Nat} {st : List Value} : T d 98 22 [.ref x, l1] st h Q ↔ T d 98 23 [.ref x, l1] (.ref x :: st) h Q := T_aload_n c98_22 rfl
theorem c98_23 : cod 98 23 = some (.getfield 10, 3) := cod_of b98 dX7_tell_23
theorem t98_23 {d : Nat} {h : Hp} {Q : Pst} {a : Nat} {ls : List Value} {st : List Value} : T d 98 23 ls (.ref a :: st) h Q ↔ gF (h.2.2 a) 6 0 (fun v => T d 98 26 ls (v :: st) h Q) := T_getfieldR m98 c98_23 f7_10
theorem c98_26 : cod 98 26 = some (.iload_n 1, 1) := cod_of b98 dX7_tell_26
theorem t98_26 {d : Nat} {h : Hp} {Q : Pst} {l0 : Value} {x : Int32} {st : List Value} : T d 98 26 [l0, .int x] st h Q ↔ T d 98 27 [l0, .int x] (.int x :: st) h Q := T_iload_n c98_26 rfl
theorem c98_27 : cod 98 27 = some (.invokevirtual 242, 3) := cod_of b98 dX7_tell_27
theorem t98_27 {d : Nat} {h : Hp} {Q : Pst} {a0 a : Nat} {a1 : Int32} {ls : List Value} (ho : isO (h.2.2 a) 1) : T (d + 1) 98 27 ls [.int a1, .ref a0, .ref a] h Q ↔ T d 8 0 [.ref a, .ref a0, .int a1, un, un, un, un, un] [] h (fun x h2 => T (d + 1) 98 30 ls (rl x []) h2 Q) := T_virtualR (as := [.ref a0, .int a1]) (r := []) m98 m8 c98_27 k7_242  rfl (by decide) rfl (by simp [wrd, Value.category]) (by simp [stk, Value.category]) rfl (by decide +kernel) ho
theorem c98_30 : cod 98 30 = some (.ireturn, 1) := cod_of b98 dX7_tell_30
theorem t98_30 {d : Nat} {h : Hp} {Q : Pst} {x : Int32} {ls : List Value} : T d 98 30 ls [.int x] h Q ↔ Q (some (.int x)) h := T_iretR m98 c98_30 rfl
theorem b99 : (mR 99).2.2.1 = cX7_note := by rw [m99]
theorem c99_0 : cod 99 0 = some (.iload_n 2, 1) := cod_of b99 dX7_note_0
theorem t99_0 {d : Nat} {h : Hp} {Q : Pst} {l0 l1 l3 l4 l5 : Value} {x : Int32} {st : List Value} : T d 99 0 [l0, l1, .int x, l3, l4, l5] st h Q ↔ T d 99 1 [l0, l1, .int x, l3, l4, l5] (.int x :: st) h Q := T_iload_n c99_0 rfl
theorem c99_1 : cod 99 1 = some (.iconst 1, 1) := cod_of b99 dX7_note_1
theorem t99_1 {d : Nat} {h : Hp} {Q : Pst} {ls : List Value} {st : List Value} : T d 99 1 ls st h Q ↔ T d 99 2 ls (.int 1 :: st) h Q := T_iconstV c99_1 (by decide)
theorem c99_2 : cod 99 2 = some (.bipush 30, 2) := cod_of b99 dX7_note_2
theorem t99_2 {d : Nat} {h : Hp} {Q : Pst} {ls : List Value} {st : List Value} : T d 99 2 ls st h Q ↔ T d 99 4 ls (.int 30 :: st) h Q := T_bipushV c99_2 (by decide)
theorem c99_4 : cod 99 4 = some (.invokestatic 62, 3) := cod_of b99 dX7_note_4
theorem t99_4 {d : Nat} {h : Hp} {Q : Pst} {a0 a1 a2 : Int32} {ls : List Value} : T (d + 1) 99 4 ls [.int a2, .int a1, .int a0] h Q ↔ T d 118 0 [.int a0, .int a1, .int a2] [] h (fun x h2 => T (d + 1) 99 7 ls (rl x []) h2 Q) := T_staticR (as := [.int a0, .int a1, .int a2]) (r := []) m99 m118 c99_4 k7_62 (Or.inl rfl) rfl (by decide) rfl (by simp [wrd, Value.category]) (by simp [stk, Value.category]) rfl
theorem c99_7 : cod 99 7 = some (.ifCond .eq 27, 3) := cod_of b99 dX7_note_7
theorem t99_7 {d : Nat} {h : Hp} {Q : Pst} {x : Int32} {ls : List Value} {st : List Value} : T d 99 7 ls (.int x :: st) h Q ↔ (if x = 0 then T d 99 34 ls st h Q else T d 99 10 ls st h Q) := T_if_eq c99_7 (by decide)
theorem c99_10 : cod 99 10 = some (.iload_n 3, 1) := cod_of b99 dX7_note_10
theorem t99_10 {d : Nat} {h : Hp} {Q : Pst} {l0 l1 l2 l4 l5 : Value} {x : Int32} {st : List Value} : T d 99 10 [l0, l1, l2, .int x, l4, l5] st h Q ↔ T d 99 11 [l0, l1, l2, .int x, l4, l5] (.int x :: st) h Q := T_iload_n c99_10 rfl
theorem c99_11 : cod 99 11 = some (.iconst 0, 1) := cod_of b99 dX7_note_11
theorem t99_11 {d : Nat} {h : Hp} {Q : Pst} {ls : List Value} {st : List Value} : T d 99 11 ls st h Q ↔ T d 99 12 ls (.int 0 :: st) h Q := T_iconstV c99_11 (by decide)
theorem c99_12 : cod 99 12 = some (.iconst 4, 1) := cod_of b99 dX7_note_12
theorem t99_12 {d : Nat} {h : Hp} {Q : Pst} {ls : List Value} {st : List Value} : T d 99 12 ls st h Q ↔ T d 99 13 ls (.int 4 :: st) h Q := T_iconstV c99_12 (by decide)
theorem c99_13 : cod 99 13 = some (.invokestatic 62, 3) := cod_of b99 dX7_note_13
theorem t99_13 {d : Nat} {h : Hp} {Q : Pst} {a0 a1 a2 : Int32} {ls : List Value} : T (d + 1) 99 13 ls [.int a2, .int a1, .int a0] h Q ↔ T d 118 0 [.int a0, .int a1, .int a2] [] h (fun x h2 => T (d + 1) 99 16 ls (rl x []) h2 Q) := T_staticR (as := [.int a0, .int a1, .int a2]) (r := []) m99 m118 c99_13 k7_62 (Or.inl rfl) rfl (by decide) rfl (by simp [wrd, Value.category]) (by simp [stk, Value.category]) rfl
theorem c99_16 : cod 99 16 = some (.ifCond .eq 18, 3) := cod_of b99 dX7_note_16
theorem t99_16 {d : Nat} {h : Hp} {Q : Pst} {x : Int32} {ls : List Value} {st : List Value} : T d 99 16 ls (.int x :: st) h Q ↔ (if x = 0 then T d 99 34 ls st h Q else T d 99 19 ls st h Q) := T_if_eq c99_16 (by decide)
theorem c99_19 : cod 99 19 = some (.iload 4, 2) := cod_of b99 dX7_note_19
theorem t99_19 {d : Nat} {h : Hp} {Q : Pst} {l0 l1 l2 l3 l5 : Value} {x : Int32} {st : List Value} : T d 99 19 [l0, l1, l2, l3, .int x, l5] st h Q ↔ T d 99 21 [l0, l1, l2, l3, .int x, l5] (.int x :: st) h Q := T_iload c99_19 rfl
theorem c99_21 : cod 99 21 = some (.iconst 0, 1) := cod_of b99 dX7_note_21
theorem t99_21 {d : Nat} {h : Hp} {Q : Pst} {ls : List Value} {st : List Value} : T d 99 21 ls st h Q ↔ T d 99 22 ls (.int 0 :: st) h Q := T_iconstV c99_21 (by decide)
theorem c99_22 : cod 99 22 = some (.bipush 60, 2) := cod_of b99 dX7_note_22
theorem t99_22 {d : Nat} {h : Hp} {Q : Pst} {ls : List Value} {st : List Value} : T d 99 22 ls st h Q ↔ T d 99 24 ls (.int 60 :: st) h Q := T_bipushV c99_22 (by decide)
theorem c99_24 : cod 99 24 = some (.invokestatic 62, 3) := cod_of b99 dX7_note_24
theorem t99_24 {d : Nat} {h : Hp} {Q : Pst} {a0 a1 a2 : Int32} {ls : List Value} : T (d + 1) 99 24 ls [.int a2, .int a1, .int a0] h Q ↔ T d 118 0 [.int a0, .int a1, .int a2] [] h (fun x h2 => T (d + 1) 99 27 ls (rl x []) h2 Q) := T_staticR (as := [.int a0, .int a1, .int a2]) (r := []) m99 m118 c99_24 k7_62 (Or.inl rfl) rfl (by decide) rfl (by simp [wrd, Value.category]) (by simp [stk, Value.category]) rfl
theorem c99_27 : cod 99 27 = some (.ifCond .eq 7, 3) := cod_of b99 dX7_note_27
theorem t99_27 {d : Nat} {h : Hp} {Q : Pst} {x : Int32} {ls : List Value} {st : List Value} : T d 99 27 ls (.int x :: st) h Q ↔ (if x = 0 then T d 99 34 ls st h Q else T d 99 30 ls st h Q) := T_if_eq c99_27 (by decide)
theorem c99_30 : cod 99 30 = some (.iconst 1, 1) := cod_of b99 dX7_note_30
theorem t99_30 {d : Nat} {h : Hp} {Q : Pst} {ls : List Value} {st : List Value} : T d 99 30 ls st h Q ↔ T d 99 31 ls (.int 1 :: st) h Q := T_iconstV c99_30 (by decide)
theorem c99_31 : cod 99 31 = some (.goto 4, 3) := cod_of b99 dX7_note_31
theorem t99_31 {d : Nat} {h : Hp} {Q : Pst} {ls : List Value} {st : List Value} : T d 99 31 ls st h Q ↔ T d 99 35 ls st h Q := T_goto c99_31 (by decide)
theorem c99_35 : cod 99 35 = some (.istore 5, 2) := cod_of b99 dX7_note_35
theorem t99_35 {d : Nat} {h : Hp} {Q : Pst} {l0 l1 l2 l3 l4 l5 : Value} {x : Int32} {st : List Value} : T d 99 35 [l0, l1, l2, l3, l4, l5] (.int x :: st) h Q ↔ T d 99 37 [l0, l1, l2, l3, kil l4, .int x] st h Q := T_istore c99_35 (Nat.le_of_ble_eq_true rfl)
theorem c99_37 : cod 99 37 = some (.aload_n 0, 1) := cod_of b99 dX7_note_37
theorem t99_37 {d : Nat} {h : Hp} {Q : Pst} {l1 l2 l3 l4 l5 : Value} {x : Nat} {st : List Value} : T d 99 37 [.ref x, l1, l2, l3, l4, l5] st h Q ↔ T d 99 38 [.ref x, l1, l2, l3, l4, l5] (.ref x :: st) h Q := T_aload_n c99_37 rfl
theorem c99_38 : cod 99 38 = some (.getfield 10, 3) := cod_of b99 dX7_note_38
theorem t99_38 {d : Nat} {h : Hp} {Q : Pst} {a : Nat} {ls : List Value} {st : List Value} : T d 99 38 ls (.ref a :: st) h Q ↔ gF (h.2.2 a) 6 0 (fun v => T d 99 41 ls (v :: st) h Q) := T_getfieldR m99 c99_38 f7_10
theorem c99_41 : cod 99 41 = some (.iload_n 1, 1) := cod_of b99 dX7_note_41
theorem t99_41 {d : Nat} {h : Hp} {Q : Pst} {l0 l2 l3 l4 l5 : Value} {x : Int32} {st : List Value} : T d 99 41 [l0, .int x, l2, l3, l4, l5] st h Q ↔ T d 99 42 [l0, .int x, l2, l3, l4, l5] (.int x :: st) h Q := T_iload_n c99_41 rfl
theorem c99_42 : cod 99 42 = some (.invokevirtual 116, 3) := cod_of b99 dX7_note_42
theorem t99_42 {d : Nat} {h : Hp} {Q : Pst} {a0 : Int32} {a : Nat} {ls : List Value} (ho : isO (h.2.2 a) 5) : T (d + 1) 99 42 ls [.int a0, .ref a] h Q ↔ T d 55 0 [.ref a, .int a0] [] h (fun x h2 => T (d + 1) 99 45 ls (rl x []) h2 Q) := T_virtualR (as := [.int a0]) (r := []) m99 m55 c99_42 k7_116  rfl (by decide) rfl (by simp [wrd, Value.category]) (by simp [stk, Value.category]) rfl (by decide +kernel) ho
theorem c99_45 : cod 99 45 = some (.ifCond .eq 8, 3) := cod_of b99 dX7_note_45
theorem t99_45 {d : Nat} {h : Hp} {Q : Pst} {x : Int32} {ls : List Value} {st : List Value} : T d 99 45 ls (.int x :: st) h Q ↔ (if x = 0 then T d 99 53 ls st h Q else T d 99 48 ls st h Q) := T_if_eq c99_45 (by decide)
theorem c99_48 : cod 99 48 = some (.iload 5, 2) := cod_of b99 dX7_note_48
theorem t99_48 {d : Nat} {h : Hp} {Q : Pst} {l0 l1 l2 l3 l4 : Value} {x : Int32} {st : List Value} : T d 99 48 [l0, l1, l2, l3, l4, .int x] st h Q ↔ T d 99 50 [l0, l1, l2, l3, l4, .int x] (.int x :: st) h Q := T_iload c99_48 rfl
theorem c99_50 : cod 99 50 = some (.ifCond .ne 10, 3) := cod_of b99 dX7_note_50
theorem t99_50 {d : Nat} {h : Hp} {Q : Pst} {x : Int32} {ls : List Value} {st : List Value} : T d 99 50 ls (.int x :: st) h Q ↔ (if ¬ x = 0 then T d 99 60 ls st h Q else T d 99 53 ls st h Q) := T_if_ne c99_50 (by decide)
theorem c99_60 : cod 99 60 = some (.aload_n 0, 1) := cod_of b99 dX7_note_60
theorem t99_60 {d : Nat} {h : Hp} {Q : Pst} {l1 l2 l3 l4 l5 : Value} {x : Nat} {st : List Value} : T d 99 60 [.ref x, l1, l2, l3, l4, l5] st h Q ↔ T d 99 61 [.ref x, l1, l2, l3, l4, l5] (.ref x :: st) h Q := T_aload_n c99_60 rfl
theorem c99_61 : cod 99 61 = some (.getfield 10, 3) := cod_of b99 dX7_note_61
theorem t99_61 {d : Nat} {h : Hp} {Q : Pst} {a : Nat} {ls : List Value} {st : List Value} : T d 99 61 ls (.ref a :: st) h Q ↔ gF (h.2.2 a) 6 0 (fun v => T d 99 64 ls (v :: st) h Q) := T_getfieldR m99 c99_61 f7_10
theorem c99_64 : cod 99 64 = some (.getfield 245, 3) := cod_of b99 dX7_note_64
theorem t99_64 {d : Nat} {h : Hp} {Q : Pst} {a : Nat} {ls : List Value} {st : List Value} : T d 99 64 ls (.ref a :: st) h Q ↔ gF (h.2.2 a) 5 7 (fun v => T d 99 67 ls (v :: st) h Q) := T_getfieldR m99 c99_64 f7_245
theorem c99_67 : cod 99 67 = some (.invokevirtual 221, 3) := cod_of b99 dX7_note_67
theorem t99_67 {d : Nat} {h : Hp} {Q : Pst} {a : Nat} {ls : List Value} (ho : isO (h.2.2 a) 3) : T (d + 1) 99 67 ls [.ref a] h Q ↔ T d 35 0 [.ref a] [] h (fun x h2 => T (d + 1) 99 70 ls (rl x []) h2 Q) := T_virtualR (as := []) (r := []) m99 m35 c99_67 k7_221  rfl (by decide) rfl (by simp [wrd, Value.category]) (by simp [stk, Value.category]) rfl (by decide +kernel) ho
theorem c99_70 : cod 99 70 = some (.ifCond .eq 10, 3) := cod_of b99 dX7_note_70
theorem t99_70 {d : Nat} {h : Hp} {Q : Pst} {x : Int32} {ls : List Value} {st : List Value} : T d 99 70 ls (.int x :: st) h Q ↔ (if x = 0 then T d 99 80 ls st h Q else T d 99 73 ls st h Q) := T_if_eq c99_70 (by decide)
theorem c99_73 : cod 99 73 = some (.aload_n 0, 1) := cod_of b99 dX7_note_73
theorem t99_73 {d : Nat} {h : Hp} {Q : Pst} {l1 l2 l3 l4 l5 : Value} {x : Nat} {st : List Value} : T d 99 73 [.ref x, l1, l2, l3, l4, l5] st h Q ↔ T d 99 74 [.ref x, l1, l2, l3, l4, l5] (.ref x :: st) h Q := T_aload_n c99_73 rfl
theorem c99_74 : cod 99 74 = some (.bipush (-4), 2) := cod_of b99 dX7_note_74
theorem t99_74 {d : Nat} {h : Hp} {Q : Pst} {ls : List Value} {st : List Value} : T d 99 74 ls st h Q ↔ T d 99 76 ls (.int (-4) :: st) h Q := T_bipushV c99_74 (by decide)
theorem c99_76 : cod 99 76 = some (.invokevirtual 66, 3) := cod_of b99 dX7_note_76
theorem t99_76 {d : Nat} {h : Hp} {Q : Pst} {a0 : Int32} {a : Nat} {ls : List Value} (ho : isO (h.2.2 a) 6) : T (d + 1) 99 76 ls [.int a0, .ref a] h Q ↔ T d 116 0 [.ref a, .int a0, un] [] h (fun x h2 => T (d + 1) 99 79 ls (rl x []) h2 Q) := T_virtualR (as := [.int a0]) (r := []) m99 m116 c99_76 k7_66  rfl (by decide) rfl (by simp [wrd, Value.category]) (by simp [stk, Value.category]) rfl (by decide +kernel) ho
theorem c99_79 : cod 99 79 = some (.ireturn, 1) := cod_of b99 dX7_note_79
theorem t99_79 {d : Nat} {h : Hp} {Q : Pst} {x : Int32} {ls : List Value} : T d 99 79 ls [.int x] h Q ↔ Q (some (.int x)) h := T_iretR m99 c99_79 rfl
theorem c99_80 : cod 99 80 = some (.aload_n 0, 1) := cod_of b99 dX7_note_80
theorem t99_80 {d : Nat} {h : Hp} {Q : Pst} {l1 l2 l3 l4 l5 : Value} {x : Nat} {st : List Value} : T d 99 80 [.ref x, l1, l2, l3, l4, l5] st h Q ↔ T d 99 81 [.ref x, l1, l2, l3, l4, l5] (.ref x :: st) h Q := T_aload_n c99_80 rfl
theorem c99_81 : cod 99 81 = some (.getfield 10, 3) := cod_of b99 dX7_note_81
theorem t99_81 {d : Nat} {h : Hp} {Q : Pst} {a : Nat} {ls : List Value} {st : List Value} : T d 99 81 ls (.ref a :: st) h Q ↔ gF (h.2.2 a) 6 0 (fun v => T d 99 84 ls (v :: st) h Q) := T_getfieldR m99 c99_81 f7_10
theorem c99_84 : cod 99 84 = some (.getfield 245, 3) := cod_of b99 dX7_note_84
theorem t99_84 {d : Nat} {h : Hp} {Q : Pst} {a : Nat} {ls : List Value} {st : List Value} : T d 99 84 ls (.ref a :: st) h Q ↔ gF (h.2.2 a) 5 7 (fun v => T d 99 87 ls (v :: st) h Q) := T_getfieldR m99 c99_84 f7_245
theorem c99_87 : cod 99 87 = some (.invokevirtual 225, 3) := cod_of b99 dX7_note_87
theorem t99_87 {d : Nat} {h : Hp} {Q : Pst} {a : Nat} {ls : List Value} (ho : isO (h.2.2 a) 3) : T (d + 1) 99 87 ls [.ref a] h Q ↔ T d 36 0 [.ref a] [] h (fun x h2 => T (d + 1) 99 90 ls (rl x []) h2 Q) := T_virtualR (as := []) (r := []) m99 m36 c99_87 k7_225  rfl (by decide) rfl (by simp [wrd, Value.category]) (by simp [stk, Value.category]) rfl (by decide +kernel) ho
theorem c99_90 : cod 99 90 = some (.aload_n 0, 1) := cod_of b99 dX7_note_90
theorem t99_90 {d : Nat} {h : Hp} {Q : Pst} {l1 l2 l3 l4 l5 : Value} {x : Nat} {st : List Value} : T d 99 90 [.ref x, l1, l2, l3, l4, l5] st h Q ↔ T d 99 91 [.ref x, l1, l2, l3, l4, l5] (.ref x :: st) h Q := T_aload_n c99_90 rfl
theorem c99_91 : cod 99 91 = some (.getfield 10, 3) := cod_of b99 dX7_note_91
theorem t99_91 {d : Nat} {h : Hp} {Q : Pst} {a : Nat} {ls : List Value} {st : List Value} : T d 99 91 ls (.ref a :: st) h Q ↔ gF (h.2.2 a) 6 0 (fun v => T d 99 94 ls (v :: st) h Q) := T_getfieldR m99 c99_91 f7_10
theorem c99_94 : cod 99 94 = some (.getfield 245, 3) := cod_of b99 dX7_note_94
theorem t99_94 {d : Nat} {h : Hp} {Q : Pst} {a : Nat} {ls : List Value} {st : List Value} : T d 99 94 ls (.ref a :: st) h Q ↔ gF (h.2.2 a) 5 7 (fun v => T d 99 97 ls (v :: st) h Q) := T_getfieldR m99 c99_94 f7_245
theorem c99_97 : cod 99 97 = some (.iload_n 1, 1) := cod_of b99 dX7_note_97
theorem t99_97 {d : Nat} {h : Hp} {Q : Pst} {l0 l2 l3 l4 l5 : Value} {x : Int32} {st : List Value} : T d 99 97 [l0, .int x, l2, l3, l4, l5] st h Q ↔ T d 99 98 [l0, .int x, l2, l3, l4, l5] (.int x :: st) h Q := T_iload_n c99_97 rfl
theorem c99_98 : cod 99 98 = some (.iload_n 2, 1) := cod_of b99 dX7_note_98
theorem t99_98 {d : Nat} {h : Hp} {Q : Pst} {l0 l1 l3 l4 l5 : Value} {x : Int32} {st : List Value} : T d 99 98 [l0, l1, .int x, l3, l4, l5] st h Q ↔ T d 99 99 [l0, l1, .int x, l3, l4, l5] (.int x :: st) h Q := T_iload_n c99_98 rfl
theorem c99_99 : cod 99 99 = some (.iload_n 3, 1) := cod_of b99 dX7_note_99
theorem t99_99 {d : Nat} {h : Hp} {Q : Pst} {l0 l1 l2 l4 l5 : Value} {x : Int32} {st : List Value} : T d 99 99 [l0, l1, l2, .int x, l4, l5] st h Q ↔ T d 99 100 [l0, l1, l2, .int x, l4, l5] (.int x :: st) h Q := T_iload_n c99_99 rfl
theorem c99_100 : cod 99 100 = some (.iload 4, 2) := cod_of b99 dX7_note_100
theorem t99_100 {d : Nat} {h : Hp} {Q : Pst} {l0 l1 l2 l3 l5 : Value} {x : Int32} {st : List Value} : T d 99 100 [l0, l1, l2, l3, .int x, l5] st h Q ↔ T d 99 102 [l0, l1, l2, l3, .int x, l5] (.int x :: st) h Q := T_iload c99_100 rfl
theorem c99_102 : cod 99 102 = some (.invokevirtual 228, 3) := cod_of b99 dX7_note_102
theorem t99_102 {d : Nat} {h : Hp} {Q : Pst} {a0 a1 a2 a3 : Int32} {a : Nat} {ls : List Value} (ho : isO (h.2.2 a) 3) : T (d + 1) 99 102 ls [.int a3, .int a2, .int a1, .int a0, .ref a] h Q ↔ T d 38 0 [.ref a, .int a0, .int a1, .int a2, .int a3] [] h (fun x h2 => T (d + 1) 99 105 ls (rl x []) h2 Q) := T_virtualR (as := [.int a0, .int a1, .int a2, .int a3]) (r := []) m99 m38 c99_102 k7_228  rfl (by decide) rfl (by simp [wrd, Value.category]) (by simp [stk, Value.category]) rfl (by decide +kernel) ho
theorem c99_105 : cod 99 105 = some (.aload_n 0, 1) := cod_of b99 dX7_note_105
theorem t99_105 {d : Nat} {h : Hp} {Q : Pst} {l1 l2 l3 l4 l5 : Value} {x : Nat} {st : List Value} : T d 99 105 [.ref x, l1, l2, l3, l4, l5] st h Q ↔ T d 99 106 [.ref x, l1, l2, l3, l4, l5] (.ref x :: st) h Q := T_aload_n c99_105 rfl
theorem c99_106 : cod 99 106 = some (.getfield 10, 3) := cod_of b99 dX7_note_106
theorem t99_106 {d : Nat} {h : Hp} {Q : Pst} {a : Nat} {ls : List Value} {st : List Value} : T d 99 106 ls (.ref a :: st) h Q ↔ gF (h.2.2 a) 6 0 (fun v => T d 99 109 ls (v :: st) h Q) := T_getfieldR m99 c99_106 f7_10
theorem c99_109 : cod 99 109 = some (.getfield 245, 3) := cod_of b99 dX7_note_109
theorem t99_109 {d : Nat} {h : Hp} {Q : Pst} {a : Nat} {ls : List Value} {st : List Value} : T d 99 109 ls (.ref a :: st) h Q ↔ gF (h.2.2 a) 5 7 (fun v => T d 99 112 ls (v :: st) h Q) := T_getfieldR m99 c99_109 f7_245
theorem c99_112 : cod 99 112 = some (.getfield 154, 3) := cod_of b99 dX7_note_112
theorem t99_112 {d : Nat} {h : Hp} {Q : Pst} {a : Nat} {ls : List Value} {st : List Value} : T d 99 112 ls (.ref a :: st) h Q ↔ gF (h.2.2 a) 3 3 (fun v => T d 99 115 ls (v :: st) h Q) := T_getfieldR m99 c99_112 f7_154
theorem c99_115 : cod 99 115 = some (.ireturn, 1) := cod_of b99 dX7_note_115
theorem t99_115 {d : Nat} {h : Hp} {Q : Pst} {x : Int32} {ls : List Value} : T d 99 115 ls [.int x] h Q ↔ Q (some (.int x)) h := T_iretR m99 c99_115 rfl
theorem c99_53 : cod 99 53 = some (.aload_n 0, 1) := cod_of b99 dX7_note_53
theorem t99_53 {d : Nat} {h : Hp} {Q : Pst} {l1 l2 l3 l4 l5 : Value} {x : Nat} {st : List Value} : T d 99 53 [.ref x, l1, l2, l3, l4, l5] st h Q ↔ T d 99 54 [.ref x, l1, l2, l3, l4, l5] (.ref x :: st) h Q := T_aload_n c99_53 rfl
theorem c99_54 : cod 99 54 = some (.bipush (-2), 2) := cod_of b99 dX7_note_54
theorem t99_54 {d : Nat} {h : Hp} {Q : Pst} {ls : List Value} {st : List Value} : T d 99 54 ls st h Q ↔ T d 99 56 ls (.int (-2) :: st) h Q := T_bipushV c99_54 (by decide)
theorem c99_56 : cod 99 56 = some (.invokevirtual 66, 3) := cod_of b99 dX7_note_56
theorem t99_56 {d : Nat} {h : Hp} {Q : Pst} {a0 : Int32} {a : Nat} {ls : List Value} (ho : isO (h.2.2 a) 6) : T (d + 1) 99 56 ls [.int a0, .ref a] h Q ↔ T d 116 0 [.ref a, .int a0, un] [] h (fun x h2 => T (d + 1) 99 59 ls (rl x []) h2 Q) := T_virtualR (as := [.int a0]) (r := []) m99 m116 c99_56 k7_66  rfl (by decide) rfl (by simp [wrd, Value.category]) (by simp [stk, Value.category]) rfl (by decide +kernel) ho
theorem c99_59 : cod 99 59 = some (.ireturn, 1) := cod_of b99 dX7_note_59
theorem t99_59 {d : Nat} {h : Hp} {Q : Pst} {x : Int32} {ls : List Value} : T d 99 59 ls [.int x] h Q ↔ Q (some (.int x)) h := T_iretR m99 c99_59 rfl
theorem c99_34 : cod 99 34 = some (.iconst 0, 1) := cod_of b99 dX7_note_34
theorem t99_34 {d : Nat} {h : Hp} {Q : Pst} {ls : List Value} {st : List Value} : T d 99 34 ls st h Q ↔ T d 99 35 ls (.int 0 :: st) h Q := T_iconstV c99_34 (by decide)
theorem b100 : (mR 100).2.2.1 = cX7_mark := by rw [m100]
theorem c100_0 : cod 100 0 = some (.iload_n 2, 1) := cod_of b100 dX7_mark_0
theorem t100_0 {d : Nat} {h : Hp} {Q : Pst} {l0 l1 l3 l4 l5 l6 : Value} {x : Int32} {st : List Value} : T d 100 0 [l0, l1, .int x, l3, l4, l5, l6] st h Q ↔ T d 100 1 [l0, l1, .int x, l3, l4, l5, l6] (.int x :: st) h Q := T_iload_n c100_0 rfl
theorem c100_1 : cod 100 1 = some (.iconst 1, 1) := cod_of b100 dX7_mark_1
theorem t100_1 {d : Nat} {h : Hp} {Q : Pst} {ls : List Value} {st : List Value} : T d 100 1 ls st h Q ↔ T d 100 2 ls (.int 1 :: st) h Q := T_iconstV c100_1 (by decide)
theorem c100_2 : cod 100 2 = some (.bipush 30, 2) := cod_of b100 dX7_mark_2
theorem t100_2 {d : Nat} {h : Hp} {Q : Pst} {ls : List Value} {st : List Value} : T d 100 2 ls st h Q ↔ T d 100 4 ls (.int 30 :: st) h Q := T_bipushV c100_2 (by decide)
theorem c100_4 : cod 100 4 = some (.invokestatic 62, 3) := cod_of b100 dX7_mark_4
theorem t100_4 {d : Nat} {h : Hp} {Q : Pst} {a0 a1 a2 : Int32} {ls : List Value} : T (d + 1) 100 4 ls [.int a2, .int a1, .int a0] h Q ↔ T d 118 0 [.int a0, .int a1, .int a2] [] h (fun x h2 => T (d + 1) 100 7 ls (rl x []) h2 Q) := T_staticR (as := [.int a0, .int a1, .int a2]) (r := []) m100 m118 c100_4 k7_62 (Or.inl rfl) rfl (by decide) rfl (by simp [wrd, Value.category]) (by simp [stk, Value.category]) rfl
theorem c100_7 : cod 100 7 = some (.ifCond .eq 27, 3) := cod_of b100 dX7_mark_7
theorem t100_7 {d : Nat} {h : Hp} {Q : Pst} {x : Int32} {ls : List Value} {st : List Value} : T d 100 7 ls (.int x :: st) h Q ↔ (if x = 0 then T d 100 34 ls st h Q else T d 100 10 ls st h Q) := T_if_eq c100_7 (by decide)
theorem c100_10 : cod 100 10 = some (.iload_n 3, 1) := cod_of b100 dX7_mark_10
theorem t100_10 {d : Nat} {h : Hp} {Q : Pst} {l0 l1 l2 l4 l5 l6 : Value} {x : Int32} {st : List Value} : T d 100 10 [l0, l1, l2, .int x, l4, l5, l6] st h Q ↔ T d 100 11 [l0, l1, l2, .int x, l4, l5, l6] (.int x :: st) h Q := T_iload_n c100_10 rfl
theorem c100_11 : cod 100 11 = some (.iconst 0, 1) := cod_of b100 dX7_mark_11
theorem t100_11 {d : Nat} {h : Hp} {Q : Pst} {ls : List Value} {st : List Value} : T d 100 11 ls st h Q ↔ T d 100 12 ls (.int 0 :: st) h Q := T_iconstV c100_11 (by decide)
theorem c100_12 : cod 100 12 = some (.iconst 4, 1) := cod_of b100 dX7_mark_12
theorem t100_12 {d : Nat} {h : Hp} {Q : Pst} {ls : List Value} {st : List Value} : T d 100 12 ls st h Q ↔ T d 100 13 ls (.int 4 :: st) h Q := T_iconstV c100_12 (by decide)
theorem c100_13 : cod 100 13 = some (.invokestatic 62, 3) := cod_of b100 dX7_mark_13
theorem t100_13 {d : Nat} {h : Hp} {Q : Pst} {a0 a1 a2 : Int32} {ls : List Value} : T (d + 1) 100 13 ls [.int a2, .int a1, .int a0] h Q ↔ T d 118 0 [.int a0, .int a1, .int a2] [] h (fun x h2 => T (d + 1) 100 16 ls (rl x []) h2 Q) := T_staticR (as := [.int a0, .int a1, .int a2]) (r := []) m100 m118 c100_13 k7_62 (Or.inl rfl) rfl (by decide) rfl (by simp [wrd, Value.category]) (by simp [stk, Value.category]) rfl
theorem c100_16 : cod 100 16 = some (.ifCond .eq 18, 3) := cod_of b100 dX7_mark_16
theorem t100_16 {d : Nat} {h : Hp} {Q : Pst} {x : Int32} {ls : List Value} {st : List Value} : T d 100 16 ls (.int x :: st) h Q ↔ (if x = 0 then T d 100 34 ls st h Q else T d 100 19 ls st h Q) := T_if_eq c100_16 (by decide)
theorem c100_19 : cod 100 19 = some (.iload 4, 2) := cod_of b100 dX7_mark_19
theorem t100_19 {d : Nat} {h : Hp} {Q : Pst} {l0 l1 l2 l3 l5 l6 : Value} {x : Int32} {st : List Value} : T d 100 19 [l0, l1, l2, l3, .int x, l5, l6] st h Q ↔ T d 100 21 [l0, l1, l2, l3, .int x, l5, l6] (.int x :: st) h Q := T_iload c100_19 rfl
theorem c100_21 : cod 100 21 = some (.iconst 0, 1) := cod_of b100 dX7_mark_21
theorem t100_21 {d : Nat} {h : Hp} {Q : Pst} {ls : List Value} {st : List Value} : T d 100 21 ls st h Q ↔ T d 100 22 ls (.int 0 :: st) h Q := T_iconstV c100_21 (by decide)
theorem c100_22 : cod 100 22 = some (.bipush 60, 2) := cod_of b100 dX7_mark_22
theorem t100_22 {d : Nat} {h : Hp} {Q : Pst} {ls : List Value} {st : List Value} : T d 100 22 ls st h Q ↔ T d 100 24 ls (.int 60 :: st) h Q := T_bipushV c100_22 (by decide)
theorem c100_24 : cod 100 24 = some (.invokestatic 62, 3) := cod_of b100 dX7_mark_24
theorem t100_24 {d : Nat} {h : Hp} {Q : Pst} {a0 a1 a2 : Int32} {ls : List Value} : T (d + 1) 100 24 ls [.int a2, .int a1, .int a0] h Q ↔ T d 118 0 [.int a0, .int a1, .int a2] [] h (fun x h2 => T (d + 1) 100 27 ls (rl x []) h2 Q) := T_staticR (as := [.int a0, .int a1, .int a2]) (r := []) m100 m118 c100_24 k7_62 (Or.inl rfl) rfl (by decide) rfl (by simp [wrd, Value.category]) (by simp [stk, Value.category]) rfl
theorem c100_27 : cod 100 27 = some (.ifCond .eq 7, 3) := cod_of b100 dX7_mark_27
theorem t100_27 {d : Nat} {h : Hp} {Q : Pst} {x : Int32} {ls : List Value} {st : List Value} : T d 100 27 ls (.int x :: st) h Q ↔ (if x = 0 then T d 100 34 ls st h Q else T d 100 30 ls st h Q) := T_if_eq c100_27 (by decide)
theorem c100_30 : cod 100 30 = some (.iconst 1, 1) := cod_of b100 dX7_mark_30
theorem t100_30 {d : Nat} {h : Hp} {Q : Pst} {ls : List Value} {st : List Value} : T d 100 30 ls st h Q ↔ T d 100 31 ls (.int 1 :: st) h Q := T_iconstV c100_30 (by decide)
theorem c100_31 : cod 100 31 = some (.goto 4, 3) := cod_of b100 dX7_mark_31
theorem t100_31 {d : Nat} {h : Hp} {Q : Pst} {ls : List Value} {st : List Value} : T d 100 31 ls st h Q ↔ T d 100 35 ls st h Q := T_goto c100_31 (by decide)
theorem c100_35 : cod 100 35 = some (.istore 6, 2) := cod_of b100 dX7_mark_35
theorem t100_35 {d : Nat} {h : Hp} {Q : Pst} {l0 l1 l2 l3 l4 l5 l6 : Value} {x : Int32} {st : List Value} : T d 100 35 [l0, l1, l2, l3, l4, l5, l6] (.int x :: st) h Q ↔ T d 100 37 [l0, l1, l2, l3, l4, kil l5, .int x] st h Q := T_istore c100_35 (Nat.le_of_ble_eq_true rfl)
theorem c100_37 : cod 100 37 = some (.aload_n 0, 1) := cod_of b100 dX7_mark_37
theorem t100_37 {d : Nat} {h : Hp} {Q : Pst} {l1 l2 l3 l4 l5 l6 : Value} {x : Nat} {st : List Value} : T d 100 37 [.ref x, l1, l2, l3, l4, l5, l6] st h Q ↔ T d 100 38 [.ref x, l1, l2, l3, l4, l5, l6] (.ref x :: st) h Q := T_aload_n c100_37 rfl
theorem c100_38 : cod 100 38 = some (.getfield 10, 3) := cod_of b100 dX7_mark_38
theorem t100_38 {d : Nat} {h : Hp} {Q : Pst} {a : Nat} {ls : List Value} {st : List Value} : T d 100 38 ls (.ref a :: st) h Q ↔ gF (h.2.2 a) 6 0 (fun v => T d 100 41 ls (v :: st) h Q) := T_getfieldR m100 c100_38 f7_10
theorem c100_41 : cod 100 41 = some (.iload_n 1, 1) := cod_of b100 dX7_mark_41
theorem t100_41 {d : Nat} {h : Hp} {Q : Pst} {l0 l2 l3 l4 l5 l6 : Value} {x : Int32} {st : List Value} : T d 100 41 [l0, .int x, l2, l3, l4, l5, l6] st h Q ↔ T d 100 42 [l0, .int x, l2, l3, l4, l5, l6] (.int x :: st) h Q := T_iload_n c100_41 rfl
theorem c100_42 : cod 100 42 = some (.invokevirtual 120, 3) := cod_of b100 dX7_mark_42
theorem t100_42 {d : Nat} {h : Hp} {Q : Pst} {a0 : Int32} {a : Nat} {ls : List Value} (ho : isO (h.2.2 a) 5) : T (d + 1) 100 42 ls [.int a0, .ref a] h Q ↔ T d 56 0 [.ref a, .int a0] [] h (fun x h2 => T (d + 1) 100 45 ls (rl x []) h2 Q) := T_virtualR (as := [.int a0]) (r := []) m100 m56 c100_42 k7_120  rfl (by decide) rfl (by simp [wrd, Value.category]) (by simp [stk, Value.category]) rfl (by decide +kernel) ho
theorem c100_45 : cod 100 45 = some (.ifCond .eq 18, 3) := cod_of b100 dX7_mark_45
theorem t100_45 {d : Nat} {h : Hp} {Q : Pst} {x : Int32} {ls : List Value} {st : List Value} : T d 100 45 ls (.int x :: st) h Q ↔ (if x = 0 then T d 100 63 ls st h Q else T d 100 48 ls st h Q) := T_if_eq c100_45 (by decide)
theorem c100_48 : cod 100 48 = some (.iload 6, 2) := cod_of b100 dX7_mark_48
theorem t100_48 {d : Nat} {h : Hp} {Q : Pst} {l0 l1 l2 l3 l4 l5 : Value} {x : Int32} {st : List Value} : T d 100 48 [l0, l1, l2, l3, l4, l5, .int x] st h Q ↔ T d 100 50 [l0, l1, l2, l3, l4, l5, .int x] (.int x :: st) h Q := T_iload c100_48 rfl
theorem c100_50 : cod 100 50 = some (.ifCond .eq 13, 3) := cod_of b100 dX7_mark_50
theorem t100_50 {d : Nat} {h : Hp} {Q : Pst} {x : Int32} {ls : List Value} {st : List Value} : T d 100 50 ls (.int x :: st) h Q ↔ (if x = 0 then T d 100 63 ls st h Q else T d 100 53 ls st h Q) := T_if_eq c100_50 (by decide)
theorem c100_53 : cod 100 53 = some (.iload 5, 2) := cod_of b100 dX7_mark_53
theorem t100_53 {d : Nat} {h : Hp} {Q : Pst} {l0 l1 l2 l3 l4 l6 : Value} {x : Int32} {st : List Value} : T d 100 53 [l0, l1, l2, l3, l4, .int x, l6] st h Q ↔ T d 100 55 [l0, l1, l2, l3, l4, .int x, l6] (.int x :: st) h Q := T_iload c100_53 rfl
theorem c100_55 : cod 100 55 = some (.iconst 0, 1) := cod_of b100 dX7_mark_55
theorem t100_55 {d : Nat} {h : Hp} {Q : Pst} {ls : List Value} {st : List Value} : T d 100 55 ls st h Q ↔ T d 100 56 ls (.int 0 :: st) h Q := T_iconstV c100_55 (by decide)
theorem c100_56 : cod 100 56 = some (.iconst 1, 1) := cod_of b100 dX7_mark_56
theorem t100_56 {d : Nat} {h : Hp} {Q : Pst} {ls : List Value} {st : List Value} : T d 100 56 ls st h Q ↔ T d 100 57 ls (.int 1 :: st) h Q := T_iconstV c100_56 (by decide)
theorem c100_57 : cod 100 57 = some (.invokestatic 62, 3) := cod_of b100 dX7_mark_57
theorem t100_57 {d : Nat} {h : Hp} {Q : Pst} {a0 a1 a2 : Int32} {ls : List Value} : T (d + 1) 100 57 ls [.int a2, .int a1, .int a0] h Q ↔ T d 118 0 [.int a0, .int a1, .int a2] [] h (fun x h2 => T (d + 1) 100 60 ls (rl x []) h2 Q) := T_staticR (as := [.int a0, .int a1, .int a2]) (r := []) m100 m118 c100_57 k7_62 (Or.inl rfl) rfl (by decide) rfl (by simp [wrd, Value.category]) (by simp [stk, Value.category]) rfl
theorem c100_60 : cod 100 60 = some (.ifCond .ne 10, 3) := cod_of b100 dX7_mark_60
theorem t100_60 {d : Nat} {h : Hp} {Q : Pst} {x : Int32} {ls : List Value} {st : List Value} : T d 100 60 ls (.int x :: st) h Q ↔ (if ¬ x = 0 then T d 100 70 ls st h Q else T d 100 63 ls st h Q) := T_if_ne c100_60 (by decide)
theorem c100_70 : cod 100 70 = some (.aload_n 0, 1) := cod_of b100 dX7_mark_70
theorem t100_70 {d : Nat} {h : Hp} {Q : Pst} {l1 l2 l3 l4 l5 l6 : Value} {x : Nat} {st : List Value} : T d 100 70 [.ref x, l1, l2, l3, l4, l5, l6] st h Q ↔ T d 100 71 [.ref x, l1, l2, l3, l4, l5, l6] (.ref x :: st) h Q := T_aload_n c100_70 rfl
theorem c100_71 : cod 100 71 = some (.getfield 10, 3) := cod_of b100 dX7_mark_71
theorem t100_71 {d : Nat} {h : Hp} {Q : Pst} {a : Nat} {ls : List Value} {st : List Value} : T d 100 71 ls (.ref a :: st) h Q ↔ gF (h.2.2 a) 6 0 (fun v => T d 100 74 ls (v :: st) h Q) := T_getfieldR m100 c100_71 f7_10
theorem c100_74 : cod 100 74 = some (.getfield 248, 3) := cod_of b100 dX7_mark_74
theorem t100_74 {d : Nat} {h : Hp} {Q : Pst} {a : Nat} {ls : List Value} {st : List Value} : T d 100 74 ls (.ref a :: st) h Q ↔ gF (h.2.2 a) 5 8 (fun v => T d 100 77 ls (v :: st) h Q) := T_getfieldR m100 c100_74 f7_248
theorem c100_77 : cod 100 77 = some (.invokevirtual 221, 3) := cod_of b100 dX7_mark_77
theorem t100_77 {d : Nat} {h : Hp} {Q : Pst} {a : Nat} {ls : List Value} (ho : isO (h.2.2 a) 3) : T (d + 1) 100 77 ls [.ref a] h Q ↔ T d 35 0 [.ref a] [] h (fun x h2 => T (d + 1) 100 80 ls (rl x []) h2 Q) := T_virtualR (as := []) (r := []) m100 m35 c100_77 k7_221  rfl (by decide) rfl (by simp [wrd, Value.category]) (by simp [stk, Value.category]) rfl (by decide +kernel) ho
theorem c100_80 : cod 100 80 = some (.ifCond .eq 10, 3) := cod_of b100 dX7_mark_80
theorem t100_80 {d : Nat} {h : Hp} {Q : Pst} {x : Int32} {ls : List Value} {st : List Value} : T d 100 80 ls (.int x :: st) h Q ↔ (if x = 0 then T d 100 90 ls st h Q else T d 100 83 ls st h Q) := T_if_eq c100_80 (by decide)
theorem c100_83 : cod 100 83 = some (.aload_n 0, 1) := cod_of b100 dX7_mark_83
theorem t100_83 {d : Nat} {h : Hp} {Q : Pst} {l1 l2 l3 l4 l5 l6 : Value} {x : Nat} {st : List Value} : T d 100 83 [.ref x, l1, l2, l3, l4, l5, l6] st h Q ↔ T d 100 84 [.ref x, l1, l2, l3, l4, l5, l6] (.ref x :: st) h Q := T_aload_n c100_83 rfl
theorem c100_84 : cod 100 84 = some (.bipush (-4), 2) := cod_of b100 dX7_mark_84
theorem t100_84 {d : Nat} {h : Hp} {Q : Pst} {ls : List Value} {st : List Value} : T d 100 84 ls st h Q ↔ T d 100 86 ls (.int (-4) :: st) h Q := T_bipushV c100_84 (by decide)
theorem c100_86 : cod 100 86 = some (.invokevirtual 66, 3) := cod_of b100 dX7_mark_86
theorem t100_86 {d : Nat} {h : Hp} {Q : Pst} {a0 : Int32} {a : Nat} {ls : List Value} (ho : isO (h.2.2 a) 6) : T (d + 1) 100 86 ls [.int a0, .ref a] h Q ↔ T d 116 0 [.ref a, .int a0, un] [] h (fun x h2 => T (d + 1) 100 89 ls (rl x []) h2 Q) := T_virtualR (as := [.int a0]) (r := []) m100 m116 c100_86 k7_66  rfl (by decide) rfl (by simp [wrd, Value.category]) (by simp [stk, Value.category]) rfl (by decide +kernel) ho
theorem c100_89 : cod 100 89 = some (.ireturn, 1) := cod_of b100 dX7_mark_89
theorem t100_89 {d : Nat} {h : Hp} {Q : Pst} {x : Int32} {ls : List Value} : T d 100 89 ls [.int x] h Q ↔ Q (some (.int x)) h := T_iretR m100 c100_89 rfl
theorem c100_90 : cod 100 90 = some (.aload_n 0, 1) := cod_of b100 dX7_mark_90
theorem t100_90 {d : Nat} {h : Hp} {Q : Pst} {l1 l2 l3 l4 l5 l6 : Value} {x : Nat} {st : List Value} : T d 100 90 [.ref x, l1, l2, l3, l4, l5, l6] st h Q ↔ T d 100 91 [.ref x, l1, l2, l3, l4, l5, l6] (.ref x :: st) h Q := T_aload_n c100_90 rfl
theorem c100_91 : cod 100 91 = some (.getfield 10, 3) := cod_of b100 dX7_mark_91
theorem t100_91 {d : Nat} {h : Hp} {Q : Pst} {a : Nat} {ls : List Value} {st : List Value} : T d 100 91 ls (.ref a :: st) h Q ↔ gF (h.2.2 a) 6 0 (fun v => T d 100 94 ls (v :: st) h Q) := T_getfieldR m100 c100_91 f7_10
theorem c100_94 : cod 100 94 = some (.getfield 248, 3) := cod_of b100 dX7_mark_94
theorem t100_94 {d : Nat} {h : Hp} {Q : Pst} {a : Nat} {ls : List Value} {st : List Value} : T d 100 94 ls (.ref a :: st) h Q ↔ gF (h.2.2 a) 5 8 (fun v => T d 100 97 ls (v :: st) h Q) := T_getfieldR m100 c100_94 f7_248
theorem c100_97 : cod 100 97 = some (.invokevirtual 225, 3) := cod_of b100 dX7_mark_97
theorem t100_97 {d : Nat} {h : Hp} {Q : Pst} {a : Nat} {ls : List Value} (ho : isO (h.2.2 a) 3) : T (d + 1) 100 97 ls [.ref a] h Q ↔ T d 36 0 [.ref a] [] h (fun x h2 => T (d + 1) 100 100 ls (rl x []) h2 Q) := T_virtualR (as := []) (r := []) m100 m36 c100_97 k7_225  rfl (by decide) rfl (by simp [wrd, Value.category]) (by simp [stk, Value.category]) rfl (by decide +kernel) ho
theorem c100_100 : cod 100 100 = some (.aload_n 0, 1) := cod_of b100 dX7_mark_100
theorem t100_100 {d : Nat} {h : Hp} {Q : Pst} {l1 l2 l3 l4 l5 l6 : Value} {x : Nat} {st : List Value} : T d 100 100 [.ref x, l1, l2, l3, l4, l5, l6] st h Q ↔ T d 100 101 [.ref x, l1, l2, l3, l4, l5, l6] (.ref x :: st) h Q := T_aload_n c100_100 rfl
theorem c100_101 : cod 100 101 = some (.getfield 10, 3) := cod_of b100 dX7_mark_101
theorem t100_101 {d : Nat} {h : Hp} {Q : Pst} {a : Nat} {ls : List Value} {st : List Value} : T d 100 101 ls (.ref a :: st) h Q ↔ gF (h.2.2 a) 6 0 (fun v => T d 100 104 ls (v :: st) h Q) := T_getfieldR m100 c100_101 f7_10
theorem c100_104 : cod 100 104 = some (.getfield 248, 3) := cod_of b100 dX7_mark_104
theorem t100_104 {d : Nat} {h : Hp} {Q : Pst} {a : Nat} {ls : List Value} {st : List Value} : T d 100 104 ls (.ref a :: st) h Q ↔ gF (h.2.2 a) 5 8 (fun v => T d 100 107 ls (v :: st) h Q) := T_getfieldR m100 c100_104 f7_248
theorem c100_107 : cod 100 107 = some (.iload_n 1, 1) := cod_of b100 dX7_mark_107
theorem t100_107 {d : Nat} {h : Hp} {Q : Pst} {l0 l2 l3 l4 l5 l6 : Value} {x : Int32} {st : List Value} : T d 100 107 [l0, .int x, l2, l3, l4, l5, l6] st h Q ↔ T d 100 108 [l0, .int x, l2, l3, l4, l5, l6] (.int x :: st) h Q := T_iload_n c100_107 rfl
theorem c100_108 : cod 100 108 = some (.iload_n 2, 1) := cod_of b100 dX7_mark_108
theorem t100_108 {d : Nat} {h : Hp} {Q : Pst} {l0 l1 l3 l4 l5 l6 : Value} {x : Int32} {st : List Value} : T d 100 108 [l0, l1, .int x, l3, l4, l5, l6] st h Q ↔ T d 100 109 [l0, l1, .int x, l3, l4, l5, l6] (.int x :: st) h Q := T_iload_n c100_108 rfl
theorem c100_109 : cod 100 109 = some (.iload_n 3, 1) := cod_of b100 dX7_mark_109
theorem t100_109 {d : Nat} {h : Hp} {Q : Pst} {l0 l1 l2 l4 l5 l6 : Value} {x : Int32} {st : List Value} : T d 100 109 [l0, l1, l2, .int x, l4, l5, l6] st h Q ↔ T d 100 110 [l0, l1, l2, .int x, l4, l5, l6] (.int x :: st) h Q := T_iload_n c100_109 rfl
theorem c100_110 : cod 100 110 = some (.iload 4, 2) := cod_of b100 dX7_mark_110
theorem t100_110 {d : Nat} {h : Hp} {Q : Pst} {l0 l1 l2 l3 l5 l6 : Value} {x : Int32} {st : List Value} : T d 100 110 [l0, l1, l2, l3, .int x, l5, l6] st h Q ↔ T d 100 112 [l0, l1, l2, l3, .int x, l5, l6] (.int x :: st) h Q := T_iload c100_110 rfl
theorem c100_112 : cod 100 112 = some (.invokevirtual 228, 3) := cod_of b100 dX7_mark_112
theorem t100_112 {d : Nat} {h : Hp} {Q : Pst} {a0 a1 a2 a3 : Int32} {a : Nat} {ls : List Value} (ho : isO (h.2.2 a) 3) : T (d + 1) 100 112 ls [.int a3, .int a2, .int a1, .int a0, .ref a] h Q ↔ T d 38 0 [.ref a, .int a0, .int a1, .int a2, .int a3] [] h (fun x h2 => T (d + 1) 100 115 ls (rl x []) h2 Q) := T_virtualR (as := [.int a0, .int a1, .int a2, .int a3]) (r := []) m100 m38 c100_112 k7_228  rfl (by decide) rfl (by simp [wrd, Value.category]) (by simp [stk, Value.category]) rfl (by decide +kernel) ho
theorem c100_115 : cod 100 115 = some (.aload_n 0, 1) := cod_of b100 dX7_mark_115
theorem t100_115 {d : Nat} {h : Hp} {Q : Pst} {l1 l2 l3 l4 l5 l6 : Value} {x : Nat} {st : List Value} : T d 100 115 [.ref x, l1, l2, l3, l4, l5, l6] st h Q ↔ T d 100 116 [.ref x, l1, l2, l3, l4, l5, l6] (.ref x :: st) h Q := T_aload_n c100_115 rfl
theorem c100_116 : cod 100 116 = some (.getfield 10, 3) := cod_of b100 dX7_mark_116
theorem t100_116 {d : Nat} {h : Hp} {Q : Pst} {a : Nat} {ls : List Value} {st : List Value} : T d 100 116 ls (.ref a :: st) h Q ↔ gF (h.2.2 a) 6 0 (fun v => T d 100 119 ls (v :: st) h Q) := T_getfieldR m100 c100_116 f7_10
theorem c100_119 : cod 100 119 = some (.getfield 248, 3) := cod_of b100 dX7_mark_119
theorem t100_119 {d : Nat} {h : Hp} {Q : Pst} {a : Nat} {ls : List Value} {st : List Value} : T d 100 119 ls (.ref a :: st) h Q ↔ gF (h.2.2 a) 5 8 (fun v => T d 100 122 ls (v :: st) h Q) := T_getfieldR m100 c100_119 f7_248
theorem c100_122 : cod 100 122 = some (.iconst 4, 1) := cod_of b100 dX7_mark_122
theorem t100_122 {d : Nat} {h : Hp} {Q : Pst} {ls : List Value} {st : List Value} : T d 100 122 ls st h Q ↔ T d 100 123 ls (.int 4 :: st) h Q := T_iconstV c100_122 (by decide)
theorem c100_123 : cod 100 123 = some (.iload 5, 2) := cod_of b100 dX7_mark_123
theorem t100_123 {d : Nat} {h : Hp} {Q : Pst} {l0 l1 l2 l3 l4 l6 : Value} {x : Int32} {st : List Value} : T d 100 123 [l0, l1, l2, l3, l4, .int x, l6] st h Q ↔ T d 100 125 [l0, l1, l2, l3, l4, .int x, l6] (.int x :: st) h Q := T_iload c100_123 rfl
theorem c100_125 : cod 100 125 = some (.invokevirtual 251, 3) := cod_of b100 dX7_mark_125
theorem t100_125 {d : Nat} {h : Hp} {Q : Pst} {a0 a1 : Int32} {a : Nat} {ls : List Value} (ho : isO (h.2.2 a) 3) : T (d + 1) 100 125 ls [.int a1, .int a0, .ref a] h Q ↔ T d 37 0 [.ref a, .int a0, .int a1] [] h (fun x h2 => T (d + 1) 100 128 ls (rl x []) h2 Q) := T_virtualR (as := [.int a0, .int a1]) (r := []) m100 m37 c100_125 k7_251  rfl (by decide) rfl (by simp [wrd, Value.category]) (by simp [stk, Value.category]) rfl (by decide +kernel) ho
theorem c100_128 : cod 100 128 = some (.aload_n 0, 1) := cod_of b100 dX7_mark_128
theorem t100_128 {d : Nat} {h : Hp} {Q : Pst} {l1 l2 l3 l4 l5 l6 : Value} {x : Nat} {st : List Value} : T d 100 128 [.ref x, l1, l2, l3, l4, l5, l6] st h Q ↔ T d 100 129 [.ref x, l1, l2, l3, l4, l5, l6] (.ref x :: st) h Q := T_aload_n c100_128 rfl
theorem c100_129 : cod 100 129 = some (.getfield 10, 3) := cod_of b100 dX7_mark_129
theorem t100_129 {d : Nat} {h : Hp} {Q : Pst} {a : Nat} {ls : List Value} {st : List Value} : T d 100 129 ls (.ref a :: st) h Q ↔ gF (h.2.2 a) 6 0 (fun v => T d 100 132 ls (v :: st) h Q) := T_getfieldR m100 c100_129 f7_10
theorem c100_132 : cod 100 132 = some (.getfield 248, 3) := cod_of b100 dX7_mark_132
theorem t100_132 {d : Nat} {h : Hp} {Q : Pst} {a : Nat} {ls : List Value} {st : List Value} : T d 100 132 ls (.ref a :: st) h Q ↔ gF (h.2.2 a) 5 8 (fun v => T d 100 135 ls (v :: st) h Q) := T_getfieldR m100 c100_132 f7_248
theorem c100_135 : cod 100 135 = some (.getfield 154, 3) := cod_of b100 dX7_mark_135
theorem t100_135 {d : Nat} {h : Hp} {Q : Pst} {a : Nat} {ls : List Value} {st : List Value} : T d 100 135 ls (.ref a :: st) h Q ↔ gF (h.2.2 a) 3 3 (fun v => T d 100 138 ls (v :: st) h Q) := T_getfieldR m100 c100_135 f7_154
theorem c100_138 : cod 100 138 = some (.ireturn, 1) := cod_of b100 dX7_mark_138
theorem t100_138 {d : Nat} {h : Hp} {Q : Pst} {x : Int32} {ls : List Value} : T d 100 138 ls [.int x] h Q ↔ Q (some (.int x)) h := T_iretR m100 c100_138 rfl
theorem c100_63 : cod 100 63 = some (.aload_n 0, 1) := cod_of b100 dX7_mark_63
theorem t100_63 {d : Nat} {h : Hp} {Q : Pst} {l1 l2 l3 l4 l5 l6 : Value} {x : Nat} {st : List Value} : T d 100 63 [.ref x, l1, l2, l3, l4, l5, l6] st h Q ↔ T d 100 64 [.ref x, l1, l2, l3, l4, l5, l6] (.ref x :: st) h Q := T_aload_n c100_63 rfl
theorem c100_64 : cod 100 64 = some (.bipush (-2), 2) := cod_of b100 dX7_mark_64
theorem t100_64 {d : Nat} {h : Hp} {Q : Pst} {ls : List Value} {st : List Value} : T d 100 64 ls st h Q ↔ T d 100 66 ls (.int (-2) :: st) h Q := T_bipushV c100_64 (by decide)
theorem c100_66 : cod 100 66 = some (.invokevirtual 66, 3) := cod_of b100 dX7_mark_66
theorem t100_66 {d : Nat} {h : Hp} {Q : Pst} {a0 : Int32} {a : Nat} {ls : List Value} (ho : isO (h.2.2 a) 6) : T (d + 1) 100 66 ls [.int a0, .ref a] h Q ↔ T d 116 0 [.ref a, .int a0, un] [] h (fun x h2 => T (d + 1) 100 69 ls (rl x []) h2 Q) := T_virtualR (as := [.int a0]) (r := []) m100 m116 c100_66 k7_66  rfl (by decide) rfl (by simp [wrd, Value.category]) (by simp [stk, Value.category]) rfl (by decide +kernel) ho
theorem c100_69 : cod 100 69 = some (.ireturn, 1) := cod_of b100 dX7_mark_69
theorem t100_69 {d : Nat} {h : Hp} {Q : Pst} {x : Int32} {ls : List Value} : T d 100 69 ls [.int x] h Q ↔ Q (some (.int x)) h := T_iretR m100 c100_69 rfl
theorem c100_34 : cod 100 34 = some (.iconst 0, 1) := cod_of b100 dX7_mark_34
theorem t100_34 {d : Nat} {h : Hp} {Q : Pst} {ls : List Value} {st : List Value} : T d 100 34 ls st h Q ↔ T d 100 35 ls (.int 0 :: st) h Q := T_iconstV c100_34 (by decide)
theorem b101 : (mR 101).2.2.1 = cX7_forget := by rw [m101]
theorem c101_0 : cod 101 0 = some (.iload_n 1, 1) := cod_of b101 dX7_forget_0
theorem t101_0 {d : Nat} {h : Hp} {Q : Pst} {l0 : Value} {x : Int32} {st : List Value} : T d 101 0 [l0, .int x] st h Q ↔ T d 101 1 [l0, .int x] (.int x :: st) h Q := T_iload_n c101_0 rfl
theorem c101_1 : cod 101 1 = some (.iconst 0, 1) := cod_of b101 dX7_forget_1
theorem t101_1 {d : Nat} {h : Hp} {Q : Pst} {ls : List Value} {st : List Value} : T d 101 1 ls st h Q ↔ T d 101 2 ls (.int 0 :: st) h Q := T_iconstV c101_1 (by decide)
theorem c101_2 : cod 101 2 = some (.iconst 2, 1) := cod_of b101 dX7_forget_2
theorem t101_2 {d : Nat} {h : Hp} {Q : Pst} {ls : List Value} {st : List Value} : T d 101 2 ls st h Q ↔ T d 101 3 ls (.int 2 :: st) h Q := T_iconstV c101_2 (by decide)
theorem c101_3 : cod 101 3 = some (.invokestatic 62, 3) := cod_of b101 dX7_forget_3
theorem t101_3 {d : Nat} {h : Hp} {Q : Pst} {a0 a1 a2 : Int32} {ls : List Value} : T (d + 1) 101 3 ls [.int a2, .int a1, .int a0] h Q ↔ T d 118 0 [.int a0, .int a1, .int a2] [] h (fun x h2 => T (d + 1) 101 6 ls (rl x []) h2 Q) := T_staticR (as := [.int a0, .int a1, .int a2]) (r := []) m101 m118 c101_3 k7_62 (Or.inl rfl) rfl (by decide) rfl (by simp [wrd, Value.category]) (by simp [stk, Value.category]) rfl
theorem c101_6 : cod 101 6 = some (.ifCond .ne 10, 3) := cod_of b101 dX7_forget_6
theorem t101_6 {d : Nat} {h : Hp} {Q : Pst} {x : Int32} {ls : List Value} {st : List Value} : T d 101 6 ls (.int x :: st) h Q ↔ (if ¬ x = 0 then T d 101 16 ls st h Q else T d 101 9 ls st h Q) := T_if_ne c101_6 (by decide)
theorem c101_9 : cod 101 9 = some (.aload_n 0, 1) := cod_of b101 dX7_forget_9
theorem t101_9 {d : Nat} {h : Hp} {Q : Pst} {l1 : Value} {x : Nat} {st : List Value} : T d 101 9 [.ref x, l1] st h Q ↔ T d 101 10 [.ref x, l1] (.ref x :: st) h Q := T_aload_n c101_9 rfl
theorem c101_10 : cod 101 10 = some (.bipush (-2), 2) := cod_of b101 dX7_forget_10
theorem t101_10 {d : Nat} {h : Hp} {Q : Pst} {ls : List Value} {st : List Value} : T d 101 10 ls st h Q ↔ T d 101 12 ls (.int (-2) :: st) h Q := T_bipushV c101_10 (by decide)
theorem c101_12 : cod 101 12 = some (.invokevirtual 66, 3) := cod_of b101 dX7_forget_12
theorem t101_12 {d : Nat} {h : Hp} {Q : Pst} {a0 : Int32} {a : Nat} {ls : List Value} (ho : isO (h.2.2 a) 6) : T (d + 1) 101 12 ls [.int a0, .ref a] h Q ↔ T d 116 0 [.ref a, .int a0, un] [] h (fun x h2 => T (d + 1) 101 15 ls (rl x []) h2 Q) := T_virtualR (as := [.int a0]) (r := []) m101 m116 c101_12 k7_66  rfl (by decide) rfl (by simp [wrd, Value.category]) (by simp [stk, Value.category]) rfl (by decide +kernel) ho
theorem c101_15 : cod 101 15 = some (.ireturn, 1) := cod_of b101 dX7_forget_15
theorem t101_15 {d : Nat} {h : Hp} {Q : Pst} {x : Int32} {ls : List Value} : T d 101 15 ls [.int x] h Q ↔ Q (some (.int x)) h := T_iretR m101 c101_15 rfl
theorem c101_16 : cod 101 16 = some (.iload_n 1, 1) := cod_of b101 dX7_forget_16
theorem t101_16 {d : Nat} {h : Hp} {Q : Pst} {l0 : Value} {x : Int32} {st : List Value} : T d 101 16 [l0, .int x] st h Q ↔ T d 101 17 [l0, .int x] (.int x :: st) h Q := T_iload_n c101_16 rfl
theorem c101_17 : cod 101 17 = some (.lookupswitch 49 #[(0, 27), (1, 38)], 27) := cod_of b101 dX7_forget_17
theorem c101_66 : cod 101 66 = some (.aload_n 0, 1) := cod_of b101 dX7_forget_66
theorem t101_66 {d : Nat} {h : Hp} {Q : Pst} {l1 : Value} {x : Nat} {st : List Value} : T d 101 66 [.ref x, l1] st h Q ↔ T d 101 67 [.ref x, l1] (.ref x :: st) h Q := T_aload_n c101_66 rfl
theorem c101_67 : cod 101 67 = some (.getfield 10, 3) := cod_of b101 dX7_forget_67
theorem t101_67 {d : Nat} {h : Hp} {Q : Pst} {a : Nat} {ls : List Value} {st : List Value} : T d 101 67 ls (.ref a :: st) h Q ↔ gF (h.2.2 a) 6 0 (fun v => T d 101 70 ls (v :: st) h Q) := T_getfieldR m101 c101_67 f7_10
theorem c101_70 : cod 101 70 = some (.getfield 248, 3) := cod_of b101 dX7_forget_70
theorem t101_70 {d : Nat} {h : Hp} {Q : Pst} {a : Nat} {ls : List Value} {st : List Value} : T d 101 70 ls (.ref a :: st) h Q ↔ gF (h.2.2 a) 5 8 (fun v => T d 101 73 ls (v :: st) h Q) := T_getfieldR m101 c101_70 f7_248
theorem c101_73 : cod 101 73 = some (.invokevirtual 255, 3) := cod_of b101 dX7_forget_73
theorem t101_73 {d : Nat} {h : Hp} {Q : Pst} {a : Nat} {ls : List Value} (ho : isO (h.2.2 a) 3) : T (d + 1) 101 73 ls [.ref a] h Q ↔ T d 42 0 [.ref a, un] [] h (fun x h2 => T (d + 1) 101 76 ls (rl x []) h2 Q) := T_virtualR (as := []) (r := []) m101 m42 c101_73 k7_255  rfl (by decide) rfl (by simp [wrd, Value.category]) (by simp [stk, Value.category]) rfl (by decide +kernel) ho
theorem c101_76 : cod 101 76 = some (.ireturn, 1) := cod_of b101 dX7_forget_76
theorem t101_76 {d : Nat} {h : Hp} {Q : Pst} {x : Int32} {ls : List Value} : T d 101 76 ls [.int x] h Q ↔ Q (some (.int x)) h := T_iretR m101 c101_76 rfl
theorem c101_55 : cod 101 55 = some (.aload_n 0, 1) := cod_of b101 dX7_forget_55
theorem t101_55 {d : Nat} {h : Hp} {Q : Pst} {l1 : Value} {x : Nat} {st : List Value} : T d 101 55 [.ref x, l1] st h Q ↔ T d 101 56 [.ref x, l1] (.ref x :: st) h Q := T_aload_n c101_55 rfl
theorem c101_56 : cod 101 56 = some (.getfield 10, 3) := cod_of b101 dX7_forget_56
theorem t101_56 {d : Nat} {h : Hp} {Q : Pst} {a : Nat} {ls : List Value} {st : List Value} : T d 101 56 ls (.ref a :: st) h Q ↔ gF (h.2.2 a) 6 0 (fun v => T d 101 59 ls (v :: st) h Q) := T_getfieldR m101 c101_56 f7_10
theorem c101_59 : cod 101 59 = some (.getfield 245, 3) := cod_of b101 dX7_forget_59
theorem t101_59 {d : Nat} {h : Hp} {Q : Pst} {a : Nat} {ls : List Value} {st : List Value} : T d 101 59 ls (.ref a :: st) h Q ↔ gF (h.2.2 a) 5 7 (fun v => T d 101 62 ls (v :: st) h Q) := T_getfieldR m101 c101_59 f7_245
theorem c101_62 : cod 101 62 = some (.invokevirtual 255, 3) := cod_of b101 dX7_forget_62
theorem t101_62 {d : Nat} {h : Hp} {Q : Pst} {a : Nat} {ls : List Value} (ho : isO (h.2.2 a) 3) : T (d + 1) 101 62 ls [.ref a] h Q ↔ T d 42 0 [.ref a, un] [] h (fun x h2 => T (d + 1) 101 65 ls (rl x []) h2 Q) := T_virtualR (as := []) (r := []) m101 m42 c101_62 k7_255  rfl (by decide) rfl (by simp [wrd, Value.category]) (by simp [stk, Value.category]) rfl (by decide +kernel) ho
theorem c101_65 : cod 101 65 = some (.ireturn, 1) := cod_of b101 dX7_forget_65
theorem t101_65 {d : Nat} {h : Hp} {Q : Pst} {x : Int32} {ls : List Value} : T d 101 65 ls [.int x] h Q ↔ Q (some (.int x)) h := T_iretR m101 c101_65 rfl
theorem c101_44 : cod 101 44 = some (.aload_n 0, 1) := cod_of b101 dX7_forget_44
theorem t101_44 {d : Nat} {h : Hp} {Q : Pst} {l1 : Value} {x : Nat} {st : List Value} : T d 101 44 [.ref x, l1] st h Q ↔ T d 101 45 [.ref x, l1] (.ref x :: st) h Q := T_aload_n c101_44 rfl
theorem c101_45 : cod 101 45 = some (.getfield 10, 3) := cod_of b101 dX7_forget_45
theorem t101_45 {d : Nat} {h : Hp} {Q : Pst} {a : Nat} {ls : List Value} {st : List Value} : T d 101 45 ls (.ref a :: st) h Q ↔ gF (h.2.2 a) 6 0 (fun v => T d 101 48 ls (v :: st) h Q) := T_getfieldR m101 c101_45 f7_10
theorem c101_48 : cod 101 48 = some (.getfield 218, 3) := cod_of b101 dX7_forget_48
theorem t101_48 {d : Nat} {h : Hp} {Q : Pst} {a : Nat} {ls : List Value} {st : List Value} : T d 101 48 ls (.ref a :: st) h Q ↔ gF (h.2.2 a) 5 6 (fun v => T d 101 51 ls (v :: st) h Q) := T_getfieldR m101 c101_48 f7_218
theorem c101_51 : cod 101 51 = some (.invokevirtual 255, 3) := cod_of b101 dX7_forget_51
theorem t101_51 {d : Nat} {h : Hp} {Q : Pst} {a : Nat} {ls : List Value} (ho : isO (h.2.2 a) 3) : T (d + 1) 101 51 ls [.ref a] h Q ↔ T d 42 0 [.ref a, un] [] h (fun x h2 => T (d + 1) 101 54 ls (rl x []) h2 Q) := T_virtualR (as := []) (r := []) m101 m42 c101_51 k7_255  rfl (by decide) rfl (by simp [wrd, Value.category]) (by simp [stk, Value.category]) rfl (by decide +kernel) ho
theorem c101_54 : cod 101 54 = some (.ireturn, 1) := cod_of b101 dX7_forget_54
theorem t101_54 {d : Nat} {h : Hp} {Q : Pst} {x : Int32} {ls : List Value} : T d 101 54 ls [.int x] h Q ↔ Q (some (.int x)) h := T_iretR m101 c101_54 rfl
theorem b102 : (mR 102).2.2.1 = cX7_is := by rw [m102]
theorem c102_0 : cod 102 0 = some (.aload_n 0, 1) := cod_of b102 dX7_is_0
theorem t102_0 {d : Nat} {h : Hp} {Q : Pst} {l1 : Value} {x : Nat} {st : List Value} : T d 102 0 [.ref x, l1] st h Q ↔ T d 102 1 [.ref x, l1] (.ref x :: st) h Q := T_aload_n c102_0 rfl
theorem c102_1 : cod 102 1 = some (.getfield 10, 3) := cod_of b102 dX7_is_1
theorem t102_1 {d : Nat} {h : Hp} {Q : Pst} {a : Nat} {ls : List Value} {st : List Value} : T d 102 1 ls (.ref a :: st) h Q ↔ gF (h.2.2 a) 6 0 (fun v => T d 102 4 ls (v :: st) h Q) := T_getfieldR m102 c102_1 f7_10
theorem c102_4 : cod 102 4 = some (.iload_n 1, 1) := cod_of b102 dX7_is_4
theorem t102_4 {d : Nat} {h : Hp} {Q : Pst} {l0 : Value} {x : Int32} {st : List Value} : T d 102 4 [l0, .int x] st h Q ↔ T d 102 5 [l0, .int x] (.int x :: st) h Q := T_iload_n c102_4 rfl
theorem c102_5 : cod 102 5 = some (.invokevirtual 116, 3) := cod_of b102 dX7_is_5
theorem t102_5 {d : Nat} {h : Hp} {Q : Pst} {a0 : Int32} {a : Nat} {ls : List Value} (ho : isO (h.2.2 a) 5) : T (d + 1) 102 5 ls [.int a0, .ref a] h Q ↔ T d 55 0 [.ref a, .int a0] [] h (fun x h2 => T (d + 1) 102 8 ls (rl x []) h2 Q) := T_virtualR (as := [.int a0]) (r := []) m102 m55 c102_5 k7_116  rfl (by decide) rfl (by simp [wrd, Value.category]) (by simp [stk, Value.category]) rfl (by decide +kernel) ho
theorem c102_8 : cod 102 8 = some (.ifCond .ne 10, 3) := cod_of b102 dX7_is_8
theorem t102_8 {d : Nat} {h : Hp} {Q : Pst} {x : Int32} {ls : List Value} {st : List Value} : T d 102 8 ls (.int x :: st) h Q ↔ (if ¬ x = 0 then T d 102 18 ls st h Q else T d 102 11 ls st h Q) := T_if_ne c102_8 (by decide)
theorem c102_11 : cod 102 11 = some (.aload_n 0, 1) := cod_of b102 dX7_is_11
theorem t102_11 {d : Nat} {h : Hp} {Q : Pst} {l1 : Value} {x : Nat} {st : List Value} : T d 102 11 [.ref x, l1] st h Q ↔ T d 102 12 [.ref x, l1] (.ref x :: st) h Q := T_aload_n c102_11 rfl
theorem c102_12 : cod 102 12 = some (.bipush (-2), 2) := cod_of b102 dX7_is_12
theorem t102_12 {d : Nat} {h : Hp} {Q : Pst} {ls : List Value} {st : List Value} : T d 102 12 ls st h Q ↔ T d 102 14 ls (.int (-2) :: st) h Q := T_bipushV c102_12 (by decide)
theorem c102_14 : cod 102 14 = some (.invokevirtual 66, 3) := cod_of b102 dX7_is_14
theorem t102_14 {d : Nat} {h : Hp} {Q : Pst} {a0 : Int32} {a : Nat} {ls : List Value} (ho : isO (h.2.2 a) 6) : T (d + 1) 102 14 ls [.int a0, .ref a] h Q ↔ T d 116 0 [.ref a, .int a0, un] [] h (fun x h2 => T (d + 1) 102 17 ls (rl x []) h2 Q) := T_virtualR (as := [.int a0]) (r := []) m102 m116 c102_14 k7_66  rfl (by decide) rfl (by simp [wrd, Value.category]) (by simp [stk, Value.category]) rfl (by decide +kernel) ho
theorem c102_17 : cod 102 17 = some (.ireturn, 1) := cod_of b102 dX7_is_17
theorem t102_17 {d : Nat} {h : Hp} {Q : Pst} {x : Int32} {ls : List Value} : T d 102 17 ls [.int x] h Q ↔ Q (some (.int x)) h := T_iretR m102 c102_17 rfl
theorem c102_18 : cod 102 18 = some (.aload_n 0, 1) := cod_of b102 dX7_is_18
theorem t102_18 {d : Nat} {h : Hp} {Q : Pst} {l1 : Value} {x : Nat} {st : List Value} : T d 102 18 [.ref x, l1] st h Q ↔ T d 102 19 [.ref x, l1] (.ref x :: st) h Q := T_aload_n c102_18 rfl
theorem c102_19 : cod 102 19 = some (.getfield 33, 3) := cod_of b102 dX7_is_19
theorem t102_19 {d : Nat} {h : Hp} {Q : Pst} {a : Nat} {ls : List Value} {st : List Value} : T d 102 19 ls (.ref a :: st) h Q ↔ gF (h.2.2 a) 6 4 (fun v => T d 102 22 ls (v :: st) h Q) := T_getfieldR m102 c102_19 f7_33
theorem c102_22 : cod 102 22 = some (.aload_n 0, 1) := cod_of b102 dX7_is_22
theorem t102_22 {d : Nat} {h : Hp} {Q : Pst} {l1 : Value} {x : Nat} {st : List Value} : T d 102 22 [.ref x, l1] st h Q ↔ T d 102 23 [.ref x, l1] (.ref x :: st) h Q := T_aload_n c102_22 rfl
theorem c102_23 : cod 102 23 = some (.getfield 10, 3) := cod_of b102 dX7_is_23
theorem t102_23 {d : Nat} {h : Hp} {Q : Pst} {a : Nat} {ls : List Value} {st : List Value} : T d 102 23 ls (.ref a :: st) h Q ↔ gF (h.2.2 a) 6 0 (fun v => T d 102 26 ls (v :: st) h Q) := T_getfieldR m102 c102_23 f7_10
theorem c102_26 : cod 102 26 = some (.iload_n 1, 1) := cod_of b102 dX7_is_26
theorem t102_26 {d : Nat} {h : Hp} {Q : Pst} {l0 : Value} {x : Int32} {st : List Value} : T d 102 26 [l0, .int x] st h Q ↔ T d 102 27 [l0, .int x] (.int x :: st) h Q := T_iload_n c102_26 rfl
theorem c102_27 : cod 102 27 = some (.invokevirtual 258, 3) := cod_of b102 dX7_is_27
theorem t102_27 {d : Nat} {h : Hp} {Q : Pst} {a0 a : Nat} {a1 : Int32} {ls : List Value} (ho : isO (h.2.2 a) 1) : T (d + 1) 102 27 ls [.int a1, .ref a0, .ref a] h Q ↔ T d 10 0 [.ref a, .ref a0, .int a1, un, un] [] h (fun x h2 => T (d + 1) 102 30 ls (rl x []) h2 Q) := T_virtualR (as := [.ref a0, .int a1]) (r := []) m102 m10 c102_27 k7_258  rfl (by decide) rfl (by simp [wrd, Value.category]) (by simp [stk, Value.category]) rfl (by decide +kernel) ho
theorem c102_30 : cod 102 30 = some (.ireturn, 1) := cod_of b102 dX7_is_30
theorem t102_30 {d : Nat} {h : Hp} {Q : Pst} {x : Int32} {ls : List Value} : T d 102 30 ls [.int x] h Q ↔ Q (some (.int x)) h := T_iretR m102 c102_30 rfl
