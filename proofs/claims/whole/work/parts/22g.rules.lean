theorem b221 : (mR 221).2.2.1 = cL_law := by rw [m221]
theorem c221_0 : cod 221 0 = some (.new 7, 3) := cod_of b221 dL_law_0
theorem t221_0 {d : Nat} {h : Hp} {Q : Pst} {ls : List Value} {st : List Value} : T d 221 0 ls st h Q ↔ T d 221 3 ls (.ref h.1 :: st) (hnew h 10 (oO 6 (dfl 6))) Q := T_newR m221 c221_0 (by decide +kernel) (by decide)
theorem c221_3 : cod 221 3 = some (.dup, 1) := cod_of b221 dL_law_3
theorem t221_3 {d : Nat} {h : Hp} {Q : Pst} {x : Nat} {ls : List Value} {st : List Value} : T d 221 3 ls (.ref x :: st) h Q ↔ T d 221 4 ls (.ref x :: .ref x :: st) h Q := T_dup c221_3 rfl
theorem c221_4 : cod 221 4 = some (.invokespecial 9, 3) := cod_of b221 dL_law_4
theorem t221_4 {d : Nat} {h : Hp} {Q : Pst} {s0 a : Nat} {ls : List Value} : T (d + 1) 221 4 ls [.ref a, .ref s0] h Q ↔ T d 74 0 [.ref a] [] h (fun x h2 => T (d + 1) 221 7 ls (rl x [.ref s0]) h2 Q) := T_specialR (as := []) (r := [.ref s0]) m221 m74 c221_4 k20_9 (Or.inl rfl) rfl (by decide) rfl (by simp [wrd, Value.category]) (by simp [stk, Value.category]) rfl
theorem c221_7 : cod 221 7 = some (.astore_n 1, 1) := cod_of b221 dL_law_7
theorem t221_7 {d : Nat} {h : Hp} {Q : Pst} {l0 l1 l2 l3 : Value} {x : Nat} {st : List Value} : T d 221 7 [l0, l1, l2, l3] (.ref x :: st) h Q ↔ T d 221 8 [kil l0, .ref x, l2, l3] st h Q := T_astore_n c221_7 (Nat.le_of_ble_eq_true rfl)
theorem c221_8 : cod 221 8 = some (.new 10, 3) := cod_of b221 dL_law_8
theorem t221_8 {d : Nat} {h : Hp} {Q : Pst} {ls : List Value} {st : List Value} : T d 221 8 ls st h Q ↔ T d 221 11 ls (.ref h.1 :: st) (hnew h 18 (oO 7 (dfl 7))) Q := T_newR m221 c221_8 (by decide +kernel) (by decide)
theorem c221_11 : cod 221 11 = some (.dup, 1) := cod_of b221 dL_law_11
theorem t221_11 {d : Nat} {h : Hp} {Q : Pst} {x : Nat} {ls : List Value} {st : List Value} : T d 221 11 ls (.ref x :: st) h Q ↔ T d 221 12 ls (.ref x :: .ref x :: st) h Q := T_dup c221_11 rfl
theorem c221_12 : cod 221 12 = some (.invokespecial 12, 3) := cod_of b221 dL_law_12
theorem t221_12 {d : Nat} {h : Hp} {Q : Pst} {s0 a : Nat} {ls : List Value} : T (d + 1) 221 12 ls [.ref a, .ref s0] h Q ↔ T d 125 0 [.ref a] [] h (fun x h2 => T (d + 1) 221 15 ls (rl x [.ref s0]) h2 Q) := T_specialR (as := []) (r := [.ref s0]) m221 m125 c221_12 k20_12 (Or.inl rfl) rfl (by decide) rfl (by simp [wrd, Value.category]) (by simp [stk, Value.category]) rfl
theorem c221_15 : cod 221 15 = some (.astore_n 2, 1) := cod_of b221 dL_law_15
theorem t221_15 {d : Nat} {h : Hp} {Q : Pst} {l0 l1 l2 l3 : Value} {x : Nat} {st : List Value} : T d 221 15 [l0, l1, l2, l3] (.ref x :: st) h Q ↔ T d 221 16 [l0, kil l1, .ref x, l3] st h Q := T_astore_n c221_15 (Nat.le_of_ble_eq_true rfl)
theorem c221_16 : cod 221 16 = some (.iconst 0, 1) := cod_of b221 dL_law_16
theorem t221_16 {d : Nat} {h : Hp} {Q : Pst} {ls : List Value} {st : List Value} : T d 221 16 ls st h Q ↔ T d 221 17 ls (.int 0 :: st) h Q := T_iconstV c221_16 (by decide)
theorem c221_17 : cod 221 17 = some (.istore_n 3, 1) := cod_of b221 dL_law_17
theorem t221_17 {d : Nat} {h : Hp} {Q : Pst} {l0 l1 l2 l3 : Value} {x : Int32} {st : List Value} : T d 221 17 [l0, l1, l2, l3] (.int x :: st) h Q ↔ T d 221 18 [l0, l1, kil l2, .int x] st h Q := T_istore_n c221_17 (Nat.le_of_ble_eq_true rfl)
theorem c221_18 : cod 221 18 = some (.iload_n 3, 1) := cod_of b221 dL_law_18
theorem t221_18 {d : Nat} {h : Hp} {Q : Pst} {l0 l1 l2 : Value} {x : Int32} {st : List Value} : T d 221 18 [l0, l1, l2, .int x] st h Q ↔ T d 221 19 [l0, l1, l2, .int x] (.int x :: st) h Q := T_iload_n c221_18 rfl
theorem c221_19 : cod 221 19 = some (.aload_n 0, 1) := cod_of b221 dL_law_19
theorem t221_19 {d : Nat} {h : Hp} {Q : Pst} {l1 l2 l3 : Value} {x : Nat} {st : List Value} : T d 221 19 [.ref x, l1, l2, l3] st h Q ↔ T d 221 20 [.ref x, l1, l2, l3] (.ref x :: st) h Q := T_aload_n c221_19 rfl
theorem c221_20 : cod 221 20 = some (.arraylength, 1) := cod_of b221 dL_law_20
theorem t221_20 {d : Nat} {h : Hp} {Q : Pst} {a : Nat} {ls : List Value} {st : List Value} : T d 221 20 ls (.ref a :: st) h Q ↔ cN (h.2.2 a) (fun n => T d 221 21 ls (.int (Int32.ofNat n) :: st) h Q) := T_alen c221_20
theorem c221_21 : cod 221 21 = some (.bipush 6, 2) := cod_of b221 dL_law_21
theorem t221_21 {d : Nat} {h : Hp} {Q : Pst} {ls : List Value} {st : List Value} : T d 221 21 ls st h Q ↔ T d 221 23 ls (.int 6 :: st) h Q := T_bipushV c221_21 (by decide)
theorem c221_23 : cod 221 23 = some (.isub, 1) := cod_of b221 dL_law_23
theorem t221_23 {d : Nat} {h : Hp} {Q : Pst} {x y : Int32} {ls : List Value} {st : List Value} : T d 221 23 ls (.int y :: .int x :: st) h Q ↔ T d 221 24 ls (.int (x - y) :: st) h Q := T_isub c221_23
theorem c221_24 : cod 221 24 = some (.if_icmp .gt 1352, 3) := cod_of b221 dL_law_24
theorem t221_24 {d : Nat} {h : Hp} {Q : Pst} {x y : Int32} {ls : List Value} {st : List Value} : T d 221 24 ls (.int y :: .int x :: st) h Q ↔ (if y < x then T d 221 1376 ls st h Q else T d 221 27 ls st h Q) := T_icmp_gt c221_24 (by decide)
theorem c221_27 : cod 221 27 = some (.aload_n 0, 1) := cod_of b221 dL_law_27
theorem t221_27 {d : Nat} {h : Hp} {Q : Pst} {l1 l2 l3 : Value} {x : Nat} {st : List Value} : T d 221 27 [.ref x, l1, l2, l3] st h Q ↔ T d 221 28 [.ref x, l1, l2, l3] (.ref x :: st) h Q := T_aload_n c221_27 rfl
theorem c221_28 : cod 221 28 = some (.iload_n 3, 1) := cod_of b221 dL_law_28
theorem t221_28 {d : Nat} {h : Hp} {Q : Pst} {l0 l1 l2 : Value} {x : Int32} {st : List Value} : T d 221 28 [l0, l1, l2, .int x] st h Q ↔ T d 221 29 [l0, l1, l2, .int x] (.int x :: st) h Q := T_iload_n c221_28 rfl
theorem c221_29 : cod 221 29 = some (.iaload, 1) := cod_of b221 dL_law_29
theorem t221_29 {d : Nat} {h : Hp} {Q : Pst} {a : Nat} {i : Int32} {ls : List Value} {st : List Value} : T d 221 29 ls (.int i :: .ref a :: st) h Q ↔ aL (h.2.2 a) i (fun x => T d 221 30 ls (.int x :: st) h Q) := T_iaload c221_29
theorem c221_30 : cod 221 30 = some (.bipush 63, 2) := cod_of b221 dL_law_30
theorem t221_30 {d : Nat} {h : Hp} {Q : Pst} {ls : List Value} {st : List Value} : T d 221 30 ls st h Q ↔ T d 221 32 ls (.int 63 :: st) h Q := T_bipushV c221_30 (by decide)
theorem c221_32 : cod 221 32 = some (.iand, 1) := cod_of b221 dL_law_32
theorem t221_32 {d : Nat} {h : Hp} {Q : Pst} {x y : Int32} {ls : List Value} {st : List Value} : T d 221 32 ls (.int y :: .int x :: st) h Q ↔ T d 221 33 ls (.int (x &&& y) :: st) h Q := T_iand c221_32
theorem c221_33 : cod 221 33 = some (.tableswitch 1337 0 39 #[175, 198, 231, 264, 287, 300, 313, 346, 369, 392, 415, 428, 461, 494, 527, 560, 593, 626, 659, 682, 725, 748, 801, 834, 857, 910, 973, 996, 1019, 1042, 1065, 1088, 1141, 1174, 1207, 1231, 1254, 1277, 1300, 1323], 175) := cod_of b221 dL_law_33
theorem t221_33 {d : Nat} {h : Hp} {Q : Pst} {x : Int32} {ls : List Value} {st : List Value} : T d 221 33 ls (.int x :: st) h Q ↔ swT (fun t => T d 221 t ls st h Q) x.toInt 0 [208, 231, 264, 297, 320, 333, 346, 379, 402, 425, 448, 461, 494, 527, 560, 593, 626, 659, 692, 715, 758, 781, 834, 867, 890, 943, 1006, 1029, 1052, 1075, 1098, 1121, 1174, 1207, 1240, 1264, 1287, 1310, 1333, 1356] 1370 := T_tsw c221_33 (by decide) (by decide) (by decide)
theorem c221_1370 : cod 221 1370 = some (.iinc 3 6, 3) := cod_of b221 dL_law_1370
theorem t221_1370 {d : Nat} {h : Hp} {Q : Pst} {l0 l1 l2 : Value} {x : Int32} {st : List Value} : T d 221 1370 [l0, l1, l2, .int x] st h Q ↔ T d 221 1373 [l0, l1, kil l2, .int (x + 6)] st h Q := T_iincV c221_1370 rfl (Nat.le_of_ble_eq_true rfl) (by decide) rfl
theorem c221_1373 : cod 221 1373 = some (.goto (-1355), 3) := cod_of b221 dL_law_1373
theorem t221_1373 {d : Nat} {h : Hp} {Q : Pst} {ls : List Value} {st : List Value} : T d 221 1373 ls st h Q ↔ T d 221 18 ls st h Q := T_goto c221_1373 (by decide)
theorem c221_1356 : cod 221 1356 = some (.aload_n 1, 1) := cod_of b221 dL_law_1356
theorem t221_1356 {d : Nat} {h : Hp} {Q : Pst} {l0 l2 l3 : Value} {x : Nat} {st : List Value} : T d 221 1356 [l0, .ref x, l2, l3] st h Q ↔ T d 221 1357 [l0, .ref x, l2, l3] (.ref x :: st) h Q := T_aload_n c221_1356 rfl
theorem c221_1357 : cod 221 1357 = some (.invokevirtual 176, 3) := cod_of b221 dL_law_1357
theorem t221_1357 {d : Nat} {h : Hp} {Q : Pst} {a : Nat} {ls : List Value} (ho : isO (h.2.2 a) 6) : T (d + 1) 221 1357 ls [.ref a] h Q ↔ T d 114 0 [.ref a, un, un, un] [] h (fun x h2 => T (d + 1) 221 1360 ls (rl x []) h2 Q) := T_virtualR (as := []) (r := []) m221 m114 c221_1357 k20_176  rfl (by decide) rfl (by simp [wrd, Value.category]) (by simp [stk, Value.category]) rfl (by decide +kernel) ho
theorem c221_1360 : cod 221 1360 = some (.aload_n 2, 1) := cod_of b221 dL_law_1360
theorem t221_1360 {d : Nat} {h : Hp} {Q : Pst} {l0 l1 l3 : Value} {x : Nat} {st : List Value} : T d 221 1360 [l0, l1, .ref x, l3] st h Q ↔ T d 221 1361 [l0, l1, .ref x, l3] (.ref x :: st) h Q := T_aload_n c221_1360 rfl
theorem c221_1361 : cod 221 1361 = some (.invokevirtual 180, 3) := cod_of b221 dL_law_1361
theorem t221_1361 {d : Nat} {h : Hp} {Q : Pst} {s0 : Int64} {a : Nat} {ls : List Value} (ho : isO (h.2.2 a) 7) : T (d + 1) 221 1361 ls [.ref a, .long s0] h Q ↔ T d 212 0 [.ref a, un, un, un] [] h (fun x h2 => T (d + 1) 221 1364 ls (rl x [.long s0]) h2 Q) := T_virtualR (as := []) (r := [.long s0]) m221 m212 c221_1361 k20_180  rfl (by decide) rfl (by simp [wrd, Value.category]) (by simp [stk, Value.category]) rfl (by decide +kernel) ho
theorem c221_1364 : cod 221 1364 = some (.lcmp, 1) := cod_of b221 dL_law_1364
theorem t221_1364 {d : Nat} {h : Hp} {Q : Pst} {x y : Int64} {ls : List Value} {st : List Value} : T d 221 1364 ls (.long y :: .long x :: st) h Q ↔ T d 221 1365 ls (.int (lg_cmp x y) :: st) h Q := T_lcmp c221_1364
theorem c221_1365 : cod 221 1365 = some (.ifCond .eq 5, 3) := cod_of b221 dL_law_1365
theorem t221_1365 {d : Nat} {h : Hp} {Q : Pst} {x : Int32} {ls : List Value} {st : List Value} : T d 221 1365 ls (.int x :: st) h Q ↔ (if x = 0 then T d 221 1370 ls st h Q else T d 221 1368 ls st h Q) := T_if_eq c221_1365 (by decide)
theorem c221_1368 : cod 221 1368 = some (.iconst 0, 1) := cod_of b221 dL_law_1368
theorem t221_1368 {d : Nat} {h : Hp} {Q : Pst} {ls : List Value} {st : List Value} : T d 221 1368 ls st h Q ↔ T d 221 1369 ls (.int 0 :: st) h Q := T_iconstV c221_1368 (by decide)
theorem c221_1369 : cod 221 1369 = some (.ireturn, 1) := cod_of b221 dL_law_1369
theorem t221_1369 {d : Nat} {h : Hp} {Q : Pst} {x : Int32} {ls : List Value} : T d 221 1369 ls [.int x] h Q ↔ (narrow .boolean (.int x) = .int x ∧ Q (some (.int x)) h) := T_zretR m221 c221_1369 rfl
theorem c221_1333 : cod 221 1333 = some (.aload_n 1, 1) := cod_of b221 dL_law_1333
theorem t221_1333 {d : Nat} {h : Hp} {Q : Pst} {l0 l2 l3 : Value} {x : Nat} {st : List Value} : T d 221 1333 [l0, .ref x, l2, l3] st h Q ↔ T d 221 1334 [l0, .ref x, l2, l3] (.ref x :: st) h Q := T_aload_n c221_1333 rfl
theorem c221_1334 : cod 221 1334 = some (.aload_n 0, 1) := cod_of b221 dL_law_1334
theorem t221_1334 {d : Nat} {h : Hp} {Q : Pst} {l1 l2 l3 : Value} {x : Nat} {st : List Value} : T d 221 1334 [.ref x, l1, l2, l3] st h Q ↔ T d 221 1335 [.ref x, l1, l2, l3] (.ref x :: st) h Q := T_aload_n c221_1334 rfl
theorem c221_1335 : cod 221 1335 = some (.iload_n 3, 1) := cod_of b221 dL_law_1335
theorem t221_1335 {d : Nat} {h : Hp} {Q : Pst} {l0 l1 l2 : Value} {x : Int32} {st : List Value} : T d 221 1335 [l0, l1, l2, .int x] st h Q ↔ T d 221 1336 [l0, l1, l2, .int x] (.int x :: st) h Q := T_iload_n c221_1335 rfl
theorem c221_1336 : cod 221 1336 = some (.iconst 1, 1) := cod_of b221 dL_law_1336
theorem t221_1336 {d : Nat} {h : Hp} {Q : Pst} {ls : List Value} {st : List Value} : T d 221 1336 ls st h Q ↔ T d 221 1337 ls (.int 1 :: st) h Q := T_iconstV c221_1336 (by decide)
theorem c221_1337 : cod 221 1337 = some (.iadd, 1) := cod_of b221 dL_law_1337
theorem t221_1337 {d : Nat} {h : Hp} {Q : Pst} {x y : Int32} {ls : List Value} {st : List Value} : T d 221 1337 ls (.int y :: .int x :: st) h Q ↔ T d 221 1338 ls (.int (x + y) :: st) h Q := T_iadd c221_1337
theorem c221_1338 : cod 221 1338 = some (.iaload, 1) := cod_of b221 dL_law_1338
theorem t221_1338 {d : Nat} {h : Hp} {Q : Pst} {a : Nat} {i : Int32} {ls : List Value} {st : List Value} : T d 221 1338 ls (.int i :: .ref a :: st) h Q ↔ aL (h.2.2 a) i (fun x => T d 221 1339 ls (.int x :: st) h Q) := T_iaload c221_1338
theorem c221_1339 : cod 221 1339 = some (.invokevirtual 172, 3) := cod_of b221 dL_law_1339
theorem t221_1339 {d : Nat} {h : Hp} {Q : Pst} {a0 : Int32} {a : Nat} {ls : List Value} (ho : isO (h.2.2 a) 6) : T (d + 1) 221 1339 ls [.int a0, .ref a] h Q ↔ T d 113 0 [.ref a, .int a0] [] h (fun x h2 => T (d + 1) 221 1342 ls (rl x []) h2 Q) := T_virtualR (as := [.int a0]) (r := []) m221 m113 c221_1339 k20_172  rfl (by decide) rfl (by simp [wrd, Value.category]) (by simp [stk, Value.category]) rfl (by decide +kernel) ho
theorem c221_1342 : cod 221 1342 = some (.aload_n 2, 1) := cod_of b221 dL_law_1342
theorem t221_1342 {d : Nat} {h : Hp} {Q : Pst} {l0 l1 l3 : Value} {x : Nat} {st : List Value} : T d 221 1342 [l0, l1, .ref x, l3] st h Q ↔ T d 221 1343 [l0, l1, .ref x, l3] (.ref x :: st) h Q := T_aload_n c221_1342 rfl
theorem c221_1343 : cod 221 1343 = some (.aload_n 0, 1) := cod_of b221 dL_law_1343
theorem t221_1343 {d : Nat} {h : Hp} {Q : Pst} {l1 l2 l3 : Value} {x : Nat} {st : List Value} : T d 221 1343 [.ref x, l1, l2, l3] st h Q ↔ T d 221 1344 [.ref x, l1, l2, l3] (.ref x :: st) h Q := T_aload_n c221_1343 rfl
theorem c221_1344 : cod 221 1344 = some (.iload_n 3, 1) := cod_of b221 dL_law_1344
theorem t221_1344 {d : Nat} {h : Hp} {Q : Pst} {l0 l1 l2 : Value} {x : Int32} {st : List Value} : T d 221 1344 [l0, l1, l2, .int x] st h Q ↔ T d 221 1345 [l0, l1, l2, .int x] (.int x :: st) h Q := T_iload_n c221_1344 rfl
theorem c221_1345 : cod 221 1345 = some (.iconst 1, 1) := cod_of b221 dL_law_1345
theorem t221_1345 {d : Nat} {h : Hp} {Q : Pst} {ls : List Value} {st : List Value} : T d 221 1345 ls st h Q ↔ T d 221 1346 ls (.int 1 :: st) h Q := T_iconstV c221_1345 (by decide)
theorem c221_1346 : cod 221 1346 = some (.iadd, 1) := cod_of b221 dL_law_1346
theorem t221_1346 {d : Nat} {h : Hp} {Q : Pst} {x y : Int32} {ls : List Value} {st : List Value} : T d 221 1346 ls (.int y :: .int x :: st) h Q ↔ T d 221 1347 ls (.int (x + y) :: st) h Q := T_iadd c221_1346
theorem c221_1347 : cod 221 1347 = some (.iaload, 1) := cod_of b221 dL_law_1347
theorem t221_1347 {d : Nat} {h : Hp} {Q : Pst} {a : Nat} {i : Int32} {ls : List Value} {st : List Value} : T d 221 1347 ls (.int i :: .ref a :: st) h Q ↔ aL (h.2.2 a) i (fun x => T d 221 1348 ls (.int x :: st) h Q) := T_iaload c221_1347
theorem c221_1348 : cod 221 1348 = some (.invokevirtual 175, 3) := cod_of b221 dL_law_1348
theorem t221_1348 {d : Nat} {h : Hp} {Q : Pst} {a0 s0 : Int32} {a : Nat} {ls : List Value} (ho : isO (h.2.2 a) 7) : T (d + 1) 221 1348 ls [.int a0, .ref a, .int s0] h Q ↔ T d 210 0 [.ref a, .int a0] [] h (fun x h2 => T (d + 1) 221 1351 ls (rl x [.int s0]) h2 Q) := T_virtualR (as := [.int a0]) (r := [.int s0]) m221 m210 c221_1348 k20_175  rfl (by decide) rfl (by simp [wrd, Value.category]) (by simp [stk, Value.category]) rfl (by decide +kernel) ho
theorem c221_1351 : cod 221 1351 = some (.if_icmp .eq 19, 3) := cod_of b221 dL_law_1351
theorem t221_1351 {d : Nat} {h : Hp} {Q : Pst} {x y : Int32} {ls : List Value} {st : List Value} : T d 221 1351 ls (.int y :: .int x :: st) h Q ↔ (if x = y then T d 221 1370 ls st h Q else T d 221 1354 ls st h Q) := T_icmp_eq c221_1351 (by decide)
theorem c221_1354 : cod 221 1354 = some (.iconst 0, 1) := cod_of b221 dL_law_1354
theorem t221_1354 {d : Nat} {h : Hp} {Q : Pst} {ls : List Value} {st : List Value} : T d 221 1354 ls st h Q ↔ T d 221 1355 ls (.int 0 :: st) h Q := T_iconstV c221_1354 (by decide)
theorem c221_1355 : cod 221 1355 = some (.ireturn, 1) := cod_of b221 dL_law_1355
theorem t221_1355 {d : Nat} {h : Hp} {Q : Pst} {x : Int32} {ls : List Value} : T d 221 1355 ls [.int x] h Q ↔ (narrow .boolean (.int x) = .int x ∧ Q (some (.int x)) h) := T_zretR m221 c221_1355 rfl
theorem c221_1310 : cod 221 1310 = some (.aload_n 1, 1) := cod_of b221 dL_law_1310
theorem t221_1310 {d : Nat} {h : Hp} {Q : Pst} {l0 l2 l3 : Value} {x : Nat} {st : List Value} : T d 221 1310 [l0, .ref x, l2, l3] st h Q ↔ T d 221 1311 [l0, .ref x, l2, l3] (.ref x :: st) h Q := T_aload_n c221_1310 rfl
theorem c221_1311 : cod 221 1311 = some (.aload_n 0, 1) := cod_of b221 dL_law_1311
theorem t221_1311 {d : Nat} {h : Hp} {Q : Pst} {l1 l2 l3 : Value} {x : Nat} {st : List Value} : T d 221 1311 [.ref x, l1, l2, l3] st h Q ↔ T d 221 1312 [.ref x, l1, l2, l3] (.ref x :: st) h Q := T_aload_n c221_1311 rfl
theorem c221_1312 : cod 221 1312 = some (.iload_n 3, 1) := cod_of b221 dL_law_1312
theorem t221_1312 {d : Nat} {h : Hp} {Q : Pst} {l0 l1 l2 : Value} {x : Int32} {st : List Value} : T d 221 1312 [l0, l1, l2, .int x] st h Q ↔ T d 221 1313 [l0, l1, l2, .int x] (.int x :: st) h Q := T_iload_n c221_1312 rfl
theorem c221_1313 : cod 221 1313 = some (.iconst 1, 1) := cod_of b221 dL_law_1313
theorem t221_1313 {d : Nat} {h : Hp} {Q : Pst} {ls : List Value} {st : List Value} : T d 221 1313 ls st h Q ↔ T d 221 1314 ls (.int 1 :: st) h Q := T_iconstV c221_1313 (by decide)
theorem c221_1314 : cod 221 1314 = some (.iadd, 1) := cod_of b221 dL_law_1314
theorem t221_1314 {d : Nat} {h : Hp} {Q : Pst} {x y : Int32} {ls : List Value} {st : List Value} : T d 221 1314 ls (.int y :: .int x :: st) h Q ↔ T d 221 1315 ls (.int (x + y) :: st) h Q := T_iadd c221_1314
theorem c221_1315 : cod 221 1315 = some (.iaload, 1) := cod_of b221 dL_law_1315
theorem t221_1315 {d : Nat} {h : Hp} {Q : Pst} {a : Nat} {i : Int32} {ls : List Value} {st : List Value} : T d 221 1315 ls (.int i :: .ref a :: st) h Q ↔ aL (h.2.2 a) i (fun x => T d 221 1316 ls (.int x :: st) h Q) := T_iaload c221_1315
theorem c221_1316 : cod 221 1316 = some (.invokevirtual 168, 3) := cod_of b221 dL_law_1316
theorem t221_1316 {d : Nat} {h : Hp} {Q : Pst} {a0 : Int32} {a : Nat} {ls : List Value} (ho : isO (h.2.2 a) 6) : T (d + 1) 221 1316 ls [.int a0, .ref a] h Q ↔ T d 112 0 [.ref a, .int a0] [] h (fun x h2 => T (d + 1) 221 1319 ls (rl x []) h2 Q) := T_virtualR (as := [.int a0]) (r := []) m221 m112 c221_1316 k20_168  rfl (by decide) rfl (by simp [wrd, Value.category]) (by simp [stk, Value.category]) rfl (by decide +kernel) ho
theorem c221_1319 : cod 221 1319 = some (.aload_n 2, 1) := cod_of b221 dL_law_1319
theorem t221_1319 {d : Nat} {h : Hp} {Q : Pst} {l0 l1 l3 : Value} {x : Nat} {st : List Value} : T d 221 1319 [l0, l1, .ref x, l3] st h Q ↔ T d 221 1320 [l0, l1, .ref x, l3] (.ref x :: st) h Q := T_aload_n c221_1319 rfl
theorem c221_1320 : cod 221 1320 = some (.aload_n 0, 1) := cod_of b221 dL_law_1320
theorem t221_1320 {d : Nat} {h : Hp} {Q : Pst} {l1 l2 l3 : Value} {x : Nat} {st : List Value} : T d 221 1320 [.ref x, l1, l2, l3] st h Q ↔ T d 221 1321 [.ref x, l1, l2, l3] (.ref x :: st) h Q := T_aload_n c221_1320 rfl
theorem c221_1321 : cod 221 1321 = some (.iload_n 3, 1) := cod_of b221 dL_law_1321
theorem t221_1321 {d : Nat} {h : Hp} {Q : Pst} {l0 l1 l2 : Value} {x : Int32} {st : List Value} : T d 221 1321 [l0, l1, l2, .int x] st h Q ↔ T d 221 1322 [l0, l1, l2, .int x] (.int x :: st) h Q := T_iload_n c221_1321 rfl
theorem c221_1322 : cod 221 1322 = some (.iconst 1, 1) := cod_of b221 dL_law_1322
theorem t221_1322 {d : Nat} {h : Hp} {Q : Pst} {ls : List Value} {st : List Value} : T d 221 1322 ls st h Q ↔ T d 221 1323 ls (.int 1 :: st) h Q := T_iconstV c221_1322 (by decide)
theorem c221_1323 : cod 221 1323 = some (.iadd, 1) := cod_of b221 dL_law_1323
theorem t221_1323 {d : Nat} {h : Hp} {Q : Pst} {x y : Int32} {ls : List Value} {st : List Value} : T d 221 1323 ls (.int y :: .int x :: st) h Q ↔ T d 221 1324 ls (.int (x + y) :: st) h Q := T_iadd c221_1323
theorem c221_1324 : cod 221 1324 = some (.iaload, 1) := cod_of b221 dL_law_1324
theorem t221_1324 {d : Nat} {h : Hp} {Q : Pst} {a : Nat} {i : Int32} {ls : List Value} {st : List Value} : T d 221 1324 ls (.int i :: .ref a :: st) h Q ↔ aL (h.2.2 a) i (fun x => T d 221 1325 ls (.int x :: st) h Q) := T_iaload c221_1324
theorem c221_1325 : cod 221 1325 = some (.invokevirtual 171, 3) := cod_of b221 dL_law_1325
theorem t221_1325 {d : Nat} {h : Hp} {Q : Pst} {a0 s0 : Int32} {a : Nat} {ls : List Value} (ho : isO (h.2.2 a) 7) : T (d + 1) 221 1325 ls [.int a0, .ref a, .int s0] h Q ↔ T d 207 0 [.ref a, .int a0] [] h (fun x h2 => T (d + 1) 221 1328 ls (rl x [.int s0]) h2 Q) := T_virtualR (as := [.int a0]) (r := [.int s0]) m221 m207 c221_1325 k20_171  rfl (by decide) rfl (by simp [wrd, Value.category]) (by simp [stk, Value.category]) rfl (by decide +kernel) ho
theorem c221_1328 : cod 221 1328 = some (.if_icmp .eq 42, 3) := cod_of b221 dL_law_1328
theorem t221_1328 {d : Nat} {h : Hp} {Q : Pst} {x y : Int32} {ls : List Value} {st : List Value} : T d 221 1328 ls (.int y :: .int x :: st) h Q ↔ (if x = y then T d 221 1370 ls st h Q else T d 221 1331 ls st h Q) := T_icmp_eq c221_1328 (by decide)
theorem c221_1331 : cod 221 1331 = some (.iconst 0, 1) := cod_of b221 dL_law_1331
theorem t221_1331 {d : Nat} {h : Hp} {Q : Pst} {ls : List Value} {st : List Value} : T d 221 1331 ls st h Q ↔ T d 221 1332 ls (.int 0 :: st) h Q := T_iconstV c221_1331 (by decide)
theorem c221_1332 : cod 221 1332 = some (.ireturn, 1) := cod_of b221 dL_law_1332
theorem t221_1332 {d : Nat} {h : Hp} {Q : Pst} {x : Int32} {ls : List Value} : T d 221 1332 ls [.int x] h Q ↔ (narrow .boolean (.int x) = .int x ∧ Q (some (.int x)) h) := T_zretR m221 c221_1332 rfl
theorem c221_1287 : cod 221 1287 = some (.aload_n 1, 1) := cod_of b221 dL_law_1287
theorem t221_1287 {d : Nat} {h : Hp} {Q : Pst} {l0 l2 l3 : Value} {x : Nat} {st : List Value} : T d 221 1287 [l0, .ref x, l2, l3] st h Q ↔ T d 221 1288 [l0, .ref x, l2, l3] (.ref x :: st) h Q := T_aload_n c221_1287 rfl
theorem c221_1288 : cod 221 1288 = some (.aload_n 0, 1) := cod_of b221 dL_law_1288
theorem t221_1288 {d : Nat} {h : Hp} {Q : Pst} {l1 l2 l3 : Value} {x : Nat} {st : List Value} : T d 221 1288 [.ref x, l1, l2, l3] st h Q ↔ T d 221 1289 [.ref x, l1, l2, l3] (.ref x :: st) h Q := T_aload_n c221_1288 rfl
theorem c221_1289 : cod 221 1289 = some (.iload_n 3, 1) := cod_of b221 dL_law_1289
theorem t221_1289 {d : Nat} {h : Hp} {Q : Pst} {l0 l1 l2 : Value} {x : Int32} {st : List Value} : T d 221 1289 [l0, l1, l2, .int x] st h Q ↔ T d 221 1290 [l0, l1, l2, .int x] (.int x :: st) h Q := T_iload_n c221_1289 rfl
theorem c221_1290 : cod 221 1290 = some (.iconst 1, 1) := cod_of b221 dL_law_1290
theorem t221_1290 {d : Nat} {h : Hp} {Q : Pst} {ls : List Value} {st : List Value} : T d 221 1290 ls st h Q ↔ T d 221 1291 ls (.int 1 :: st) h Q := T_iconstV c221_1290 (by decide)
theorem c221_1291 : cod 221 1291 = some (.iadd, 1) := cod_of b221 dL_law_1291
theorem t221_1291 {d : Nat} {h : Hp} {Q : Pst} {x y : Int32} {ls : List Value} {st : List Value} : T d 221 1291 ls (.int y :: .int x :: st) h Q ↔ T d 221 1292 ls (.int (x + y) :: st) h Q := T_iadd c221_1291
theorem c221_1292 : cod 221 1292 = some (.iaload, 1) := cod_of b221 dL_law_1292
theorem t221_1292 {d : Nat} {h : Hp} {Q : Pst} {a : Nat} {i : Int32} {ls : List Value} {st : List Value} : T d 221 1292 ls (.int i :: .ref a :: st) h Q ↔ aL (h.2.2 a) i (fun x => T d 221 1293 ls (.int x :: st) h Q) := T_iaload c221_1292
theorem c221_1293 : cod 221 1293 = some (.invokevirtual 164, 3) := cod_of b221 dL_law_1293
theorem t221_1293 {d : Nat} {h : Hp} {Q : Pst} {a0 : Int32} {a : Nat} {ls : List Value} (ho : isO (h.2.2 a) 6) : T (d + 1) 221 1293 ls [.int a0, .ref a] h Q ↔ T d 111 0 [.ref a, .int a0] [] h (fun x h2 => T (d + 1) 221 1296 ls (rl x []) h2 Q) := T_virtualR (as := [.int a0]) (r := []) m221 m111 c221_1293 k20_164  rfl (by decide) rfl (by simp [wrd, Value.category]) (by simp [stk, Value.category]) rfl (by decide +kernel) ho
theorem c221_1296 : cod 221 1296 = some (.aload_n 2, 1) := cod_of b221 dL_law_1296
theorem t221_1296 {d : Nat} {h : Hp} {Q : Pst} {l0 l1 l3 : Value} {x : Nat} {st : List Value} : T d 221 1296 [l0, l1, .ref x, l3] st h Q ↔ T d 221 1297 [l0, l1, .ref x, l3] (.ref x :: st) h Q := T_aload_n c221_1296 rfl
theorem c221_1297 : cod 221 1297 = some (.aload_n 0, 1) := cod_of b221 dL_law_1297
theorem t221_1297 {d : Nat} {h : Hp} {Q : Pst} {l1 l2 l3 : Value} {x : Nat} {st : List Value} : T d 221 1297 [.ref x, l1, l2, l3] st h Q ↔ T d 221 1298 [.ref x, l1, l2, l3] (.ref x :: st) h Q := T_aload_n c221_1297 rfl
theorem c221_1298 : cod 221 1298 = some (.iload_n 3, 1) := cod_of b221 dL_law_1298
theorem t221_1298 {d : Nat} {h : Hp} {Q : Pst} {l0 l1 l2 : Value} {x : Int32} {st : List Value} : T d 221 1298 [l0, l1, l2, .int x] st h Q ↔ T d 221 1299 [l0, l1, l2, .int x] (.int x :: st) h Q := T_iload_n c221_1298 rfl
theorem c221_1299 : cod 221 1299 = some (.iconst 1, 1) := cod_of b221 dL_law_1299
theorem t221_1299 {d : Nat} {h : Hp} {Q : Pst} {ls : List Value} {st : List Value} : T d 221 1299 ls st h Q ↔ T d 221 1300 ls (.int 1 :: st) h Q := T_iconstV c221_1299 (by decide)
theorem c221_1300 : cod 221 1300 = some (.iadd, 1) := cod_of b221 dL_law_1300
theorem t221_1300 {d : Nat} {h : Hp} {Q : Pst} {x y : Int32} {ls : List Value} {st : List Value} : T d 221 1300 ls (.int y :: .int x :: st) h Q ↔ T d 221 1301 ls (.int (x + y) :: st) h Q := T_iadd c221_1300
theorem c221_1301 : cod 221 1301 = some (.iaload, 1) := cod_of b221 dL_law_1301
theorem t221_1301 {d : Nat} {h : Hp} {Q : Pst} {a : Nat} {i : Int32} {ls : List Value} {st : List Value} : T d 221 1301 ls (.int i :: .ref a :: st) h Q ↔ aL (h.2.2 a) i (fun x => T d 221 1302 ls (.int x :: st) h Q) := T_iaload c221_1301
theorem c221_1302 : cod 221 1302 = some (.invokevirtual 167, 3) := cod_of b221 dL_law_1302
theorem t221_1302 {d : Nat} {h : Hp} {Q : Pst} {a0 s0 : Int32} {a : Nat} {ls : List Value} (ho : isO (h.2.2 a) 7) : T (d + 1) 221 1302 ls [.int a0, .ref a, .int s0] h Q ↔ T d 206 0 [.ref a, .int a0, un] [] h (fun x h2 => T (d + 1) 221 1305 ls (rl x [.int s0]) h2 Q) := T_virtualR (as := [.int a0]) (r := [.int s0]) m221 m206 c221_1302 k20_167  rfl (by decide) rfl (by simp [wrd, Value.category]) (by simp [stk, Value.category]) rfl (by decide +kernel) ho
theorem c221_1305 : cod 221 1305 = some (.if_icmp .eq 65, 3) := cod_of b221 dL_law_1305
theorem t221_1305 {d : Nat} {h : Hp} {Q : Pst} {x y : Int32} {ls : List Value} {st : List Value} : T d 221 1305 ls (.int y :: .int x :: st) h Q ↔ (if x = y then T d 221 1370 ls st h Q else T d 221 1308 ls st h Q) := T_icmp_eq c221_1305 (by decide)
theorem c221_1308 : cod 221 1308 = some (.iconst 0, 1) := cod_of b221 dL_law_1308
theorem t221_1308 {d : Nat} {h : Hp} {Q : Pst} {ls : List Value} {st : List Value} : T d 221 1308 ls st h Q ↔ T d 221 1309 ls (.int 0 :: st) h Q := T_iconstV c221_1308 (by decide)
theorem c221_1309 : cod 221 1309 = some (.ireturn, 1) := cod_of b221 dL_law_1309
theorem t221_1309 {d : Nat} {h : Hp} {Q : Pst} {x : Int32} {ls : List Value} : T d 221 1309 ls [.int x] h Q ↔ (narrow .boolean (.int x) = .int x ∧ Q (some (.int x)) h) := T_zretR m221 c221_1309 rfl
theorem c221_1264 : cod 221 1264 = some (.aload_n 1, 1) := cod_of b221 dL_law_1264
theorem t221_1264 {d : Nat} {h : Hp} {Q : Pst} {l0 l2 l3 : Value} {x : Nat} {st : List Value} : T d 221 1264 [l0, .ref x, l2, l3] st h Q ↔ T d 221 1265 [l0, .ref x, l2, l3] (.ref x :: st) h Q := T_aload_n c221_1264 rfl
theorem c221_1265 : cod 221 1265 = some (.aload_n 0, 1) := cod_of b221 dL_law_1265
theorem t221_1265 {d : Nat} {h : Hp} {Q : Pst} {l1 l2 l3 : Value} {x : Nat} {st : List Value} : T d 221 1265 [.ref x, l1, l2, l3] st h Q ↔ T d 221 1266 [.ref x, l1, l2, l3] (.ref x :: st) h Q := T_aload_n c221_1265 rfl
theorem c221_1266 : cod 221 1266 = some (.iload_n 3, 1) := cod_of b221 dL_law_1266
theorem t221_1266 {d : Nat} {h : Hp} {Q : Pst} {l0 l1 l2 : Value} {x : Int32} {st : List Value} : T d 221 1266 [l0, l1, l2, .int x] st h Q ↔ T d 221 1267 [l0, l1, l2, .int x] (.int x :: st) h Q := T_iload_n c221_1266 rfl
theorem c221_1267 : cod 221 1267 = some (.iconst 1, 1) := cod_of b221 dL_law_1267
theorem t221_1267 {d : Nat} {h : Hp} {Q : Pst} {ls : List Value} {st : List Value} : T d 221 1267 ls st h Q ↔ T d 221 1268 ls (.int 1 :: st) h Q := T_iconstV c221_1267 (by decide)
theorem c221_1268 : cod 221 1268 = some (.iadd, 1) := cod_of b221 dL_law_1268
theorem t221_1268 {d : Nat} {h : Hp} {Q : Pst} {x y : Int32} {ls : List Value} {st : List Value} : T d 221 1268 ls (.int y :: .int x :: st) h Q ↔ T d 221 1269 ls (.int (x + y) :: st) h Q := T_iadd c221_1268
theorem c221_1269 : cod 221 1269 = some (.iaload, 1) := cod_of b221 dL_law_1269
theorem t221_1269 {d : Nat} {h : Hp} {Q : Pst} {a : Nat} {i : Int32} {ls : List Value} {st : List Value} : T d 221 1269 ls (.int i :: .ref a :: st) h Q ↔ aL (h.2.2 a) i (fun x => T d 221 1270 ls (.int x :: st) h Q) := T_iaload c221_1269
theorem c221_1270 : cod 221 1270 = some (.invokevirtual 160, 3) := cod_of b221 dL_law_1270
theorem t221_1270 {d : Nat} {h : Hp} {Q : Pst} {a0 : Int32} {a : Nat} {ls : List Value} (ho : isO (h.2.2 a) 6) : T (d + 1) 221 1270 ls [.int a0, .ref a] h Q ↔ T d 110 0 [.ref a, .int a0] [] h (fun x h2 => T (d + 1) 221 1273 ls (rl x []) h2 Q) := T_virtualR (as := [.int a0]) (r := []) m221 m110 c221_1270 k20_160  rfl (by decide) rfl (by simp [wrd, Value.category]) (by simp [stk, Value.category]) rfl (by decide +kernel) ho
theorem c221_1273 : cod 221 1273 = some (.aload_n 2, 1) := cod_of b221 dL_law_1273
theorem t221_1273 {d : Nat} {h : Hp} {Q : Pst} {l0 l1 l3 : Value} {x : Nat} {st : List Value} : T d 221 1273 [l0, l1, .ref x, l3] st h Q ↔ T d 221 1274 [l0, l1, .ref x, l3] (.ref x :: st) h Q := T_aload_n c221_1273 rfl
theorem c221_1274 : cod 221 1274 = some (.aload_n 0, 1) := cod_of b221 dL_law_1274
theorem t221_1274 {d : Nat} {h : Hp} {Q : Pst} {l1 l2 l3 : Value} {x : Nat} {st : List Value} : T d 221 1274 [.ref x, l1, l2, l3] st h Q ↔ T d 221 1275 [.ref x, l1, l2, l3] (.ref x :: st) h Q := T_aload_n c221_1274 rfl
theorem c221_1275 : cod 221 1275 = some (.iload_n 3, 1) := cod_of b221 dL_law_1275
theorem t221_1275 {d : Nat} {h : Hp} {Q : Pst} {l0 l1 l2 : Value} {x : Int32} {st : List Value} : T d 221 1275 [l0, l1, l2, .int x] st h Q ↔ T d 221 1276 [l0, l1, l2, .int x] (.int x :: st) h Q := T_iload_n c221_1275 rfl
theorem c221_1276 : cod 221 1276 = some (.iconst 1, 1) := cod_of b221 dL_law_1276
theorem t221_1276 {d : Nat} {h : Hp} {Q : Pst} {ls : List Value} {st : List Value} : T d 221 1276 ls st h Q ↔ T d 221 1277 ls (.int 1 :: st) h Q := T_iconstV c221_1276 (by decide)
theorem c221_1277 : cod 221 1277 = some (.iadd, 1) := cod_of b221 dL_law_1277
theorem t221_1277 {d : Nat} {h : Hp} {Q : Pst} {x y : Int32} {ls : List Value} {st : List Value} : T d 221 1277 ls (.int y :: .int x :: st) h Q ↔ T d 221 1278 ls (.int (x + y) :: st) h Q := T_iadd c221_1277
theorem c221_1278 : cod 221 1278 = some (.iaload, 1) := cod_of b221 dL_law_1278
theorem t221_1278 {d : Nat} {h : Hp} {Q : Pst} {a : Nat} {i : Int32} {ls : List Value} {st : List Value} : T d 221 1278 ls (.int i :: .ref a :: st) h Q ↔ aL (h.2.2 a) i (fun x => T d 221 1279 ls (.int x :: st) h Q) := T_iaload c221_1278
theorem c221_1279 : cod 221 1279 = some (.invokevirtual 163, 3) := cod_of b221 dL_law_1279
theorem t221_1279 {d : Nat} {h : Hp} {Q : Pst} {a0 s0 : Int32} {a : Nat} {ls : List Value} (ho : isO (h.2.2 a) 7) : T (d + 1) 221 1279 ls [.int a0, .ref a, .int s0] h Q ↔ T d 205 0 [.ref a, .int a0, un] [] h (fun x h2 => T (d + 1) 221 1282 ls (rl x [.int s0]) h2 Q) := T_virtualR (as := [.int a0]) (r := [.int s0]) m221 m205 c221_1279 k20_163  rfl (by decide) rfl (by simp [wrd, Value.category]) (by simp [stk, Value.category]) rfl (by decide +kernel) ho
theorem c221_1282 : cod 221 1282 = some (.if_icmp .eq 88, 3) := cod_of b221 dL_law_1282
theorem t221_1282 {d : Nat} {h : Hp} {Q : Pst} {x y : Int32} {ls : List Value} {st : List Value} : T d 221 1282 ls (.int y :: .int x :: st) h Q ↔ (if x = y then T d 221 1370 ls st h Q else T d 221 1285 ls st h Q) := T_icmp_eq c221_1282 (by decide)
theorem c221_1285 : cod 221 1285 = some (.iconst 0, 1) := cod_of b221 dL_law_1285
theorem t221_1285 {d : Nat} {h : Hp} {Q : Pst} {ls : List Value} {st : List Value} : T d 221 1285 ls st h Q ↔ T d 221 1286 ls (.int 0 :: st) h Q := T_iconstV c221_1285 (by decide)
theorem c221_1286 : cod 221 1286 = some (.ireturn, 1) := cod_of b221 dL_law_1286
theorem t221_1286 {d : Nat} {h : Hp} {Q : Pst} {x : Int32} {ls : List Value} : T d 221 1286 ls [.int x] h Q ↔ (narrow .boolean (.int x) = .int x ∧ Q (some (.int x)) h) := T_zretR m221 c221_1286 rfl
theorem c221_1240 : cod 221 1240 = some (.aload_n 1, 1) := cod_of b221 dL_law_1240
theorem t221_1240 {d : Nat} {h : Hp} {Q : Pst} {l0 l2 l3 : Value} {x : Nat} {st : List Value} : T d 221 1240 [l0, .ref x, l2, l3] st h Q ↔ T d 221 1241 [l0, .ref x, l2, l3] (.ref x :: st) h Q := T_aload_n c221_1240 rfl
theorem c221_1241 : cod 221 1241 = some (.aload_n 0, 1) := cod_of b221 dL_law_1241
theorem t221_1241 {d : Nat} {h : Hp} {Q : Pst} {l1 l2 l3 : Value} {x : Nat} {st : List Value} : T d 221 1241 [.ref x, l1, l2, l3] st h Q ↔ T d 221 1242 [.ref x, l1, l2, l3] (.ref x :: st) h Q := T_aload_n c221_1241 rfl
theorem c221_1242 : cod 221 1242 = some (.iload_n 3, 1) := cod_of b221 dL_law_1242
theorem t221_1242 {d : Nat} {h : Hp} {Q : Pst} {l0 l1 l2 : Value} {x : Int32} {st : List Value} : T d 221 1242 [l0, l1, l2, .int x] st h Q ↔ T d 221 1243 [l0, l1, l2, .int x] (.int x :: st) h Q := T_iload_n c221_1242 rfl
theorem c221_1243 : cod 221 1243 = some (.iconst 1, 1) := cod_of b221 dL_law_1243
theorem t221_1243 {d : Nat} {h : Hp} {Q : Pst} {ls : List Value} {st : List Value} : T d 221 1243 ls st h Q ↔ T d 221 1244 ls (.int 1 :: st) h Q := T_iconstV c221_1243 (by decide)
theorem c221_1244 : cod 221 1244 = some (.iadd, 1) := cod_of b221 dL_law_1244
theorem t221_1244 {d : Nat} {h : Hp} {Q : Pst} {x y : Int32} {ls : List Value} {st : List Value} : T d 221 1244 ls (.int y :: .int x :: st) h Q ↔ T d 221 1245 ls (.int (x + y) :: st) h Q := T_iadd c221_1244
theorem c221_1245 : cod 221 1245 = some (.iaload, 1) := cod_of b221 dL_law_1245
theorem t221_1245 {d : Nat} {h : Hp} {Q : Pst} {a : Nat} {i : Int32} {ls : List Value} {st : List Value} : T d 221 1245 ls (.int i :: .ref a :: st) h Q ↔ aL (h.2.2 a) i (fun x => T d 221 1246 ls (.int x :: st) h Q) := T_iaload c221_1245
theorem c221_1246 : cod 221 1246 = some (.invokevirtual 155, 3) := cod_of b221 dL_law_1246
theorem t221_1246 {d : Nat} {h : Hp} {Q : Pst} {a0 : Int32} {a : Nat} {ls : List Value} (ho : isO (h.2.2 a) 6) : T (d + 1) 221 1246 ls [.int a0, .ref a] h Q ↔ T d 109 0 [.ref a, .int a0] [] h (fun x h2 => T (d + 1) 221 1249 ls (rl x []) h2 Q) := T_virtualR (as := [.int a0]) (r := []) m221 m109 c221_1246 k20_155  rfl (by decide) rfl (by simp [wrd, Value.category]) (by simp [stk, Value.category]) rfl (by decide +kernel) ho
theorem c221_1249 : cod 221 1249 = some (.aload_n 2, 1) := cod_of b221 dL_law_1249
theorem t221_1249 {d : Nat} {h : Hp} {Q : Pst} {l0 l1 l3 : Value} {x : Nat} {st : List Value} : T d 221 1249 [l0, l1, .ref x, l3] st h Q ↔ T d 221 1250 [l0, l1, .ref x, l3] (.ref x :: st) h Q := T_aload_n c221_1249 rfl
theorem c221_1250 : cod 221 1250 = some (.aload_n 0, 1) := cod_of b221 dL_law_1250
theorem t221_1250 {d : Nat} {h : Hp} {Q : Pst} {l1 l2 l3 : Value} {x : Nat} {st : List Value} : T d 221 1250 [.ref x, l1, l2, l3] st h Q ↔ T d 221 1251 [.ref x, l1, l2, l3] (.ref x :: st) h Q := T_aload_n c221_1250 rfl
theorem c221_1251 : cod 221 1251 = some (.iload_n 3, 1) := cod_of b221 dL_law_1251
theorem t221_1251 {d : Nat} {h : Hp} {Q : Pst} {l0 l1 l2 : Value} {x : Int32} {st : List Value} : T d 221 1251 [l0, l1, l2, .int x] st h Q ↔ T d 221 1252 [l0, l1, l2, .int x] (.int x :: st) h Q := T_iload_n c221_1251 rfl
theorem c221_1252 : cod 221 1252 = some (.iconst 1, 1) := cod_of b221 dL_law_1252
theorem t221_1252 {d : Nat} {h : Hp} {Q : Pst} {ls : List Value} {st : List Value} : T d 221 1252 ls st h Q ↔ T d 221 1253 ls (.int 1 :: st) h Q := T_iconstV c221_1252 (by decide)
theorem c221_1253 : cod 221 1253 = some (.iadd, 1) := cod_of b221 dL_law_1253
theorem t221_1253 {d : Nat} {h : Hp} {Q : Pst} {x y : Int32} {ls : List Value} {st : List Value} : T d 221 1253 ls (.int y :: .int x :: st) h Q ↔ T d 221 1254 ls (.int (x + y) :: st) h Q := T_iadd c221_1253
theorem c221_1254 : cod 221 1254 = some (.iaload, 1) := cod_of b221 dL_law_1254
theorem t221_1254 {d : Nat} {h : Hp} {Q : Pst} {a : Nat} {i : Int32} {ls : List Value} {st : List Value} : T d 221 1254 ls (.int i :: .ref a :: st) h Q ↔ aL (h.2.2 a) i (fun x => T d 221 1255 ls (.int x :: st) h Q) := T_iaload c221_1254
theorem c221_1255 : cod 221 1255 = some (.invokevirtual 159, 3) := cod_of b221 dL_law_1255
theorem t221_1255 {d : Nat} {h : Hp} {Q : Pst} {a0 : Int32} {s0 : Int64} {a : Nat} {ls : List Value} (ho : isO (h.2.2 a) 7) : T (d + 1) 221 1255 ls [.int a0, .ref a, .long s0] h Q ↔ T d 204 0 [.ref a, .int a0] [] h (fun x h2 => T (d + 1) 221 1258 ls (rl x [.long s0]) h2 Q) := T_virtualR (as := [.int a0]) (r := [.long s0]) m221 m204 c221_1255 k20_159  rfl (by decide) rfl (by simp [wrd, Value.category]) (by simp [stk, Value.category]) rfl (by decide +kernel) ho
theorem c221_1258 : cod 221 1258 = some (.lcmp, 1) := cod_of b221 dL_law_1258
theorem t221_1258 {d : Nat} {h : Hp} {Q : Pst} {x y : Int64} {ls : List Value} {st : List Value} : T d 221 1258 ls (.long y :: .long x :: st) h Q ↔ T d 221 1259 ls (.int (lg_cmp x y) :: st) h Q := T_lcmp c221_1258
theorem c221_1259 : cod 221 1259 = some (.ifCond .eq 111, 3) := cod_of b221 dL_law_1259
theorem t221_1259 {d : Nat} {h : Hp} {Q : Pst} {x : Int32} {ls : List Value} {st : List Value} : T d 221 1259 ls (.int x :: st) h Q ↔ (if x = 0 then T d 221 1370 ls st h Q else T d 221 1262 ls st h Q) := T_if_eq c221_1259 (by decide)
theorem c221_1262 : cod 221 1262 = some (.iconst 0, 1) := cod_of b221 dL_law_1262
theorem t221_1262 {d : Nat} {h : Hp} {Q : Pst} {ls : List Value} {st : List Value} : T d 221 1262 ls st h Q ↔ T d 221 1263 ls (.int 0 :: st) h Q := T_iconstV c221_1262 (by decide)
theorem c221_1263 : cod 221 1263 = some (.ireturn, 1) := cod_of b221 dL_law_1263
theorem t221_1263 {d : Nat} {h : Hp} {Q : Pst} {x : Int32} {ls : List Value} : T d 221 1263 ls [.int x] h Q ↔ (narrow .boolean (.int x) = .int x ∧ Q (some (.int x)) h) := T_zretR m221 c221_1263 rfl
theorem c221_1207 : cod 221 1207 = some (.aload_n 1, 1) := cod_of b221 dL_law_1207
theorem t221_1207 {d : Nat} {h : Hp} {Q : Pst} {l0 l2 l3 : Value} {x : Nat} {st : List Value} : T d 221 1207 [l0, .ref x, l2, l3] st h Q ↔ T d 221 1208 [l0, .ref x, l2, l3] (.ref x :: st) h Q := T_aload_n c221_1207 rfl
theorem c221_1208 : cod 221 1208 = some (.aload_n 0, 1) := cod_of b221 dL_law_1208
theorem t221_1208 {d : Nat} {h : Hp} {Q : Pst} {l1 l2 l3 : Value} {x : Nat} {st : List Value} : T d 221 1208 [.ref x, l1, l2, l3] st h Q ↔ T d 221 1209 [.ref x, l1, l2, l3] (.ref x :: st) h Q := T_aload_n c221_1208 rfl
theorem c221_1209 : cod 221 1209 = some (.iload_n 3, 1) := cod_of b221 dL_law_1209
theorem t221_1209 {d : Nat} {h : Hp} {Q : Pst} {l0 l1 l2 : Value} {x : Int32} {st : List Value} : T d 221 1209 [l0, l1, l2, .int x] st h Q ↔ T d 221 1210 [l0, l1, l2, .int x] (.int x :: st) h Q := T_iload_n c221_1209 rfl
theorem c221_1210 : cod 221 1210 = some (.iconst 1, 1) := cod_of b221 dL_law_1210
theorem t221_1210 {d : Nat} {h : Hp} {Q : Pst} {ls : List Value} {st : List Value} : T d 221 1210 ls st h Q ↔ T d 221 1211 ls (.int 1 :: st) h Q := T_iconstV c221_1210 (by decide)
theorem c221_1211 : cod 221 1211 = some (.iadd, 1) := cod_of b221 dL_law_1211
theorem t221_1211 {d : Nat} {h : Hp} {Q : Pst} {x y : Int32} {ls : List Value} {st : List Value} : T d 221 1211 ls (.int y :: .int x :: st) h Q ↔ T d 221 1212 ls (.int (x + y) :: st) h Q := T_iadd c221_1211
theorem c221_1212 : cod 221 1212 = some (.iaload, 1) := cod_of b221 dL_law_1212
theorem t221_1212 {d : Nat} {h : Hp} {Q : Pst} {a : Nat} {i : Int32} {ls : List Value} {st : List Value} : T d 221 1212 ls (.int i :: .ref a :: st) h Q ↔ aL (h.2.2 a) i (fun x => T d 221 1213 ls (.int x :: st) h Q) := T_iaload c221_1212
theorem c221_1213 : cod 221 1213 = some (.aload_n 0, 1) := cod_of b221 dL_law_1213
theorem t221_1213 {d : Nat} {h : Hp} {Q : Pst} {l1 l2 l3 : Value} {x : Nat} {st : List Value} : T d 221 1213 [.ref x, l1, l2, l3] st h Q ↔ T d 221 1214 [.ref x, l1, l2, l3] (.ref x :: st) h Q := T_aload_n c221_1213 rfl
theorem c221_1214 : cod 221 1214 = some (.iload_n 3, 1) := cod_of b221 dL_law_1214
theorem t221_1214 {d : Nat} {h : Hp} {Q : Pst} {l0 l1 l2 : Value} {x : Int32} {st : List Value} : T d 221 1214 [l0, l1, l2, .int x] st h Q ↔ T d 221 1215 [l0, l1, l2, .int x] (.int x :: st) h Q := T_iload_n c221_1214 rfl
theorem c221_1215 : cod 221 1215 = some (.iconst 2, 1) := cod_of b221 dL_law_1215
theorem t221_1215 {d : Nat} {h : Hp} {Q : Pst} {ls : List Value} {st : List Value} : T d 221 1215 ls st h Q ↔ T d 221 1216 ls (.int 2 :: st) h Q := T_iconstV c221_1215 (by decide)
theorem c221_1216 : cod 221 1216 = some (.iadd, 1) := cod_of b221 dL_law_1216
theorem t221_1216 {d : Nat} {h : Hp} {Q : Pst} {x y : Int32} {ls : List Value} {st : List Value} : T d 221 1216 ls (.int y :: .int x :: st) h Q ↔ T d 221 1217 ls (.int (x + y) :: st) h Q := T_iadd c221_1216
theorem c221_1217 : cod 221 1217 = some (.iaload, 1) := cod_of b221 dL_law_1217
theorem t221_1217 {d : Nat} {h : Hp} {Q : Pst} {a : Nat} {i : Int32} {ls : List Value} {st : List Value} : T d 221 1217 ls (.int i :: .ref a :: st) h Q ↔ aL (h.2.2 a) i (fun x => T d 221 1218 ls (.int x :: st) h Q) := T_iaload c221_1217
theorem c221_1218 : cod 221 1218 = some (.invokevirtual 151, 3) := cod_of b221 dL_law_1218
theorem t221_1218 {d : Nat} {h : Hp} {Q : Pst} {a0 a1 : Int32} {a : Nat} {ls : List Value} (ho : isO (h.2.2 a) 6) : T (d + 1) 221 1218 ls [.int a1, .int a0, .ref a] h Q ↔ T d 108 0 [.ref a, .int a0, .int a1, un, un, un, un, un] [] h (fun x h2 => T (d + 1) 221 1221 ls (rl x []) h2 Q) := T_virtualR (as := [.int a0, .int a1]) (r := []) m221 m108 c221_1218 k20_151  rfl (by decide) rfl (by simp [wrd, Value.category]) (by simp [stk, Value.category]) rfl (by decide +kernel) ho
theorem c221_1221 : cod 221 1221 = some (.aload_n 2, 1) := cod_of b221 dL_law_1221
theorem t221_1221 {d : Nat} {h : Hp} {Q : Pst} {l0 l1 l3 : Value} {x : Nat} {st : List Value} : T d 221 1221 [l0, l1, .ref x, l3] st h Q ↔ T d 221 1222 [l0, l1, .ref x, l3] (.ref x :: st) h Q := T_aload_n c221_1221 rfl
theorem c221_1222 : cod 221 1222 = some (.aload_n 0, 1) := cod_of b221 dL_law_1222
theorem t221_1222 {d : Nat} {h : Hp} {Q : Pst} {l1 l2 l3 : Value} {x : Nat} {st : List Value} : T d 221 1222 [.ref x, l1, l2, l3] st h Q ↔ T d 221 1223 [.ref x, l1, l2, l3] (.ref x :: st) h Q := T_aload_n c221_1222 rfl
theorem c221_1223 : cod 221 1223 = some (.iload_n 3, 1) := cod_of b221 dL_law_1223
theorem t221_1223 {d : Nat} {h : Hp} {Q : Pst} {l0 l1 l2 : Value} {x : Int32} {st : List Value} : T d 221 1223 [l0, l1, l2, .int x] st h Q ↔ T d 221 1224 [l0, l1, l2, .int x] (.int x :: st) h Q := T_iload_n c221_1223 rfl
theorem c221_1224 : cod 221 1224 = some (.iconst 1, 1) := cod_of b221 dL_law_1224
theorem t221_1224 {d : Nat} {h : Hp} {Q : Pst} {ls : List Value} {st : List Value} : T d 221 1224 ls st h Q ↔ T d 221 1225 ls (.int 1 :: st) h Q := T_iconstV c221_1224 (by decide)
theorem c221_1225 : cod 221 1225 = some (.iadd, 1) := cod_of b221 dL_law_1225
theorem t221_1225 {d : Nat} {h : Hp} {Q : Pst} {x y : Int32} {ls : List Value} {st : List Value} : T d 221 1225 ls (.int y :: .int x :: st) h Q ↔ T d 221 1226 ls (.int (x + y) :: st) h Q := T_iadd c221_1225
theorem c221_1226 : cod 221 1226 = some (.iaload, 1) := cod_of b221 dL_law_1226
theorem t221_1226 {d : Nat} {h : Hp} {Q : Pst} {a : Nat} {i : Int32} {ls : List Value} {st : List Value} : T d 221 1226 ls (.int i :: .ref a :: st) h Q ↔ aL (h.2.2 a) i (fun x => T d 221 1227 ls (.int x :: st) h Q) := T_iaload c221_1226
theorem c221_1227 : cod 221 1227 = some (.aload_n 0, 1) := cod_of b221 dL_law_1227
theorem t221_1227 {d : Nat} {h : Hp} {Q : Pst} {l1 l2 l3 : Value} {x : Nat} {st : List Value} : T d 221 1227 [.ref x, l1, l2, l3] st h Q ↔ T d 221 1228 [.ref x, l1, l2, l3] (.ref x :: st) h Q := T_aload_n c221_1227 rfl
theorem c221_1228 : cod 221 1228 = some (.iload_n 3, 1) := cod_of b221 dL_law_1228
theorem t221_1228 {d : Nat} {h : Hp} {Q : Pst} {l0 l1 l2 : Value} {x : Int32} {st : List Value} : T d 221 1228 [l0, l1, l2, .int x] st h Q ↔ T d 221 1229 [l0, l1, l2, .int x] (.int x :: st) h Q := T_iload_n c221_1228 rfl
theorem c221_1229 : cod 221 1229 = some (.iconst 2, 1) := cod_of b221 dL_law_1229
theorem t221_1229 {d : Nat} {h : Hp} {Q : Pst} {ls : List Value} {st : List Value} : T d 221 1229 ls st h Q ↔ T d 221 1230 ls (.int 2 :: st) h Q := T_iconstV c221_1229 (by decide)
theorem c221_1230 : cod 221 1230 = some (.iadd, 1) := cod_of b221 dL_law_1230
theorem t221_1230 {d : Nat} {h : Hp} {Q : Pst} {x y : Int32} {ls : List Value} {st : List Value} : T d 221 1230 ls (.int y :: .int x :: st) h Q ↔ T d 221 1231 ls (.int (x + y) :: st) h Q := T_iadd c221_1230
theorem c221_1231 : cod 221 1231 = some (.iaload, 1) := cod_of b221 dL_law_1231
theorem t221_1231 {d : Nat} {h : Hp} {Q : Pst} {a : Nat} {i : Int32} {ls : List Value} {st : List Value} : T d 221 1231 ls (.int i :: .ref a :: st) h Q ↔ aL (h.2.2 a) i (fun x => T d 221 1232 ls (.int x :: st) h Q) := T_iaload c221_1231
theorem c221_1232 : cod 221 1232 = some (.invokevirtual 154, 3) := cod_of b221 dL_law_1232
theorem t221_1232 {d : Nat} {h : Hp} {Q : Pst} {a0 a1 s0 : Int32} {a : Nat} {ls : List Value} (ho : isO (h.2.2 a) 7) : T (d + 1) 221 1232 ls [.int a1, .int a0, .ref a, .int s0] h Q ↔ T d 203 0 [.ref a, .int a0, .int a1, un, un, un, un, un] [] h (fun x h2 => T (d + 1) 221 1235 ls (rl x [.int s0]) h2 Q) := T_virtualR (as := [.int a0, .int a1]) (r := [.int s0]) m221 m203 c221_1232 k20_154  rfl (by decide) rfl (by simp [wrd, Value.category]) (by simp [stk, Value.category]) rfl (by decide +kernel) ho
theorem c221_1235 : cod 221 1235 = some (.if_icmp .eq 135, 3) := cod_of b221 dL_law_1235
theorem t221_1235 {d : Nat} {h : Hp} {Q : Pst} {x y : Int32} {ls : List Value} {st : List Value} : T d 221 1235 ls (.int y :: .int x :: st) h Q ↔ (if x = y then T d 221 1370 ls st h Q else T d 221 1238 ls st h Q) := T_icmp_eq c221_1235 (by decide)
theorem c221_1238 : cod 221 1238 = some (.iconst 0, 1) := cod_of b221 dL_law_1238
theorem t221_1238 {d : Nat} {h : Hp} {Q : Pst} {ls : List Value} {st : List Value} : T d 221 1238 ls st h Q ↔ T d 221 1239 ls (.int 0 :: st) h Q := T_iconstV c221_1238 (by decide)
theorem c221_1239 : cod 221 1239 = some (.ireturn, 1) := cod_of b221 dL_law_1239
theorem t221_1239 {d : Nat} {h : Hp} {Q : Pst} {x : Int32} {ls : List Value} : T d 221 1239 ls [.int x] h Q ↔ (narrow .boolean (.int x) = .int x ∧ Q (some (.int x)) h) := T_zretR m221 c221_1239 rfl
theorem c221_1174 : cod 221 1174 = some (.aload_n 1, 1) := cod_of b221 dL_law_1174
theorem t221_1174 {d : Nat} {h : Hp} {Q : Pst} {l0 l2 l3 : Value} {x : Nat} {st : List Value} : T d 221 1174 [l0, .ref x, l2, l3] st h Q ↔ T d 221 1175 [l0, .ref x, l2, l3] (.ref x :: st) h Q := T_aload_n c221_1174 rfl
theorem c221_1175 : cod 221 1175 = some (.aload_n 0, 1) := cod_of b221 dL_law_1175
theorem t221_1175 {d : Nat} {h : Hp} {Q : Pst} {l1 l2 l3 : Value} {x : Nat} {st : List Value} : T d 221 1175 [.ref x, l1, l2, l3] st h Q ↔ T d 221 1176 [.ref x, l1, l2, l3] (.ref x :: st) h Q := T_aload_n c221_1175 rfl
theorem c221_1176 : cod 221 1176 = some (.iload_n 3, 1) := cod_of b221 dL_law_1176
theorem t221_1176 {d : Nat} {h : Hp} {Q : Pst} {l0 l1 l2 : Value} {x : Int32} {st : List Value} : T d 221 1176 [l0, l1, l2, .int x] st h Q ↔ T d 221 1177 [l0, l1, l2, .int x] (.int x :: st) h Q := T_iload_n c221_1176 rfl
theorem c221_1177 : cod 221 1177 = some (.iconst 1, 1) := cod_of b221 dL_law_1177
theorem t221_1177 {d : Nat} {h : Hp} {Q : Pst} {ls : List Value} {st : List Value} : T d 221 1177 ls st h Q ↔ T d 221 1178 ls (.int 1 :: st) h Q := T_iconstV c221_1177 (by decide)
theorem c221_1178 : cod 221 1178 = some (.iadd, 1) := cod_of b221 dL_law_1178
theorem t221_1178 {d : Nat} {h : Hp} {Q : Pst} {x y : Int32} {ls : List Value} {st : List Value} : T d 221 1178 ls (.int y :: .int x :: st) h Q ↔ T d 221 1179 ls (.int (x + y) :: st) h Q := T_iadd c221_1178
theorem c221_1179 : cod 221 1179 = some (.iaload, 1) := cod_of b221 dL_law_1179
theorem t221_1179 {d : Nat} {h : Hp} {Q : Pst} {a : Nat} {i : Int32} {ls : List Value} {st : List Value} : T d 221 1179 ls (.int i :: .ref a :: st) h Q ↔ aL (h.2.2 a) i (fun x => T d 221 1180 ls (.int x :: st) h Q) := T_iaload c221_1179
theorem c221_1180 : cod 221 1180 = some (.aload_n 0, 1) := cod_of b221 dL_law_1180
theorem t221_1180 {d : Nat} {h : Hp} {Q : Pst} {l1 l2 l3 : Value} {x : Nat} {st : List Value} : T d 221 1180 [.ref x, l1, l2, l3] st h Q ↔ T d 221 1181 [.ref x, l1, l2, l3] (.ref x :: st) h Q := T_aload_n c221_1180 rfl
theorem c221_1181 : cod 221 1181 = some (.iload_n 3, 1) := cod_of b221 dL_law_1181
theorem t221_1181 {d : Nat} {h : Hp} {Q : Pst} {l0 l1 l2 : Value} {x : Int32} {st : List Value} : T d 221 1181 [l0, l1, l2, .int x] st h Q ↔ T d 221 1182 [l0, l1, l2, .int x] (.int x :: st) h Q := T_iload_n c221_1181 rfl
theorem c221_1182 : cod 221 1182 = some (.iconst 2, 1) := cod_of b221 dL_law_1182
theorem t221_1182 {d : Nat} {h : Hp} {Q : Pst} {ls : List Value} {st : List Value} : T d 221 1182 ls st h Q ↔ T d 221 1183 ls (.int 2 :: st) h Q := T_iconstV c221_1182 (by decide)
theorem c221_1183 : cod 221 1183 = some (.iadd, 1) := cod_of b221 dL_law_1183
theorem t221_1183 {d : Nat} {h : Hp} {Q : Pst} {x y : Int32} {ls : List Value} {st : List Value} : T d 221 1183 ls (.int y :: .int x :: st) h Q ↔ T d 221 1184 ls (.int (x + y) :: st) h Q := T_iadd c221_1183
theorem c221_1184 : cod 221 1184 = some (.iaload, 1) := cod_of b221 dL_law_1184
theorem t221_1184 {d : Nat} {h : Hp} {Q : Pst} {a : Nat} {i : Int32} {ls : List Value} {st : List Value} : T d 221 1184 ls (.int i :: .ref a :: st) h Q ↔ aL (h.2.2 a) i (fun x => T d 221 1185 ls (.int x :: st) h Q) := T_iaload c221_1184
theorem c221_1185 : cod 221 1185 = some (.invokevirtual 147, 3) := cod_of b221 dL_law_1185
theorem t221_1185 {d : Nat} {h : Hp} {Q : Pst} {a0 a1 : Int32} {a : Nat} {ls : List Value} (ho : isO (h.2.2 a) 6) : T (d + 1) 221 1185 ls [.int a1, .int a0, .ref a] h Q ↔ T d 107 0 [.ref a, .int a0, .int a1, un, un] [] h (fun x h2 => T (d + 1) 221 1188 ls (rl x []) h2 Q) := T_virtualR (as := [.int a0, .int a1]) (r := []) m221 m107 c221_1185 k20_147  rfl (by decide) rfl (by simp [wrd, Value.category]) (by simp [stk, Value.category]) rfl (by decide +kernel) ho
theorem c221_1188 : cod 221 1188 = some (.aload_n 2, 1) := cod_of b221 dL_law_1188
theorem t221_1188 {d : Nat} {h : Hp} {Q : Pst} {l0 l1 l3 : Value} {x : Nat} {st : List Value} : T d 221 1188 [l0, l1, .ref x, l3] st h Q ↔ T d 221 1189 [l0, l1, .ref x, l3] (.ref x :: st) h Q := T_aload_n c221_1188 rfl
theorem c221_1189 : cod 221 1189 = some (.aload_n 0, 1) := cod_of b221 dL_law_1189
theorem t221_1189 {d : Nat} {h : Hp} {Q : Pst} {l1 l2 l3 : Value} {x : Nat} {st : List Value} : T d 221 1189 [.ref x, l1, l2, l3] st h Q ↔ T d 221 1190 [.ref x, l1, l2, l3] (.ref x :: st) h Q := T_aload_n c221_1189 rfl
theorem c221_1190 : cod 221 1190 = some (.iload_n 3, 1) := cod_of b221 dL_law_1190
theorem t221_1190 {d : Nat} {h : Hp} {Q : Pst} {l0 l1 l2 : Value} {x : Int32} {st : List Value} : T d 221 1190 [l0, l1, l2, .int x] st h Q ↔ T d 221 1191 [l0, l1, l2, .int x] (.int x :: st) h Q := T_iload_n c221_1190 rfl
theorem c221_1191 : cod 221 1191 = some (.iconst 1, 1) := cod_of b221 dL_law_1191
theorem t221_1191 {d : Nat} {h : Hp} {Q : Pst} {ls : List Value} {st : List Value} : T d 221 1191 ls st h Q ↔ T d 221 1192 ls (.int 1 :: st) h Q := T_iconstV c221_1191 (by decide)
theorem c221_1192 : cod 221 1192 = some (.iadd, 1) := cod_of b221 dL_law_1192
theorem t221_1192 {d : Nat} {h : Hp} {Q : Pst} {x y : Int32} {ls : List Value} {st : List Value} : T d 221 1192 ls (.int y :: .int x :: st) h Q ↔ T d 221 1193 ls (.int (x + y) :: st) h Q := T_iadd c221_1192
theorem c221_1193 : cod 221 1193 = some (.iaload, 1) := cod_of b221 dL_law_1193
theorem t221_1193 {d : Nat} {h : Hp} {Q : Pst} {a : Nat} {i : Int32} {ls : List Value} {st : List Value} : T d 221 1193 ls (.int i :: .ref a :: st) h Q ↔ aL (h.2.2 a) i (fun x => T d 221 1194 ls (.int x :: st) h Q) := T_iaload c221_1193
theorem c221_1194 : cod 221 1194 = some (.aload_n 0, 1) := cod_of b221 dL_law_1194
theorem t221_1194 {d : Nat} {h : Hp} {Q : Pst} {l1 l2 l3 : Value} {x : Nat} {st : List Value} : T d 221 1194 [.ref x, l1, l2, l3] st h Q ↔ T d 221 1195 [.ref x, l1, l2, l3] (.ref x :: st) h Q := T_aload_n c221_1194 rfl
theorem c221_1195 : cod 221 1195 = some (.iload_n 3, 1) := cod_of b221 dL_law_1195
theorem t221_1195 {d : Nat} {h : Hp} {Q : Pst} {l0 l1 l2 : Value} {x : Int32} {st : List Value} : T d 221 1195 [l0, l1, l2, .int x] st h Q ↔ T d 221 1196 [l0, l1, l2, .int x] (.int x :: st) h Q := T_iload_n c221_1195 rfl
theorem c221_1196 : cod 221 1196 = some (.iconst 2, 1) := cod_of b221 dL_law_1196
theorem t221_1196 {d : Nat} {h : Hp} {Q : Pst} {ls : List Value} {st : List Value} : T d 221 1196 ls st h Q ↔ T d 221 1197 ls (.int 2 :: st) h Q := T_iconstV c221_1196 (by decide)
theorem c221_1197 : cod 221 1197 = some (.iadd, 1) := cod_of b221 dL_law_1197
theorem t221_1197 {d : Nat} {h : Hp} {Q : Pst} {x y : Int32} {ls : List Value} {st : List Value} : T d 221 1197 ls (.int y :: .int x :: st) h Q ↔ T d 221 1198 ls (.int (x + y) :: st) h Q := T_iadd c221_1197
theorem c221_1198 : cod 221 1198 = some (.iaload, 1) := cod_of b221 dL_law_1198
theorem t221_1198 {d : Nat} {h : Hp} {Q : Pst} {a : Nat} {i : Int32} {ls : List Value} {st : List Value} : T d 221 1198 ls (.int i :: .ref a :: st) h Q ↔ aL (h.2.2 a) i (fun x => T d 221 1199 ls (.int x :: st) h Q) := T_iaload c221_1198
theorem c221_1199 : cod 221 1199 = some (.invokevirtual 150, 3) := cod_of b221 dL_law_1199
theorem t221_1199 {d : Nat} {h : Hp} {Q : Pst} {a0 a1 s0 : Int32} {a : Nat} {ls : List Value} (ho : isO (h.2.2 a) 7) : T (d + 1) 221 1199 ls [.int a1, .int a0, .ref a, .int s0] h Q ↔ T d 202 0 [.ref a, .int a0, .int a1, un, un, un] [] h (fun x h2 => T (d + 1) 221 1202 ls (rl x [.int s0]) h2 Q) := T_virtualR (as := [.int a0, .int a1]) (r := [.int s0]) m221 m202 c221_1199 k20_150  rfl (by decide) rfl (by simp [wrd, Value.category]) (by simp [stk, Value.category]) rfl (by decide +kernel) ho
theorem c221_1202 : cod 221 1202 = some (.if_icmp .eq 168, 3) := cod_of b221 dL_law_1202
theorem t221_1202 {d : Nat} {h : Hp} {Q : Pst} {x y : Int32} {ls : List Value} {st : List Value} : T d 221 1202 ls (.int y :: .int x :: st) h Q ↔ (if x = y then T d 221 1370 ls st h Q else T d 221 1205 ls st h Q) := T_icmp_eq c221_1202 (by decide)
theorem c221_1205 : cod 221 1205 = some (.iconst 0, 1) := cod_of b221 dL_law_1205
theorem t221_1205 {d : Nat} {h : Hp} {Q : Pst} {ls : List Value} {st : List Value} : T d 221 1205 ls st h Q ↔ T d 221 1206 ls (.int 0 :: st) h Q := T_iconstV c221_1205 (by decide)
theorem c221_1206 : cod 221 1206 = some (.ireturn, 1) := cod_of b221 dL_law_1206
theorem t221_1206 {d : Nat} {h : Hp} {Q : Pst} {x : Int32} {ls : List Value} : T d 221 1206 ls [.int x] h Q ↔ (narrow .boolean (.int x) = .int x ∧ Q (some (.int x)) h) := T_zretR m221 c221_1206 rfl
theorem c221_1121 : cod 221 1121 = some (.aload_n 1, 1) := cod_of b221 dL_law_1121
theorem t221_1121 {d : Nat} {h : Hp} {Q : Pst} {l0 l2 l3 : Value} {x : Nat} {st : List Value} : T d 221 1121 [l0, .ref x, l2, l3] st h Q ↔ T d 221 1122 [l0, .ref x, l2, l3] (.ref x :: st) h Q := T_aload_n c221_1121 rfl
theorem c221_1122 : cod 221 1122 = some (.aload_n 0, 1) := cod_of b221 dL_law_1122
theorem t221_1122 {d : Nat} {h : Hp} {Q : Pst} {l1 l2 l3 : Value} {x : Nat} {st : List Value} : T d 221 1122 [.ref x, l1, l2, l3] st h Q ↔ T d 221 1123 [.ref x, l1, l2, l3] (.ref x :: st) h Q := T_aload_n c221_1122 rfl
theorem c221_1123 : cod 221 1123 = some (.iload_n 3, 1) := cod_of b221 dL_law_1123
theorem t221_1123 {d : Nat} {h : Hp} {Q : Pst} {l0 l1 l2 : Value} {x : Int32} {st : List Value} : T d 221 1123 [l0, l1, l2, .int x] st h Q ↔ T d 221 1124 [l0, l1, l2, .int x] (.int x :: st) h Q := T_iload_n c221_1123 rfl
theorem c221_1124 : cod 221 1124 = some (.iconst 1, 1) := cod_of b221 dL_law_1124
theorem t221_1124 {d : Nat} {h : Hp} {Q : Pst} {ls : List Value} {st : List Value} : T d 221 1124 ls st h Q ↔ T d 221 1125 ls (.int 1 :: st) h Q := T_iconstV c221_1124 (by decide)
theorem c221_1125 : cod 221 1125 = some (.iadd, 1) := cod_of b221 dL_law_1125
theorem t221_1125 {d : Nat} {h : Hp} {Q : Pst} {x y : Int32} {ls : List Value} {st : List Value} : T d 221 1125 ls (.int y :: .int x :: st) h Q ↔ T d 221 1126 ls (.int (x + y) :: st) h Q := T_iadd c221_1125
theorem c221_1126 : cod 221 1126 = some (.iaload, 1) := cod_of b221 dL_law_1126
theorem t221_1126 {d : Nat} {h : Hp} {Q : Pst} {a : Nat} {i : Int32} {ls : List Value} {st : List Value} : T d 221 1126 ls (.int i :: .ref a :: st) h Q ↔ aL (h.2.2 a) i (fun x => T d 221 1127 ls (.int x :: st) h Q) := T_iaload c221_1126
theorem c221_1127 : cod 221 1127 = some (.aload_n 0, 1) := cod_of b221 dL_law_1127
theorem t221_1127 {d : Nat} {h : Hp} {Q : Pst} {l1 l2 l3 : Value} {x : Nat} {st : List Value} : T d 221 1127 [.ref x, l1, l2, l3] st h Q ↔ T d 221 1128 [.ref x, l1, l2, l3] (.ref x :: st) h Q := T_aload_n c221_1127 rfl
theorem c221_1128 : cod 221 1128 = some (.iload_n 3, 1) := cod_of b221 dL_law_1128
theorem t221_1128 {d : Nat} {h : Hp} {Q : Pst} {l0 l1 l2 : Value} {x : Int32} {st : List Value} : T d 221 1128 [l0, l1, l2, .int x] st h Q ↔ T d 221 1129 [l0, l1, l2, .int x] (.int x :: st) h Q := T_iload_n c221_1128 rfl
theorem c221_1129 : cod 221 1129 = some (.iconst 2, 1) := cod_of b221 dL_law_1129
theorem t221_1129 {d : Nat} {h : Hp} {Q : Pst} {ls : List Value} {st : List Value} : T d 221 1129 ls st h Q ↔ T d 221 1130 ls (.int 2 :: st) h Q := T_iconstV c221_1129 (by decide)
theorem c221_1130 : cod 221 1130 = some (.iadd, 1) := cod_of b221 dL_law_1130
theorem t221_1130 {d : Nat} {h : Hp} {Q : Pst} {x y : Int32} {ls : List Value} {st : List Value} : T d 221 1130 ls (.int y :: .int x :: st) h Q ↔ T d 221 1131 ls (.int (x + y) :: st) h Q := T_iadd c221_1130
theorem c221_1131 : cod 221 1131 = some (.iaload, 1) := cod_of b221 dL_law_1131
theorem t221_1131 {d : Nat} {h : Hp} {Q : Pst} {a : Nat} {i : Int32} {ls : List Value} {st : List Value} : T d 221 1131 ls (.int i :: .ref a :: st) h Q ↔ aL (h.2.2 a) i (fun x => T d 221 1132 ls (.int x :: st) h Q) := T_iaload c221_1131
theorem c221_1132 : cod 221 1132 = some (.aload_n 0, 1) := cod_of b221 dL_law_1132
theorem t221_1132 {d : Nat} {h : Hp} {Q : Pst} {l1 l2 l3 : Value} {x : Nat} {st : List Value} : T d 221 1132 [.ref x, l1, l2, l3] st h Q ↔ T d 221 1133 [.ref x, l1, l2, l3] (.ref x :: st) h Q := T_aload_n c221_1132 rfl
theorem c221_1133 : cod 221 1133 = some (.iload_n 3, 1) := cod_of b221 dL_law_1133
theorem t221_1133 {d : Nat} {h : Hp} {Q : Pst} {l0 l1 l2 : Value} {x : Int32} {st : List Value} : T d 221 1133 [l0, l1, l2, .int x] st h Q ↔ T d 221 1134 [l0, l1, l2, .int x] (.int x :: st) h Q := T_iload_n c221_1133 rfl
theorem c221_1134 : cod 221 1134 = some (.iconst 3, 1) := cod_of b221 dL_law_1134
theorem t221_1134 {d : Nat} {h : Hp} {Q : Pst} {ls : List Value} {st : List Value} : T d 221 1134 ls st h Q ↔ T d 221 1135 ls (.int 3 :: st) h Q := T_iconstV c221_1134 (by decide)
theorem c221_1135 : cod 221 1135 = some (.iadd, 1) := cod_of b221 dL_law_1135
theorem t221_1135 {d : Nat} {h : Hp} {Q : Pst} {x y : Int32} {ls : List Value} {st : List Value} : T d 221 1135 ls (.int y :: .int x :: st) h Q ↔ T d 221 1136 ls (.int (x + y) :: st) h Q := T_iadd c221_1135
theorem c221_1136 : cod 221 1136 = some (.iaload, 1) := cod_of b221 dL_law_1136
theorem t221_1136 {d : Nat} {h : Hp} {Q : Pst} {a : Nat} {i : Int32} {ls : List Value} {st : List Value} : T d 221 1136 ls (.int i :: .ref a :: st) h Q ↔ aL (h.2.2 a) i (fun x => T d 221 1137 ls (.int x :: st) h Q) := T_iaload c221_1136
theorem c221_1137 : cod 221 1137 = some (.aload_n 0, 1) := cod_of b221 dL_law_1137
theorem t221_1137 {d : Nat} {h : Hp} {Q : Pst} {l1 l2 l3 : Value} {x : Nat} {st : List Value} : T d 221 1137 [.ref x, l1, l2, l3] st h Q ↔ T d 221 1138 [.ref x, l1, l2, l3] (.ref x :: st) h Q := T_aload_n c221_1137 rfl
theorem c221_1138 : cod 221 1138 = some (.iload_n 3, 1) := cod_of b221 dL_law_1138
theorem t221_1138 {d : Nat} {h : Hp} {Q : Pst} {l0 l1 l2 : Value} {x : Int32} {st : List Value} : T d 221 1138 [l0, l1, l2, .int x] st h Q ↔ T d 221 1139 [l0, l1, l2, .int x] (.int x :: st) h Q := T_iload_n c221_1138 rfl
theorem c221_1139 : cod 221 1139 = some (.iconst 4, 1) := cod_of b221 dL_law_1139
theorem t221_1139 {d : Nat} {h : Hp} {Q : Pst} {ls : List Value} {st : List Value} : T d 221 1139 ls st h Q ↔ T d 221 1140 ls (.int 4 :: st) h Q := T_iconstV c221_1139 (by decide)
theorem c221_1140 : cod 221 1140 = some (.iadd, 1) := cod_of b221 dL_law_1140
theorem t221_1140 {d : Nat} {h : Hp} {Q : Pst} {x y : Int32} {ls : List Value} {st : List Value} : T d 221 1140 ls (.int y :: .int x :: st) h Q ↔ T d 221 1141 ls (.int (x + y) :: st) h Q := T_iadd c221_1140
theorem c221_1141 : cod 221 1141 = some (.iaload, 1) := cod_of b221 dL_law_1141
theorem t221_1141 {d : Nat} {h : Hp} {Q : Pst} {a : Nat} {i : Int32} {ls : List Value} {st : List Value} : T d 221 1141 ls (.int i :: .ref a :: st) h Q ↔ aL (h.2.2 a) i (fun x => T d 221 1142 ls (.int x :: st) h Q) := T_iaload c221_1141
theorem c221_1142 : cod 221 1142 = some (.invokevirtual 143, 3) := cod_of b221 dL_law_1142
theorem t221_1142 {d : Nat} {h : Hp} {Q : Pst} {a0 a1 a2 a3 : Int32} {a : Nat} {ls : List Value} (ho : isO (h.2.2 a) 6) : T (d + 1) 221 1142 ls [.int a3, .int a2, .int a1, .int a0, .ref a] h Q ↔ T d 106 0 [.ref a, .int a0, .int a1, .int a2, .int a3] [] h (fun x h2 => T (d + 1) 221 1145 ls (rl x []) h2 Q) := T_virtualR (as := [.int a0, .int a1, .int a2, .int a3]) (r := []) m221 m106 c221_1142 k20_143  rfl (by decide) rfl (by simp [wrd, Value.category]) (by simp [stk, Value.category]) rfl (by decide +kernel) ho
theorem c221_1145 : cod 221 1145 = some (.aload_n 2, 1) := cod_of b221 dL_law_1145
theorem t221_1145 {d : Nat} {h : Hp} {Q : Pst} {l0 l1 l3 : Value} {x : Nat} {st : List Value} : T d 221 1145 [l0, l1, .ref x, l3] st h Q ↔ T d 221 1146 [l0, l1, .ref x, l3] (.ref x :: st) h Q := T_aload_n c221_1145 rfl
theorem c221_1146 : cod 221 1146 = some (.aload_n 0, 1) := cod_of b221 dL_law_1146
theorem t221_1146 {d : Nat} {h : Hp} {Q : Pst} {l1 l2 l3 : Value} {x : Nat} {st : List Value} : T d 221 1146 [.ref x, l1, l2, l3] st h Q ↔ T d 221 1147 [.ref x, l1, l2, l3] (.ref x :: st) h Q := T_aload_n c221_1146 rfl
theorem c221_1147 : cod 221 1147 = some (.iload_n 3, 1) := cod_of b221 dL_law_1147
theorem t221_1147 {d : Nat} {h : Hp} {Q : Pst} {l0 l1 l2 : Value} {x : Int32} {st : List Value} : T d 221 1147 [l0, l1, l2, .int x] st h Q ↔ T d 221 1148 [l0, l1, l2, .int x] (.int x :: st) h Q := T_iload_n c221_1147 rfl
theorem c221_1148 : cod 221 1148 = some (.iconst 1, 1) := cod_of b221 dL_law_1148
theorem t221_1148 {d : Nat} {h : Hp} {Q : Pst} {ls : List Value} {st : List Value} : T d 221 1148 ls st h Q ↔ T d 221 1149 ls (.int 1 :: st) h Q := T_iconstV c221_1148 (by decide)
theorem c221_1149 : cod 221 1149 = some (.iadd, 1) := cod_of b221 dL_law_1149
theorem t221_1149 {d : Nat} {h : Hp} {Q : Pst} {x y : Int32} {ls : List Value} {st : List Value} : T d 221 1149 ls (.int y :: .int x :: st) h Q ↔ T d 221 1150 ls (.int (x + y) :: st) h Q := T_iadd c221_1149
theorem c221_1150 : cod 221 1150 = some (.iaload, 1) := cod_of b221 dL_law_1150
theorem t221_1150 {d : Nat} {h : Hp} {Q : Pst} {a : Nat} {i : Int32} {ls : List Value} {st : List Value} : T d 221 1150 ls (.int i :: .ref a :: st) h Q ↔ aL (h.2.2 a) i (fun x => T d 221 1151 ls (.int x :: st) h Q) := T_iaload c221_1150
theorem c221_1151 : cod 221 1151 = some (.aload_n 0, 1) := cod_of b221 dL_law_1151
theorem t221_1151 {d : Nat} {h : Hp} {Q : Pst} {l1 l2 l3 : Value} {x : Nat} {st : List Value} : T d 221 1151 [.ref x, l1, l2, l3] st h Q ↔ T d 221 1152 [.ref x, l1, l2, l3] (.ref x :: st) h Q := T_aload_n c221_1151 rfl
theorem c221_1152 : cod 221 1152 = some (.iload_n 3, 1) := cod_of b221 dL_law_1152
theorem t221_1152 {d : Nat} {h : Hp} {Q : Pst} {l0 l1 l2 : Value} {x : Int32} {st : List Value} : T d 221 1152 [l0, l1, l2, .int x] st h Q ↔ T d 221 1153 [l0, l1, l2, .int x] (.int x :: st) h Q := T_iload_n c221_1152 rfl
theorem c221_1153 : cod 221 1153 = some (.iconst 2, 1) := cod_of b221 dL_law_1153
theorem t221_1153 {d : Nat} {h : Hp} {Q : Pst} {ls : List Value} {st : List Value} : T d 221 1153 ls st h Q ↔ T d 221 1154 ls (.int 2 :: st) h Q := T_iconstV c221_1153 (by decide)
theorem c221_1154 : cod 221 1154 = some (.iadd, 1) := cod_of b221 dL_law_1154
theorem t221_1154 {d : Nat} {h : Hp} {Q : Pst} {x y : Int32} {ls : List Value} {st : List Value} : T d 221 1154 ls (.int y :: .int x :: st) h Q ↔ T d 221 1155 ls (.int (x + y) :: st) h Q := T_iadd c221_1154
theorem c221_1155 : cod 221 1155 = some (.iaload, 1) := cod_of b221 dL_law_1155
theorem t221_1155 {d : Nat} {h : Hp} {Q : Pst} {a : Nat} {i : Int32} {ls : List Value} {st : List Value} : T d 221 1155 ls (.int i :: .ref a :: st) h Q ↔ aL (h.2.2 a) i (fun x => T d 221 1156 ls (.int x :: st) h Q) := T_iaload c221_1155
theorem c221_1156 : cod 221 1156 = some (.aload_n 0, 1) := cod_of b221 dL_law_1156
theorem t221_1156 {d : Nat} {h : Hp} {Q : Pst} {l1 l2 l3 : Value} {x : Nat} {st : List Value} : T d 221 1156 [.ref x, l1, l2, l3] st h Q ↔ T d 221 1157 [.ref x, l1, l2, l3] (.ref x :: st) h Q := T_aload_n c221_1156 rfl
theorem c221_1157 : cod 221 1157 = some (.iload_n 3, 1) := cod_of b221 dL_law_1157
theorem t221_1157 {d : Nat} {h : Hp} {Q : Pst} {l0 l1 l2 : Value} {x : Int32} {st : List Value} : T d 221 1157 [l0, l1, l2, .int x] st h Q ↔ T d 221 1158 [l0, l1, l2, .int x] (.int x :: st) h Q := T_iload_n c221_1157 rfl
theorem c221_1158 : cod 221 1158 = some (.iconst 3, 1) := cod_of b221 dL_law_1158
theorem t221_1158 {d : Nat} {h : Hp} {Q : Pst} {ls : List Value} {st : List Value} : T d 221 1158 ls st h Q ↔ T d 221 1159 ls (.int 3 :: st) h Q := T_iconstV c221_1158 (by decide)
theorem c221_1159 : cod 221 1159 = some (.iadd, 1) := cod_of b221 dL_law_1159
theorem t221_1159 {d : Nat} {h : Hp} {Q : Pst} {x y : Int32} {ls : List Value} {st : List Value} : T d 221 1159 ls (.int y :: .int x :: st) h Q ↔ T d 221 1160 ls (.int (x + y) :: st) h Q := T_iadd c221_1159
theorem c221_1160 : cod 221 1160 = some (.iaload, 1) := cod_of b221 dL_law_1160
theorem t221_1160 {d : Nat} {h : Hp} {Q : Pst} {a : Nat} {i : Int32} {ls : List Value} {st : List Value} : T d 221 1160 ls (.int i :: .ref a :: st) h Q ↔ aL (h.2.2 a) i (fun x => T d 221 1161 ls (.int x :: st) h Q) := T_iaload c221_1160
theorem c221_1161 : cod 221 1161 = some (.aload_n 0, 1) := cod_of b221 dL_law_1161
theorem t221_1161 {d : Nat} {h : Hp} {Q : Pst} {l1 l2 l3 : Value} {x : Nat} {st : List Value} : T d 221 1161 [.ref x, l1, l2, l3] st h Q ↔ T d 221 1162 [.ref x, l1, l2, l3] (.ref x :: st) h Q := T_aload_n c221_1161 rfl
theorem c221_1162 : cod 221 1162 = some (.iload_n 3, 1) := cod_of b221 dL_law_1162
theorem t221_1162 {d : Nat} {h : Hp} {Q : Pst} {l0 l1 l2 : Value} {x : Int32} {st : List Value} : T d 221 1162 [l0, l1, l2, .int x] st h Q ↔ T d 221 1163 [l0, l1, l2, .int x] (.int x :: st) h Q := T_iload_n c221_1162 rfl
theorem c221_1163 : cod 221 1163 = some (.iconst 4, 1) := cod_of b221 dL_law_1163
theorem t221_1163 {d : Nat} {h : Hp} {Q : Pst} {ls : List Value} {st : List Value} : T d 221 1163 ls st h Q ↔ T d 221 1164 ls (.int 4 :: st) h Q := T_iconstV c221_1163 (by decide)
theorem c221_1164 : cod 221 1164 = some (.iadd, 1) := cod_of b221 dL_law_1164
theorem t221_1164 {d : Nat} {h : Hp} {Q : Pst} {x y : Int32} {ls : List Value} {st : List Value} : T d 221 1164 ls (.int y :: .int x :: st) h Q ↔ T d 221 1165 ls (.int (x + y) :: st) h Q := T_iadd c221_1164
theorem c221_1165 : cod 221 1165 = some (.iaload, 1) := cod_of b221 dL_law_1165
theorem t221_1165 {d : Nat} {h : Hp} {Q : Pst} {a : Nat} {i : Int32} {ls : List Value} {st : List Value} : T d 221 1165 ls (.int i :: .ref a :: st) h Q ↔ aL (h.2.2 a) i (fun x => T d 221 1166 ls (.int x :: st) h Q) := T_iaload c221_1165
theorem c221_1166 : cod 221 1166 = some (.invokevirtual 146, 3) := cod_of b221 dL_law_1166
theorem t221_1166 {d : Nat} {h : Hp} {Q : Pst} {a0 a1 a2 a3 s0 : Int32} {a : Nat} {ls : List Value} (ho : isO (h.2.2 a) 7) : T (d + 1) 221 1166 ls [.int a3, .int a2, .int a1, .int a0, .ref a, .int s0] h Q ↔ T d 200 0 [.ref a, .int a0, .int a1, .int a2, .int a3, un, un, un] [] h (fun x h2 => T (d + 1) 221 1169 ls (rl x [.int s0]) h2 Q) := T_virtualR (as := [.int a0, .int a1, .int a2, .int a3]) (r := [.int s0]) m221 m200 c221_1166 k20_146  rfl (by decide) rfl (by simp [wrd, Value.category]) (by simp [stk, Value.category]) rfl (by decide +kernel) ho
theorem c221_1169 : cod 221 1169 = some (.if_icmp .eq 201, 3) := cod_of b221 dL_law_1169
theorem t221_1169 {d : Nat} {h : Hp} {Q : Pst} {x y : Int32} {ls : List Value} {st : List Value} : T d 221 1169 ls (.int y :: .int x :: st) h Q ↔ (if x = y then T d 221 1370 ls st h Q else T d 221 1172 ls st h Q) := T_icmp_eq c221_1169 (by decide)
theorem c221_1172 : cod 221 1172 = some (.iconst 0, 1) := cod_of b221 dL_law_1172
theorem t221_1172 {d : Nat} {h : Hp} {Q : Pst} {ls : List Value} {st : List Value} : T d 221 1172 ls st h Q ↔ T d 221 1173 ls (.int 0 :: st) h Q := T_iconstV c221_1172 (by decide)
theorem c221_1173 : cod 221 1173 = some (.ireturn, 1) := cod_of b221 dL_law_1173
theorem t221_1173 {d : Nat} {h : Hp} {Q : Pst} {x : Int32} {ls : List Value} : T d 221 1173 ls [.int x] h Q ↔ (narrow .boolean (.int x) = .int x ∧ Q (some (.int x)) h) := T_zretR m221 c221_1173 rfl
theorem c221_1098 : cod 221 1098 = some (.aload_n 1, 1) := cod_of b221 dL_law_1098
theorem t221_1098 {d : Nat} {h : Hp} {Q : Pst} {l0 l2 l3 : Value} {x : Nat} {st : List Value} : T d 221 1098 [l0, .ref x, l2, l3] st h Q ↔ T d 221 1099 [l0, .ref x, l2, l3] (.ref x :: st) h Q := T_aload_n c221_1098 rfl
theorem c221_1099 : cod 221 1099 = some (.aload_n 0, 1) := cod_of b221 dL_law_1099
theorem t221_1099 {d : Nat} {h : Hp} {Q : Pst} {l1 l2 l3 : Value} {x : Nat} {st : List Value} : T d 221 1099 [.ref x, l1, l2, l3] st h Q ↔ T d 221 1100 [.ref x, l1, l2, l3] (.ref x :: st) h Q := T_aload_n c221_1099 rfl
theorem c221_1100 : cod 221 1100 = some (.iload_n 3, 1) := cod_of b221 dL_law_1100
theorem t221_1100 {d : Nat} {h : Hp} {Q : Pst} {l0 l1 l2 : Value} {x : Int32} {st : List Value} : T d 221 1100 [l0, l1, l2, .int x] st h Q ↔ T d 221 1101 [l0, l1, l2, .int x] (.int x :: st) h Q := T_iload_n c221_1100 rfl
theorem c221_1101 : cod 221 1101 = some (.iconst 1, 1) := cod_of b221 dL_law_1101
theorem t221_1101 {d : Nat} {h : Hp} {Q : Pst} {ls : List Value} {st : List Value} : T d 221 1101 ls st h Q ↔ T d 221 1102 ls (.int 1 :: st) h Q := T_iconstV c221_1101 (by decide)
theorem c221_1102 : cod 221 1102 = some (.iadd, 1) := cod_of b221 dL_law_1102
theorem t221_1102 {d : Nat} {h : Hp} {Q : Pst} {x y : Int32} {ls : List Value} {st : List Value} : T d 221 1102 ls (.int y :: .int x :: st) h Q ↔ T d 221 1103 ls (.int (x + y) :: st) h Q := T_iadd c221_1102
theorem c221_1103 : cod 221 1103 = some (.iaload, 1) := cod_of b221 dL_law_1103
theorem t221_1103 {d : Nat} {h : Hp} {Q : Pst} {a : Nat} {i : Int32} {ls : List Value} {st : List Value} : T d 221 1103 ls (.int i :: .ref a :: st) h Q ↔ aL (h.2.2 a) i (fun x => T d 221 1104 ls (.int x :: st) h Q) := T_iaload c221_1103
theorem c221_1104 : cod 221 1104 = some (.invokevirtual 139, 3) := cod_of b221 dL_law_1104
theorem t221_1104 {d : Nat} {h : Hp} {Q : Pst} {a0 : Int32} {a : Nat} {ls : List Value} (ho : isO (h.2.2 a) 6) : T (d + 1) 221 1104 ls [.int a0, .ref a] h Q ↔ T d 105 0 [.ref a, .int a0] [] h (fun x h2 => T (d + 1) 221 1107 ls (rl x []) h2 Q) := T_virtualR (as := [.int a0]) (r := []) m221 m105 c221_1104 k20_139  rfl (by decide) rfl (by simp [wrd, Value.category]) (by simp [stk, Value.category]) rfl (by decide +kernel) ho
theorem c221_1107 : cod 221 1107 = some (.aload_n 2, 1) := cod_of b221 dL_law_1107
theorem t221_1107 {d : Nat} {h : Hp} {Q : Pst} {l0 l1 l3 : Value} {x : Nat} {st : List Value} : T d 221 1107 [l0, l1, .ref x, l3] st h Q ↔ T d 221 1108 [l0, l1, .ref x, l3] (.ref x :: st) h Q := T_aload_n c221_1107 rfl
theorem c221_1108 : cod 221 1108 = some (.aload_n 0, 1) := cod_of b221 dL_law_1108
theorem t221_1108 {d : Nat} {h : Hp} {Q : Pst} {l1 l2 l3 : Value} {x : Nat} {st : List Value} : T d 221 1108 [.ref x, l1, l2, l3] st h Q ↔ T d 221 1109 [.ref x, l1, l2, l3] (.ref x :: st) h Q := T_aload_n c221_1108 rfl
theorem c221_1109 : cod 221 1109 = some (.iload_n 3, 1) := cod_of b221 dL_law_1109
theorem t221_1109 {d : Nat} {h : Hp} {Q : Pst} {l0 l1 l2 : Value} {x : Int32} {st : List Value} : T d 221 1109 [l0, l1, l2, .int x] st h Q ↔ T d 221 1110 [l0, l1, l2, .int x] (.int x :: st) h Q := T_iload_n c221_1109 rfl
theorem c221_1110 : cod 221 1110 = some (.iconst 1, 1) := cod_of b221 dL_law_1110
theorem t221_1110 {d : Nat} {h : Hp} {Q : Pst} {ls : List Value} {st : List Value} : T d 221 1110 ls st h Q ↔ T d 221 1111 ls (.int 1 :: st) h Q := T_iconstV c221_1110 (by decide)
theorem c221_1111 : cod 221 1111 = some (.iadd, 1) := cod_of b221 dL_law_1111
theorem t221_1111 {d : Nat} {h : Hp} {Q : Pst} {x y : Int32} {ls : List Value} {st : List Value} : T d 221 1111 ls (.int y :: .int x :: st) h Q ↔ T d 221 1112 ls (.int (x + y) :: st) h Q := T_iadd c221_1111
theorem c221_1112 : cod 221 1112 = some (.iaload, 1) := cod_of b221 dL_law_1112
theorem t221_1112 {d : Nat} {h : Hp} {Q : Pst} {a : Nat} {i : Int32} {ls : List Value} {st : List Value} : T d 221 1112 ls (.int i :: .ref a :: st) h Q ↔ aL (h.2.2 a) i (fun x => T d 221 1113 ls (.int x :: st) h Q) := T_iaload c221_1112
theorem c221_1113 : cod 221 1113 = some (.invokevirtual 142, 3) := cod_of b221 dL_law_1113
theorem t221_1113 {d : Nat} {h : Hp} {Q : Pst} {a0 s0 : Int32} {a : Nat} {ls : List Value} (ho : isO (h.2.2 a) 7) : T (d + 1) 221 1113 ls [.int a0, .ref a, .int s0] h Q ↔ T d 197 0 [.ref a, .int a0, un, un, un, un, un, un, un] [] h (fun x h2 => T (d + 1) 221 1116 ls (rl x [.int s0]) h2 Q) := T_virtualR (as := [.int a0]) (r := [.int s0]) m221 m197 c221_1113 k20_142  rfl (by decide) rfl (by simp [wrd, Value.category]) (by simp [stk, Value.category]) rfl (by decide +kernel) ho
theorem c221_1116 : cod 221 1116 = some (.if_icmp .eq 254, 3) := cod_of b221 dL_law_1116
theorem t221_1116 {d : Nat} {h : Hp} {Q : Pst} {x y : Int32} {ls : List Value} {st : List Value} : T d 221 1116 ls (.int y :: .int x :: st) h Q ↔ (if x = y then T d 221 1370 ls st h Q else T d 221 1119 ls st h Q) := T_icmp_eq c221_1116 (by decide)
theorem c221_1119 : cod 221 1119 = some (.iconst 0, 1) := cod_of b221 dL_law_1119
theorem t221_1119 {d : Nat} {h : Hp} {Q : Pst} {ls : List Value} {st : List Value} : T d 221 1119 ls st h Q ↔ T d 221 1120 ls (.int 0 :: st) h Q := T_iconstV c221_1119 (by decide)
theorem c221_1120 : cod 221 1120 = some (.ireturn, 1) := cod_of b221 dL_law_1120
theorem t221_1120 {d : Nat} {h : Hp} {Q : Pst} {x : Int32} {ls : List Value} : T d 221 1120 ls [.int x] h Q ↔ (narrow .boolean (.int x) = .int x ∧ Q (some (.int x)) h) := T_zretR m221 c221_1120 rfl
theorem c221_1075 : cod 221 1075 = some (.aload_n 1, 1) := cod_of b221 dL_law_1075
theorem t221_1075 {d : Nat} {h : Hp} {Q : Pst} {l0 l2 l3 : Value} {x : Nat} {st : List Value} : T d 221 1075 [l0, .ref x, l2, l3] st h Q ↔ T d 221 1076 [l0, .ref x, l2, l3] (.ref x :: st) h Q := T_aload_n c221_1075 rfl
theorem c221_1076 : cod 221 1076 = some (.aload_n 0, 1) := cod_of b221 dL_law_1076
theorem t221_1076 {d : Nat} {h : Hp} {Q : Pst} {l1 l2 l3 : Value} {x : Nat} {st : List Value} : T d 221 1076 [.ref x, l1, l2, l3] st h Q ↔ T d 221 1077 [.ref x, l1, l2, l3] (.ref x :: st) h Q := T_aload_n c221_1076 rfl
theorem c221_1077 : cod 221 1077 = some (.iload_n 3, 1) := cod_of b221 dL_law_1077
theorem t221_1077 {d : Nat} {h : Hp} {Q : Pst} {l0 l1 l2 : Value} {x : Int32} {st : List Value} : T d 221 1077 [l0, l1, l2, .int x] st h Q ↔ T d 221 1078 [l0, l1, l2, .int x] (.int x :: st) h Q := T_iload_n c221_1077 rfl
theorem c221_1078 : cod 221 1078 = some (.iconst 1, 1) := cod_of b221 dL_law_1078
theorem t221_1078 {d : Nat} {h : Hp} {Q : Pst} {ls : List Value} {st : List Value} : T d 221 1078 ls st h Q ↔ T d 221 1079 ls (.int 1 :: st) h Q := T_iconstV c221_1078 (by decide)
theorem c221_1079 : cod 221 1079 = some (.iadd, 1) := cod_of b221 dL_law_1079
theorem t221_1079 {d : Nat} {h : Hp} {Q : Pst} {x y : Int32} {ls : List Value} {st : List Value} : T d 221 1079 ls (.int y :: .int x :: st) h Q ↔ T d 221 1080 ls (.int (x + y) :: st) h Q := T_iadd c221_1079
theorem c221_1080 : cod 221 1080 = some (.iaload, 1) := cod_of b221 dL_law_1080
theorem t221_1080 {d : Nat} {h : Hp} {Q : Pst} {a : Nat} {i : Int32} {ls : List Value} {st : List Value} : T d 221 1080 ls (.int i :: .ref a :: st) h Q ↔ aL (h.2.2 a) i (fun x => T d 221 1081 ls (.int x :: st) h Q) := T_iaload c221_1080
theorem c221_1081 : cod 221 1081 = some (.invokevirtual 135, 3) := cod_of b221 dL_law_1081
theorem t221_1081 {d : Nat} {h : Hp} {Q : Pst} {a0 : Int32} {a : Nat} {ls : List Value} (ho : isO (h.2.2 a) 6) : T (d + 1) 221 1081 ls [.int a0, .ref a] h Q ↔ T d 104 0 [.ref a, .int a0] [] h (fun x h2 => T (d + 1) 221 1084 ls (rl x []) h2 Q) := T_virtualR (as := [.int a0]) (r := []) m221 m104 c221_1081 k20_135  rfl (by decide) rfl (by simp [wrd, Value.category]) (by simp [stk, Value.category]) rfl (by decide +kernel) ho
theorem c221_1084 : cod 221 1084 = some (.aload_n 2, 1) := cod_of b221 dL_law_1084
theorem t221_1084 {d : Nat} {h : Hp} {Q : Pst} {l0 l1 l3 : Value} {x : Nat} {st : List Value} : T d 221 1084 [l0, l1, .ref x, l3] st h Q ↔ T d 221 1085 [l0, l1, .ref x, l3] (.ref x :: st) h Q := T_aload_n c221_1084 rfl
theorem c221_1085 : cod 221 1085 = some (.aload_n 0, 1) := cod_of b221 dL_law_1085
theorem t221_1085 {d : Nat} {h : Hp} {Q : Pst} {l1 l2 l3 : Value} {x : Nat} {st : List Value} : T d 221 1085 [.ref x, l1, l2, l3] st h Q ↔ T d 221 1086 [.ref x, l1, l2, l3] (.ref x :: st) h Q := T_aload_n c221_1085 rfl
theorem c221_1086 : cod 221 1086 = some (.iload_n 3, 1) := cod_of b221 dL_law_1086
theorem t221_1086 {d : Nat} {h : Hp} {Q : Pst} {l0 l1 l2 : Value} {x : Int32} {st : List Value} : T d 221 1086 [l0, l1, l2, .int x] st h Q ↔ T d 221 1087 [l0, l1, l2, .int x] (.int x :: st) h Q := T_iload_n c221_1086 rfl
theorem c221_1087 : cod 221 1087 = some (.iconst 1, 1) := cod_of b221 dL_law_1087
theorem t221_1087 {d : Nat} {h : Hp} {Q : Pst} {ls : List Value} {st : List Value} : T d 221 1087 ls st h Q ↔ T d 221 1088 ls (.int 1 :: st) h Q := T_iconstV c221_1087 (by decide)
theorem c221_1088 : cod 221 1088 = some (.iadd, 1) := cod_of b221 dL_law_1088
theorem t221_1088 {d : Nat} {h : Hp} {Q : Pst} {x y : Int32} {ls : List Value} {st : List Value} : T d 221 1088 ls (.int y :: .int x :: st) h Q ↔ T d 221 1089 ls (.int (x + y) :: st) h Q := T_iadd c221_1088
theorem c221_1089 : cod 221 1089 = some (.iaload, 1) := cod_of b221 dL_law_1089
theorem t221_1089 {d : Nat} {h : Hp} {Q : Pst} {a : Nat} {i : Int32} {ls : List Value} {st : List Value} : T d 221 1089 ls (.int i :: .ref a :: st) h Q ↔ aL (h.2.2 a) i (fun x => T d 221 1090 ls (.int x :: st) h Q) := T_iaload c221_1089
theorem c221_1090 : cod 221 1090 = some (.invokevirtual 138, 3) := cod_of b221 dL_law_1090
theorem t221_1090 {d : Nat} {h : Hp} {Q : Pst} {a0 s0 : Int32} {a : Nat} {ls : List Value} (ho : isO (h.2.2 a) 7) : T (d + 1) 221 1090 ls [.int a0, .ref a, .int s0] h Q ↔ T d 196 0 [.ref a, .int a0] [] h (fun x h2 => T (d + 1) 221 1093 ls (rl x [.int s0]) h2 Q) := T_virtualR (as := [.int a0]) (r := [.int s0]) m221 m196 c221_1090 k20_138  rfl (by decide) rfl (by simp [wrd, Value.category]) (by simp [stk, Value.category]) rfl (by decide +kernel) ho
theorem c221_1093 : cod 221 1093 = some (.if_icmp .eq 277, 3) := cod_of b221 dL_law_1093
theorem t221_1093 {d : Nat} {h : Hp} {Q : Pst} {x y : Int32} {ls : List Value} {st : List Value} : T d 221 1093 ls (.int y :: .int x :: st) h Q ↔ (if x = y then T d 221 1370 ls st h Q else T d 221 1096 ls st h Q) := T_icmp_eq c221_1093 (by decide)
theorem c221_1096 : cod 221 1096 = some (.iconst 0, 1) := cod_of b221 dL_law_1096
theorem t221_1096 {d : Nat} {h : Hp} {Q : Pst} {ls : List Value} {st : List Value} : T d 221 1096 ls st h Q ↔ T d 221 1097 ls (.int 0 :: st) h Q := T_iconstV c221_1096 (by decide)
theorem c221_1097 : cod 221 1097 = some (.ireturn, 1) := cod_of b221 dL_law_1097
theorem t221_1097 {d : Nat} {h : Hp} {Q : Pst} {x : Int32} {ls : List Value} : T d 221 1097 ls [.int x] h Q ↔ (narrow .boolean (.int x) = .int x ∧ Q (some (.int x)) h) := T_zretR m221 c221_1097 rfl
theorem c221_1052 : cod 221 1052 = some (.aload_n 1, 1) := cod_of b221 dL_law_1052
theorem t221_1052 {d : Nat} {h : Hp} {Q : Pst} {l0 l2 l3 : Value} {x : Nat} {st : List Value} : T d 221 1052 [l0, .ref x, l2, l3] st h Q ↔ T d 221 1053 [l0, .ref x, l2, l3] (.ref x :: st) h Q := T_aload_n c221_1052 rfl
theorem c221_1053 : cod 221 1053 = some (.aload_n 0, 1) := cod_of b221 dL_law_1053
theorem t221_1053 {d : Nat} {h : Hp} {Q : Pst} {l1 l2 l3 : Value} {x : Nat} {st : List Value} : T d 221 1053 [.ref x, l1, l2, l3] st h Q ↔ T d 221 1054 [.ref x, l1, l2, l3] (.ref x :: st) h Q := T_aload_n c221_1053 rfl
theorem c221_1054 : cod 221 1054 = some (.iload_n 3, 1) := cod_of b221 dL_law_1054
theorem t221_1054 {d : Nat} {h : Hp} {Q : Pst} {l0 l1 l2 : Value} {x : Int32} {st : List Value} : T d 221 1054 [l0, l1, l2, .int x] st h Q ↔ T d 221 1055 [l0, l1, l2, .int x] (.int x :: st) h Q := T_iload_n c221_1054 rfl
theorem c221_1055 : cod 221 1055 = some (.iconst 1, 1) := cod_of b221 dL_law_1055
theorem t221_1055 {d : Nat} {h : Hp} {Q : Pst} {ls : List Value} {st : List Value} : T d 221 1055 ls st h Q ↔ T d 221 1056 ls (.int 1 :: st) h Q := T_iconstV c221_1055 (by decide)
theorem c221_1056 : cod 221 1056 = some (.iadd, 1) := cod_of b221 dL_law_1056
theorem t221_1056 {d : Nat} {h : Hp} {Q : Pst} {x y : Int32} {ls : List Value} {st : List Value} : T d 221 1056 ls (.int y :: .int x :: st) h Q ↔ T d 221 1057 ls (.int (x + y) :: st) h Q := T_iadd c221_1056
theorem c221_1057 : cod 221 1057 = some (.iaload, 1) := cod_of b221 dL_law_1057
theorem t221_1057 {d : Nat} {h : Hp} {Q : Pst} {a : Nat} {i : Int32} {ls : List Value} {st : List Value} : T d 221 1057 ls (.int i :: .ref a :: st) h Q ↔ aL (h.2.2 a) i (fun x => T d 221 1058 ls (.int x :: st) h Q) := T_iaload c221_1057
theorem c221_1058 : cod 221 1058 = some (.invokevirtual 131, 3) := cod_of b221 dL_law_1058
theorem t221_1058 {d : Nat} {h : Hp} {Q : Pst} {a0 : Int32} {a : Nat} {ls : List Value} (ho : isO (h.2.2 a) 6) : T (d + 1) 221 1058 ls [.int a0, .ref a] h Q ↔ T d 103 0 [.ref a, .int a0] [] h (fun x h2 => T (d + 1) 221 1061 ls (rl x []) h2 Q) := T_virtualR (as := [.int a0]) (r := []) m221 m103 c221_1058 k20_131  rfl (by decide) rfl (by simp [wrd, Value.category]) (by simp [stk, Value.category]) rfl (by decide +kernel) ho
theorem c221_1061 : cod 221 1061 = some (.aload_n 2, 1) := cod_of b221 dL_law_1061
theorem t221_1061 {d : Nat} {h : Hp} {Q : Pst} {l0 l1 l3 : Value} {x : Nat} {st : List Value} : T d 221 1061 [l0, l1, .ref x, l3] st h Q ↔ T d 221 1062 [l0, l1, .ref x, l3] (.ref x :: st) h Q := T_aload_n c221_1061 rfl
theorem c221_1062 : cod 221 1062 = some (.aload_n 0, 1) := cod_of b221 dL_law_1062
theorem t221_1062 {d : Nat} {h : Hp} {Q : Pst} {l1 l2 l3 : Value} {x : Nat} {st : List Value} : T d 221 1062 [.ref x, l1, l2, l3] st h Q ↔ T d 221 1063 [.ref x, l1, l2, l3] (.ref x :: st) h Q := T_aload_n c221_1062 rfl
theorem c221_1063 : cod 221 1063 = some (.iload_n 3, 1) := cod_of b221 dL_law_1063
theorem t221_1063 {d : Nat} {h : Hp} {Q : Pst} {l0 l1 l2 : Value} {x : Int32} {st : List Value} : T d 221 1063 [l0, l1, l2, .int x] st h Q ↔ T d 221 1064 [l0, l1, l2, .int x] (.int x :: st) h Q := T_iload_n c221_1063 rfl
theorem c221_1064 : cod 221 1064 = some (.iconst 1, 1) := cod_of b221 dL_law_1064
theorem t221_1064 {d : Nat} {h : Hp} {Q : Pst} {ls : List Value} {st : List Value} : T d 221 1064 ls st h Q ↔ T d 221 1065 ls (.int 1 :: st) h Q := T_iconstV c221_1064 (by decide)
theorem c221_1065 : cod 221 1065 = some (.iadd, 1) := cod_of b221 dL_law_1065
theorem t221_1065 {d : Nat} {h : Hp} {Q : Pst} {x y : Int32} {ls : List Value} {st : List Value} : T d 221 1065 ls (.int y :: .int x :: st) h Q ↔ T d 221 1066 ls (.int (x + y) :: st) h Q := T_iadd c221_1065
theorem c221_1066 : cod 221 1066 = some (.iaload, 1) := cod_of b221 dL_law_1066
theorem t221_1066 {d : Nat} {h : Hp} {Q : Pst} {a : Nat} {i : Int32} {ls : List Value} {st : List Value} : T d 221 1066 ls (.int i :: .ref a :: st) h Q ↔ aL (h.2.2 a) i (fun x => T d 221 1067 ls (.int x :: st) h Q) := T_iaload c221_1066
theorem c221_1067 : cod 221 1067 = some (.invokevirtual 134, 3) := cod_of b221 dL_law_1067
theorem t221_1067 {d : Nat} {h : Hp} {Q : Pst} {a0 s0 : Int32} {a : Nat} {ls : List Value} (ho : isO (h.2.2 a) 7) : T (d + 1) 221 1067 ls [.int a0, .ref a, .int s0] h Q ↔ T d 194 0 [.ref a, .int a0, un, un, un, un, un] [] h (fun x h2 => T (d + 1) 221 1070 ls (rl x [.int s0]) h2 Q) := T_virtualR (as := [.int a0]) (r := [.int s0]) m221 m194 c221_1067 k20_134  rfl (by decide) rfl (by simp [wrd, Value.category]) (by simp [stk, Value.category]) rfl (by decide +kernel) ho
theorem c221_1070 : cod 221 1070 = some (.if_icmp .eq 300, 3) := cod_of b221 dL_law_1070
theorem t221_1070 {d : Nat} {h : Hp} {Q : Pst} {x y : Int32} {ls : List Value} {st : List Value} : T d 221 1070 ls (.int y :: .int x :: st) h Q ↔ (if x = y then T d 221 1370 ls st h Q else T d 221 1073 ls st h Q) := T_icmp_eq c221_1070 (by decide)
theorem c221_1073 : cod 221 1073 = some (.iconst 0, 1) := cod_of b221 dL_law_1073
theorem t221_1073 {d : Nat} {h : Hp} {Q : Pst} {ls : List Value} {st : List Value} : T d 221 1073 ls st h Q ↔ T d 221 1074 ls (.int 0 :: st) h Q := T_iconstV c221_1073 (by decide)
theorem c221_1074 : cod 221 1074 = some (.ireturn, 1) := cod_of b221 dL_law_1074
theorem t221_1074 {d : Nat} {h : Hp} {Q : Pst} {x : Int32} {ls : List Value} : T d 221 1074 ls [.int x] h Q ↔ (narrow .boolean (.int x) = .int x ∧ Q (some (.int x)) h) := T_zretR m221 c221_1074 rfl
theorem c221_1029 : cod 221 1029 = some (.aload_n 1, 1) := cod_of b221 dL_law_1029
theorem t221_1029 {d : Nat} {h : Hp} {Q : Pst} {l0 l2 l3 : Value} {x : Nat} {st : List Value} : T d 221 1029 [l0, .ref x, l2, l3] st h Q ↔ T d 221 1030 [l0, .ref x, l2, l3] (.ref x :: st) h Q := T_aload_n c221_1029 rfl
theorem c221_1030 : cod 221 1030 = some (.aload_n 0, 1) := cod_of b221 dL_law_1030
theorem t221_1030 {d : Nat} {h : Hp} {Q : Pst} {l1 l2 l3 : Value} {x : Nat} {st : List Value} : T d 221 1030 [.ref x, l1, l2, l3] st h Q ↔ T d 221 1031 [.ref x, l1, l2, l3] (.ref x :: st) h Q := T_aload_n c221_1030 rfl
theorem c221_1031 : cod 221 1031 = some (.iload_n 3, 1) := cod_of b221 dL_law_1031
theorem t221_1031 {d : Nat} {h : Hp} {Q : Pst} {l0 l1 l2 : Value} {x : Int32} {st : List Value} : T d 221 1031 [l0, l1, l2, .int x] st h Q ↔ T d 221 1032 [l0, l1, l2, .int x] (.int x :: st) h Q := T_iload_n c221_1031 rfl
theorem c221_1032 : cod 221 1032 = some (.iconst 1, 1) := cod_of b221 dL_law_1032
theorem t221_1032 {d : Nat} {h : Hp} {Q : Pst} {ls : List Value} {st : List Value} : T d 221 1032 ls st h Q ↔ T d 221 1033 ls (.int 1 :: st) h Q := T_iconstV c221_1032 (by decide)
theorem c221_1033 : cod 221 1033 = some (.iadd, 1) := cod_of b221 dL_law_1033
theorem t221_1033 {d : Nat} {h : Hp} {Q : Pst} {x y : Int32} {ls : List Value} {st : List Value} : T d 221 1033 ls (.int y :: .int x :: st) h Q ↔ T d 221 1034 ls (.int (x + y) :: st) h Q := T_iadd c221_1033
theorem c221_1034 : cod 221 1034 = some (.iaload, 1) := cod_of b221 dL_law_1034
theorem t221_1034 {d : Nat} {h : Hp} {Q : Pst} {a : Nat} {i : Int32} {ls : List Value} {st : List Value} : T d 221 1034 ls (.int i :: .ref a :: st) h Q ↔ aL (h.2.2 a) i (fun x => T d 221 1035 ls (.int x :: st) h Q) := T_iaload c221_1034
theorem c221_1035 : cod 221 1035 = some (.invokevirtual 127, 3) := cod_of b221 dL_law_1035
theorem t221_1035 {d : Nat} {h : Hp} {Q : Pst} {a0 : Int32} {a : Nat} {ls : List Value} (ho : isO (h.2.2 a) 6) : T (d + 1) 221 1035 ls [.int a0, .ref a] h Q ↔ T d 102 0 [.ref a, .int a0] [] h (fun x h2 => T (d + 1) 221 1038 ls (rl x []) h2 Q) := T_virtualR (as := [.int a0]) (r := []) m221 m102 c221_1035 k20_127  rfl (by decide) rfl (by simp [wrd, Value.category]) (by simp [stk, Value.category]) rfl (by decide +kernel) ho
theorem c221_1038 : cod 221 1038 = some (.aload_n 2, 1) := cod_of b221 dL_law_1038
theorem t221_1038 {d : Nat} {h : Hp} {Q : Pst} {l0 l1 l3 : Value} {x : Nat} {st : List Value} : T d 221 1038 [l0, l1, .ref x, l3] st h Q ↔ T d 221 1039 [l0, l1, .ref x, l3] (.ref x :: st) h Q := T_aload_n c221_1038 rfl
theorem c221_1039 : cod 221 1039 = some (.aload_n 0, 1) := cod_of b221 dL_law_1039
theorem t221_1039 {d : Nat} {h : Hp} {Q : Pst} {l1 l2 l3 : Value} {x : Nat} {st : List Value} : T d 221 1039 [.ref x, l1, l2, l3] st h Q ↔ T d 221 1040 [.ref x, l1, l2, l3] (.ref x :: st) h Q := T_aload_n c221_1039 rfl
theorem c221_1040 : cod 221 1040 = some (.iload_n 3, 1) := cod_of b221 dL_law_1040
theorem t221_1040 {d : Nat} {h : Hp} {Q : Pst} {l0 l1 l2 : Value} {x : Int32} {st : List Value} : T d 221 1040 [l0, l1, l2, .int x] st h Q ↔ T d 221 1041 [l0, l1, l2, .int x] (.int x :: st) h Q := T_iload_n c221_1040 rfl
theorem c221_1041 : cod 221 1041 = some (.iconst 1, 1) := cod_of b221 dL_law_1041
theorem t221_1041 {d : Nat} {h : Hp} {Q : Pst} {ls : List Value} {st : List Value} : T d 221 1041 ls st h Q ↔ T d 221 1042 ls (.int 1 :: st) h Q := T_iconstV c221_1041 (by decide)
theorem c221_1042 : cod 221 1042 = some (.iadd, 1) := cod_of b221 dL_law_1042
theorem t221_1042 {d : Nat} {h : Hp} {Q : Pst} {x y : Int32} {ls : List Value} {st : List Value} : T d 221 1042 ls (.int y :: .int x :: st) h Q ↔ T d 221 1043 ls (.int (x + y) :: st) h Q := T_iadd c221_1042
theorem c221_1043 : cod 221 1043 = some (.iaload, 1) := cod_of b221 dL_law_1043
theorem t221_1043 {d : Nat} {h : Hp} {Q : Pst} {a : Nat} {i : Int32} {ls : List Value} {st : List Value} : T d 221 1043 ls (.int i :: .ref a :: st) h Q ↔ aL (h.2.2 a) i (fun x => T d 221 1044 ls (.int x :: st) h Q) := T_iaload c221_1043
theorem c221_1044 : cod 221 1044 = some (.invokevirtual 130, 3) := cod_of b221 dL_law_1044
theorem t221_1044 {d : Nat} {h : Hp} {Q : Pst} {a0 s0 : Int32} {a : Nat} {ls : List Value} (ho : isO (h.2.2 a) 7) : T (d + 1) 221 1044 ls [.int a0, .ref a, .int s0] h Q ↔ T d 192 0 [.ref a, .int a0] [] h (fun x h2 => T (d + 1) 221 1047 ls (rl x [.int s0]) h2 Q) := T_virtualR (as := [.int a0]) (r := [.int s0]) m221 m192 c221_1044 k20_130  rfl (by decide) rfl (by simp [wrd, Value.category]) (by simp [stk, Value.category]) rfl (by decide +kernel) ho
theorem c221_1047 : cod 221 1047 = some (.if_icmp .eq 323, 3) := cod_of b221 dL_law_1047
theorem t221_1047 {d : Nat} {h : Hp} {Q : Pst} {x y : Int32} {ls : List Value} {st : List Value} : T d 221 1047 ls (.int y :: .int x :: st) h Q ↔ (if x = y then T d 221 1370 ls st h Q else T d 221 1050 ls st h Q) := T_icmp_eq c221_1047 (by decide)
theorem c221_1050 : cod 221 1050 = some (.iconst 0, 1) := cod_of b221 dL_law_1050
theorem t221_1050 {d : Nat} {h : Hp} {Q : Pst} {ls : List Value} {st : List Value} : T d 221 1050 ls st h Q ↔ T d 221 1051 ls (.int 0 :: st) h Q := T_iconstV c221_1050 (by decide)
theorem c221_1051 : cod 221 1051 = some (.ireturn, 1) := cod_of b221 dL_law_1051
theorem t221_1051 {d : Nat} {h : Hp} {Q : Pst} {x : Int32} {ls : List Value} : T d 221 1051 ls [.int x] h Q ↔ (narrow .boolean (.int x) = .int x ∧ Q (some (.int x)) h) := T_zretR m221 c221_1051 rfl
theorem c221_1006 : cod 221 1006 = some (.aload_n 1, 1) := cod_of b221 dL_law_1006
theorem t221_1006 {d : Nat} {h : Hp} {Q : Pst} {l0 l2 l3 : Value} {x : Nat} {st : List Value} : T d 221 1006 [l0, .ref x, l2, l3] st h Q ↔ T d 221 1007 [l0, .ref x, l2, l3] (.ref x :: st) h Q := T_aload_n c221_1006 rfl
theorem c221_1007 : cod 221 1007 = some (.aload_n 0, 1) := cod_of b221 dL_law_1007
theorem t221_1007 {d : Nat} {h : Hp} {Q : Pst} {l1 l2 l3 : Value} {x : Nat} {st : List Value} : T d 221 1007 [.ref x, l1, l2, l3] st h Q ↔ T d 221 1008 [.ref x, l1, l2, l3] (.ref x :: st) h Q := T_aload_n c221_1007 rfl
theorem c221_1008 : cod 221 1008 = some (.iload_n 3, 1) := cod_of b221 dL_law_1008
theorem t221_1008 {d : Nat} {h : Hp} {Q : Pst} {l0 l1 l2 : Value} {x : Int32} {st : List Value} : T d 221 1008 [l0, l1, l2, .int x] st h Q ↔ T d 221 1009 [l0, l1, l2, .int x] (.int x :: st) h Q := T_iload_n c221_1008 rfl
theorem c221_1009 : cod 221 1009 = some (.iconst 1, 1) := cod_of b221 dL_law_1009
theorem t221_1009 {d : Nat} {h : Hp} {Q : Pst} {ls : List Value} {st : List Value} : T d 221 1009 ls st h Q ↔ T d 221 1010 ls (.int 1 :: st) h Q := T_iconstV c221_1009 (by decide)
theorem c221_1010 : cod 221 1010 = some (.iadd, 1) := cod_of b221 dL_law_1010
theorem t221_1010 {d : Nat} {h : Hp} {Q : Pst} {x y : Int32} {ls : List Value} {st : List Value} : T d 221 1010 ls (.int y :: .int x :: st) h Q ↔ T d 221 1011 ls (.int (x + y) :: st) h Q := T_iadd c221_1010
theorem c221_1011 : cod 221 1011 = some (.iaload, 1) := cod_of b221 dL_law_1011
theorem t221_1011 {d : Nat} {h : Hp} {Q : Pst} {a : Nat} {i : Int32} {ls : List Value} {st : List Value} : T d 221 1011 ls (.int i :: .ref a :: st) h Q ↔ aL (h.2.2 a) i (fun x => T d 221 1012 ls (.int x :: st) h Q) := T_iaload c221_1011
theorem c221_1012 : cod 221 1012 = some (.invokevirtual 123, 3) := cod_of b221 dL_law_1012
theorem t221_1012 {d : Nat} {h : Hp} {Q : Pst} {a0 : Int32} {a : Nat} {ls : List Value} (ho : isO (h.2.2 a) 6) : T (d + 1) 221 1012 ls [.int a0, .ref a] h Q ↔ T d 101 0 [.ref a, .int a0] [] h (fun x h2 => T (d + 1) 221 1015 ls (rl x []) h2 Q) := T_virtualR (as := [.int a0]) (r := []) m221 m101 c221_1012 k20_123  rfl (by decide) rfl (by simp [wrd, Value.category]) (by simp [stk, Value.category]) rfl (by decide +kernel) ho
theorem c221_1015 : cod 221 1015 = some (.aload_n 2, 1) := cod_of b221 dL_law_1015
theorem t221_1015 {d : Nat} {h : Hp} {Q : Pst} {l0 l1 l3 : Value} {x : Nat} {st : List Value} : T d 221 1015 [l0, l1, .ref x, l3] st h Q ↔ T d 221 1016 [l0, l1, .ref x, l3] (.ref x :: st) h Q := T_aload_n c221_1015 rfl
theorem c221_1016 : cod 221 1016 = some (.aload_n 0, 1) := cod_of b221 dL_law_1016
theorem t221_1016 {d : Nat} {h : Hp} {Q : Pst} {l1 l2 l3 : Value} {x : Nat} {st : List Value} : T d 221 1016 [.ref x, l1, l2, l3] st h Q ↔ T d 221 1017 [.ref x, l1, l2, l3] (.ref x :: st) h Q := T_aload_n c221_1016 rfl
theorem c221_1017 : cod 221 1017 = some (.iload_n 3, 1) := cod_of b221 dL_law_1017
theorem t221_1017 {d : Nat} {h : Hp} {Q : Pst} {l0 l1 l2 : Value} {x : Int32} {st : List Value} : T d 221 1017 [l0, l1, l2, .int x] st h Q ↔ T d 221 1018 [l0, l1, l2, .int x] (.int x :: st) h Q := T_iload_n c221_1017 rfl
theorem c221_1018 : cod 221 1018 = some (.iconst 1, 1) := cod_of b221 dL_law_1018
theorem t221_1018 {d : Nat} {h : Hp} {Q : Pst} {ls : List Value} {st : List Value} : T d 221 1018 ls st h Q ↔ T d 221 1019 ls (.int 1 :: st) h Q := T_iconstV c221_1018 (by decide)
theorem c221_1019 : cod 221 1019 = some (.iadd, 1) := cod_of b221 dL_law_1019
theorem t221_1019 {d : Nat} {h : Hp} {Q : Pst} {x y : Int32} {ls : List Value} {st : List Value} : T d 221 1019 ls (.int y :: .int x :: st) h Q ↔ T d 221 1020 ls (.int (x + y) :: st) h Q := T_iadd c221_1019
theorem c221_1020 : cod 221 1020 = some (.iaload, 1) := cod_of b221 dL_law_1020
theorem t221_1020 {d : Nat} {h : Hp} {Q : Pst} {a : Nat} {i : Int32} {ls : List Value} {st : List Value} : T d 221 1020 ls (.int i :: .ref a :: st) h Q ↔ aL (h.2.2 a) i (fun x => T d 221 1021 ls (.int x :: st) h Q) := T_iaload c221_1020
theorem c221_1021 : cod 221 1021 = some (.invokevirtual 126, 3) := cod_of b221 dL_law_1021
theorem t221_1021 {d : Nat} {h : Hp} {Q : Pst} {a0 s0 : Int32} {a : Nat} {ls : List Value} (ho : isO (h.2.2 a) 7) : T (d + 1) 221 1021 ls [.int a0, .ref a, .int s0] h Q ↔ T d 190 0 [.ref a, .int a0, un, un] [] h (fun x h2 => T (d + 1) 221 1024 ls (rl x [.int s0]) h2 Q) := T_virtualR (as := [.int a0]) (r := [.int s0]) m221 m190 c221_1021 k20_126  rfl (by decide) rfl (by simp [wrd, Value.category]) (by simp [stk, Value.category]) rfl (by decide +kernel) ho
theorem c221_1024 : cod 221 1024 = some (.if_icmp .eq 346, 3) := cod_of b221 dL_law_1024
theorem t221_1024 {d : Nat} {h : Hp} {Q : Pst} {x y : Int32} {ls : List Value} {st : List Value} : T d 221 1024 ls (.int y :: .int x :: st) h Q ↔ (if x = y then T d 221 1370 ls st h Q else T d 221 1027 ls st h Q) := T_icmp_eq c221_1024 (by decide)
theorem c221_1027 : cod 221 1027 = some (.iconst 0, 1) := cod_of b221 dL_law_1027
theorem t221_1027 {d : Nat} {h : Hp} {Q : Pst} {ls : List Value} {st : List Value} : T d 221 1027 ls st h Q ↔ T d 221 1028 ls (.int 0 :: st) h Q := T_iconstV c221_1027 (by decide)
theorem c221_1028 : cod 221 1028 = some (.ireturn, 1) := cod_of b221 dL_law_1028
theorem t221_1028 {d : Nat} {h : Hp} {Q : Pst} {x : Int32} {ls : List Value} : T d 221 1028 ls [.int x] h Q ↔ (narrow .boolean (.int x) = .int x ∧ Q (some (.int x)) h) := T_zretR m221 c221_1028 rfl
theorem c221_943 : cod 221 943 = some (.aload_n 1, 1) := cod_of b221 dL_law_943
theorem t221_943 {d : Nat} {h : Hp} {Q : Pst} {l0 l2 l3 : Value} {x : Nat} {st : List Value} : T d 221 943 [l0, .ref x, l2, l3] st h Q ↔ T d 221 944 [l0, .ref x, l2, l3] (.ref x :: st) h Q := T_aload_n c221_943 rfl
theorem c221_944 : cod 221 944 = some (.aload_n 0, 1) := cod_of b221 dL_law_944
theorem t221_944 {d : Nat} {h : Hp} {Q : Pst} {l1 l2 l3 : Value} {x : Nat} {st : List Value} : T d 221 944 [.ref x, l1, l2, l3] st h Q ↔ T d 221 945 [.ref x, l1, l2, l3] (.ref x :: st) h Q := T_aload_n c221_944 rfl
theorem c221_945 : cod 221 945 = some (.iload_n 3, 1) := cod_of b221 dL_law_945
theorem t221_945 {d : Nat} {h : Hp} {Q : Pst} {l0 l1 l2 : Value} {x : Int32} {st : List Value} : T d 221 945 [l0, l1, l2, .int x] st h Q ↔ T d 221 946 [l0, l1, l2, .int x] (.int x :: st) h Q := T_iload_n c221_945 rfl
theorem c221_946 : cod 221 946 = some (.iconst 1, 1) := cod_of b221 dL_law_946
theorem t221_946 {d : Nat} {h : Hp} {Q : Pst} {ls : List Value} {st : List Value} : T d 221 946 ls st h Q ↔ T d 221 947 ls (.int 1 :: st) h Q := T_iconstV c221_946 (by decide)
theorem c221_947 : cod 221 947 = some (.iadd, 1) := cod_of b221 dL_law_947
theorem t221_947 {d : Nat} {h : Hp} {Q : Pst} {x y : Int32} {ls : List Value} {st : List Value} : T d 221 947 ls (.int y :: .int x :: st) h Q ↔ T d 221 948 ls (.int (x + y) :: st) h Q := T_iadd c221_947
theorem c221_948 : cod 221 948 = some (.iaload, 1) := cod_of b221 dL_law_948
theorem t221_948 {d : Nat} {h : Hp} {Q : Pst} {a : Nat} {i : Int32} {ls : List Value} {st : List Value} : T d 221 948 ls (.int i :: .ref a :: st) h Q ↔ aL (h.2.2 a) i (fun x => T d 221 949 ls (.int x :: st) h Q) := T_iaload c221_948
theorem c221_949 : cod 221 949 = some (.aload_n 0, 1) := cod_of b221 dL_law_949
theorem t221_949 {d : Nat} {h : Hp} {Q : Pst} {l1 l2 l3 : Value} {x : Nat} {st : List Value} : T d 221 949 [.ref x, l1, l2, l3] st h Q ↔ T d 221 950 [.ref x, l1, l2, l3] (.ref x :: st) h Q := T_aload_n c221_949 rfl
theorem c221_950 : cod 221 950 = some (.iload_n 3, 1) := cod_of b221 dL_law_950
theorem t221_950 {d : Nat} {h : Hp} {Q : Pst} {l0 l1 l2 : Value} {x : Int32} {st : List Value} : T d 221 950 [l0, l1, l2, .int x] st h Q ↔ T d 221 951 [l0, l1, l2, .int x] (.int x :: st) h Q := T_iload_n c221_950 rfl
theorem c221_951 : cod 221 951 = some (.iconst 2, 1) := cod_of b221 dL_law_951
theorem t221_951 {d : Nat} {h : Hp} {Q : Pst} {ls : List Value} {st : List Value} : T d 221 951 ls st h Q ↔ T d 221 952 ls (.int 2 :: st) h Q := T_iconstV c221_951 (by decide)
theorem c221_952 : cod 221 952 = some (.iadd, 1) := cod_of b221 dL_law_952
theorem t221_952 {d : Nat} {h : Hp} {Q : Pst} {x y : Int32} {ls : List Value} {st : List Value} : T d 221 952 ls (.int y :: .int x :: st) h Q ↔ T d 221 953 ls (.int (x + y) :: st) h Q := T_iadd c221_952
theorem c221_953 : cod 221 953 = some (.iaload, 1) := cod_of b221 dL_law_953
theorem t221_953 {d : Nat} {h : Hp} {Q : Pst} {a : Nat} {i : Int32} {ls : List Value} {st : List Value} : T d 221 953 ls (.int i :: .ref a :: st) h Q ↔ aL (h.2.2 a) i (fun x => T d 221 954 ls (.int x :: st) h Q) := T_iaload c221_953
theorem c221_954 : cod 221 954 = some (.aload_n 0, 1) := cod_of b221 dL_law_954
theorem t221_954 {d : Nat} {h : Hp} {Q : Pst} {l1 l2 l3 : Value} {x : Nat} {st : List Value} : T d 221 954 [.ref x, l1, l2, l3] st h Q ↔ T d 221 955 [.ref x, l1, l2, l3] (.ref x :: st) h Q := T_aload_n c221_954 rfl
theorem c221_955 : cod 221 955 = some (.iload_n 3, 1) := cod_of b221 dL_law_955
theorem t221_955 {d : Nat} {h : Hp} {Q : Pst} {l0 l1 l2 : Value} {x : Int32} {st : List Value} : T d 221 955 [l0, l1, l2, .int x] st h Q ↔ T d 221 956 [l0, l1, l2, .int x] (.int x :: st) h Q := T_iload_n c221_955 rfl
theorem c221_956 : cod 221 956 = some (.iconst 3, 1) := cod_of b221 dL_law_956
theorem t221_956 {d : Nat} {h : Hp} {Q : Pst} {ls : List Value} {st : List Value} : T d 221 956 ls st h Q ↔ T d 221 957 ls (.int 3 :: st) h Q := T_iconstV c221_956 (by decide)
theorem c221_957 : cod 221 957 = some (.iadd, 1) := cod_of b221 dL_law_957
theorem t221_957 {d : Nat} {h : Hp} {Q : Pst} {x y : Int32} {ls : List Value} {st : List Value} : T d 221 957 ls (.int y :: .int x :: st) h Q ↔ T d 221 958 ls (.int (x + y) :: st) h Q := T_iadd c221_957
theorem c221_958 : cod 221 958 = some (.iaload, 1) := cod_of b221 dL_law_958
theorem t221_958 {d : Nat} {h : Hp} {Q : Pst} {a : Nat} {i : Int32} {ls : List Value} {st : List Value} : T d 221 958 ls (.int i :: .ref a :: st) h Q ↔ aL (h.2.2 a) i (fun x => T d 221 959 ls (.int x :: st) h Q) := T_iaload c221_958
theorem c221_959 : cod 221 959 = some (.aload_n 0, 1) := cod_of b221 dL_law_959
theorem t221_959 {d : Nat} {h : Hp} {Q : Pst} {l1 l2 l3 : Value} {x : Nat} {st : List Value} : T d 221 959 [.ref x, l1, l2, l3] st h Q ↔ T d 221 960 [.ref x, l1, l2, l3] (.ref x :: st) h Q := T_aload_n c221_959 rfl
theorem c221_960 : cod 221 960 = some (.iload_n 3, 1) := cod_of b221 dL_law_960
theorem t221_960 {d : Nat} {h : Hp} {Q : Pst} {l0 l1 l2 : Value} {x : Int32} {st : List Value} : T d 221 960 [l0, l1, l2, .int x] st h Q ↔ T d 221 961 [l0, l1, l2, .int x] (.int x :: st) h Q := T_iload_n c221_960 rfl
theorem c221_961 : cod 221 961 = some (.iconst 4, 1) := cod_of b221 dL_law_961
theorem t221_961 {d : Nat} {h : Hp} {Q : Pst} {ls : List Value} {st : List Value} : T d 221 961 ls st h Q ↔ T d 221 962 ls (.int 4 :: st) h Q := T_iconstV c221_961 (by decide)
theorem c221_962 : cod 221 962 = some (.iadd, 1) := cod_of b221 dL_law_962
theorem t221_962 {d : Nat} {h : Hp} {Q : Pst} {x y : Int32} {ls : List Value} {st : List Value} : T d 221 962 ls (.int y :: .int x :: st) h Q ↔ T d 221 963 ls (.int (x + y) :: st) h Q := T_iadd c221_962
theorem c221_963 : cod 221 963 = some (.iaload, 1) := cod_of b221 dL_law_963
theorem t221_963 {d : Nat} {h : Hp} {Q : Pst} {a : Nat} {i : Int32} {ls : List Value} {st : List Value} : T d 221 963 ls (.int i :: .ref a :: st) h Q ↔ aL (h.2.2 a) i (fun x => T d 221 964 ls (.int x :: st) h Q) := T_iaload c221_963
theorem c221_964 : cod 221 964 = some (.aload_n 0, 1) := cod_of b221 dL_law_964
theorem t221_964 {d : Nat} {h : Hp} {Q : Pst} {l1 l2 l3 : Value} {x : Nat} {st : List Value} : T d 221 964 [.ref x, l1, l2, l3] st h Q ↔ T d 221 965 [.ref x, l1, l2, l3] (.ref x :: st) h Q := T_aload_n c221_964 rfl
theorem c221_965 : cod 221 965 = some (.iload_n 3, 1) := cod_of b221 dL_law_965
theorem t221_965 {d : Nat} {h : Hp} {Q : Pst} {l0 l1 l2 : Value} {x : Int32} {st : List Value} : T d 221 965 [l0, l1, l2, .int x] st h Q ↔ T d 221 966 [l0, l1, l2, .int x] (.int x :: st) h Q := T_iload_n c221_965 rfl
theorem c221_966 : cod 221 966 = some (.iconst 5, 1) := cod_of b221 dL_law_966
theorem t221_966 {d : Nat} {h : Hp} {Q : Pst} {ls : List Value} {st : List Value} : T d 221 966 ls st h Q ↔ T d 221 967 ls (.int 5 :: st) h Q := T_iconstV c221_966 (by decide)
theorem c221_967 : cod 221 967 = some (.iadd, 1) := cod_of b221 dL_law_967
theorem t221_967 {d : Nat} {h : Hp} {Q : Pst} {x y : Int32} {ls : List Value} {st : List Value} : T d 221 967 ls (.int y :: .int x :: st) h Q ↔ T d 221 968 ls (.int (x + y) :: st) h Q := T_iadd c221_967
theorem c221_968 : cod 221 968 = some (.iaload, 1) := cod_of b221 dL_law_968
theorem t221_968 {d : Nat} {h : Hp} {Q : Pst} {a : Nat} {i : Int32} {ls : List Value} {st : List Value} : T d 221 968 ls (.int i :: .ref a :: st) h Q ↔ aL (h.2.2 a) i (fun x => T d 221 969 ls (.int x :: st) h Q) := T_iaload c221_968
theorem c221_969 : cod 221 969 = some (.invokevirtual 118, 3) := cod_of b221 dL_law_969
theorem t221_969 {d : Nat} {h : Hp} {Q : Pst} {a0 a1 a2 a3 a4 : Int32} {a : Nat} {ls : List Value} (ho : isO (h.2.2 a) 6) : T (d + 1) 221 969 ls [.int a4, .int a3, .int a2, .int a1, .int a0, .ref a] h Q ↔ T d 100 0 [.ref a, .int a0, .int a1, .int a2, .int a3, .int a4, un] [] h (fun x h2 => T (d + 1) 221 972 ls (rl x []) h2 Q) := T_virtualR (as := [.int a0, .int a1, .int a2, .int a3, .int a4]) (r := []) m221 m100 c221_969 k20_118  rfl (by decide) rfl (by simp [wrd, Value.category]) (by simp [stk, Value.category]) rfl (by decide +kernel) ho
theorem c221_972 : cod 221 972 = some (.aload_n 2, 1) := cod_of b221 dL_law_972
theorem t221_972 {d : Nat} {h : Hp} {Q : Pst} {l0 l1 l3 : Value} {x : Nat} {st : List Value} : T d 221 972 [l0, l1, .ref x, l3] st h Q ↔ T d 221 973 [l0, l1, .ref x, l3] (.ref x :: st) h Q := T_aload_n c221_972 rfl
theorem c221_973 : cod 221 973 = some (.aload_n 0, 1) := cod_of b221 dL_law_973
theorem t221_973 {d : Nat} {h : Hp} {Q : Pst} {l1 l2 l3 : Value} {x : Nat} {st : List Value} : T d 221 973 [.ref x, l1, l2, l3] st h Q ↔ T d 221 974 [.ref x, l1, l2, l3] (.ref x :: st) h Q := T_aload_n c221_973 rfl
theorem c221_974 : cod 221 974 = some (.iload_n 3, 1) := cod_of b221 dL_law_974
theorem t221_974 {d : Nat} {h : Hp} {Q : Pst} {l0 l1 l2 : Value} {x : Int32} {st : List Value} : T d 221 974 [l0, l1, l2, .int x] st h Q ↔ T d 221 975 [l0, l1, l2, .int x] (.int x :: st) h Q := T_iload_n c221_974 rfl
theorem c221_975 : cod 221 975 = some (.iconst 1, 1) := cod_of b221 dL_law_975
theorem t221_975 {d : Nat} {h : Hp} {Q : Pst} {ls : List Value} {st : List Value} : T d 221 975 ls st h Q ↔ T d 221 976 ls (.int 1 :: st) h Q := T_iconstV c221_975 (by decide)
theorem c221_976 : cod 221 976 = some (.iadd, 1) := cod_of b221 dL_law_976
theorem t221_976 {d : Nat} {h : Hp} {Q : Pst} {x y : Int32} {ls : List Value} {st : List Value} : T d 221 976 ls (.int y :: .int x :: st) h Q ↔ T d 221 977 ls (.int (x + y) :: st) h Q := T_iadd c221_976
theorem c221_977 : cod 221 977 = some (.iaload, 1) := cod_of b221 dL_law_977
theorem t221_977 {d : Nat} {h : Hp} {Q : Pst} {a : Nat} {i : Int32} {ls : List Value} {st : List Value} : T d 221 977 ls (.int i :: .ref a :: st) h Q ↔ aL (h.2.2 a) i (fun x => T d 221 978 ls (.int x :: st) h Q) := T_iaload c221_977
theorem c221_978 : cod 221 978 = some (.aload_n 0, 1) := cod_of b221 dL_law_978
theorem t221_978 {d : Nat} {h : Hp} {Q : Pst} {l1 l2 l3 : Value} {x : Nat} {st : List Value} : T d 221 978 [.ref x, l1, l2, l3] st h Q ↔ T d 221 979 [.ref x, l1, l2, l3] (.ref x :: st) h Q := T_aload_n c221_978 rfl
theorem c221_979 : cod 221 979 = some (.iload_n 3, 1) := cod_of b221 dL_law_979
theorem t221_979 {d : Nat} {h : Hp} {Q : Pst} {l0 l1 l2 : Value} {x : Int32} {st : List Value} : T d 221 979 [l0, l1, l2, .int x] st h Q ↔ T d 221 980 [l0, l1, l2, .int x] (.int x :: st) h Q := T_iload_n c221_979 rfl
theorem c221_980 : cod 221 980 = some (.iconst 2, 1) := cod_of b221 dL_law_980
theorem t221_980 {d : Nat} {h : Hp} {Q : Pst} {ls : List Value} {st : List Value} : T d 221 980 ls st h Q ↔ T d 221 981 ls (.int 2 :: st) h Q := T_iconstV c221_980 (by decide)
theorem c221_981 : cod 221 981 = some (.iadd, 1) := cod_of b221 dL_law_981
theorem t221_981 {d : Nat} {h : Hp} {Q : Pst} {x y : Int32} {ls : List Value} {st : List Value} : T d 221 981 ls (.int y :: .int x :: st) h Q ↔ T d 221 982 ls (.int (x + y) :: st) h Q := T_iadd c221_981
theorem c221_982 : cod 221 982 = some (.iaload, 1) := cod_of b221 dL_law_982
theorem t221_982 {d : Nat} {h : Hp} {Q : Pst} {a : Nat} {i : Int32} {ls : List Value} {st : List Value} : T d 221 982 ls (.int i :: .ref a :: st) h Q ↔ aL (h.2.2 a) i (fun x => T d 221 983 ls (.int x :: st) h Q) := T_iaload c221_982
theorem c221_983 : cod 221 983 = some (.aload_n 0, 1) := cod_of b221 dL_law_983
theorem t221_983 {d : Nat} {h : Hp} {Q : Pst} {l1 l2 l3 : Value} {x : Nat} {st : List Value} : T d 221 983 [.ref x, l1, l2, l3] st h Q ↔ T d 221 984 [.ref x, l1, l2, l3] (.ref x :: st) h Q := T_aload_n c221_983 rfl
theorem c221_984 : cod 221 984 = some (.iload_n 3, 1) := cod_of b221 dL_law_984
theorem t221_984 {d : Nat} {h : Hp} {Q : Pst} {l0 l1 l2 : Value} {x : Int32} {st : List Value} : T d 221 984 [l0, l1, l2, .int x] st h Q ↔ T d 221 985 [l0, l1, l2, .int x] (.int x :: st) h Q := T_iload_n c221_984 rfl
theorem c221_985 : cod 221 985 = some (.iconst 3, 1) := cod_of b221 dL_law_985
theorem t221_985 {d : Nat} {h : Hp} {Q : Pst} {ls : List Value} {st : List Value} : T d 221 985 ls st h Q ↔ T d 221 986 ls (.int 3 :: st) h Q := T_iconstV c221_985 (by decide)
theorem c221_986 : cod 221 986 = some (.iadd, 1) := cod_of b221 dL_law_986
theorem t221_986 {d : Nat} {h : Hp} {Q : Pst} {x y : Int32} {ls : List Value} {st : List Value} : T d 221 986 ls (.int y :: .int x :: st) h Q ↔ T d 221 987 ls (.int (x + y) :: st) h Q := T_iadd c221_986
theorem c221_987 : cod 221 987 = some (.iaload, 1) := cod_of b221 dL_law_987
theorem t221_987 {d : Nat} {h : Hp} {Q : Pst} {a : Nat} {i : Int32} {ls : List Value} {st : List Value} : T d 221 987 ls (.int i :: .ref a :: st) h Q ↔ aL (h.2.2 a) i (fun x => T d 221 988 ls (.int x :: st) h Q) := T_iaload c221_987
theorem c221_988 : cod 221 988 = some (.aload_n 0, 1) := cod_of b221 dL_law_988
theorem t221_988 {d : Nat} {h : Hp} {Q : Pst} {l1 l2 l3 : Value} {x : Nat} {st : List Value} : T d 221 988 [.ref x, l1, l2, l3] st h Q ↔ T d 221 989 [.ref x, l1, l2, l3] (.ref x :: st) h Q := T_aload_n c221_988 rfl
theorem c221_989 : cod 221 989 = some (.iload_n 3, 1) := cod_of b221 dL_law_989
theorem t221_989 {d : Nat} {h : Hp} {Q : Pst} {l0 l1 l2 : Value} {x : Int32} {st : List Value} : T d 221 989 [l0, l1, l2, .int x] st h Q ↔ T d 221 990 [l0, l1, l2, .int x] (.int x :: st) h Q := T_iload_n c221_989 rfl
theorem c221_990 : cod 221 990 = some (.iconst 4, 1) := cod_of b221 dL_law_990
theorem t221_990 {d : Nat} {h : Hp} {Q : Pst} {ls : List Value} {st : List Value} : T d 221 990 ls st h Q ↔ T d 221 991 ls (.int 4 :: st) h Q := T_iconstV c221_990 (by decide)
theorem c221_991 : cod 221 991 = some (.iadd, 1) := cod_of b221 dL_law_991
theorem t221_991 {d : Nat} {h : Hp} {Q : Pst} {x y : Int32} {ls : List Value} {st : List Value} : T d 221 991 ls (.int y :: .int x :: st) h Q ↔ T d 221 992 ls (.int (x + y) :: st) h Q := T_iadd c221_991
theorem c221_992 : cod 221 992 = some (.iaload, 1) := cod_of b221 dL_law_992
theorem t221_992 {d : Nat} {h : Hp} {Q : Pst} {a : Nat} {i : Int32} {ls : List Value} {st : List Value} : T d 221 992 ls (.int i :: .ref a :: st) h Q ↔ aL (h.2.2 a) i (fun x => T d 221 993 ls (.int x :: st) h Q) := T_iaload c221_992
theorem c221_993 : cod 221 993 = some (.aload_n 0, 1) := cod_of b221 dL_law_993
theorem t221_993 {d : Nat} {h : Hp} {Q : Pst} {l1 l2 l3 : Value} {x : Nat} {st : List Value} : T d 221 993 [.ref x, l1, l2, l3] st h Q ↔ T d 221 994 [.ref x, l1, l2, l3] (.ref x :: st) h Q := T_aload_n c221_993 rfl
theorem c221_994 : cod 221 994 = some (.iload_n 3, 1) := cod_of b221 dL_law_994
theorem t221_994 {d : Nat} {h : Hp} {Q : Pst} {l0 l1 l2 : Value} {x : Int32} {st : List Value} : T d 221 994 [l0, l1, l2, .int x] st h Q ↔ T d 221 995 [l0, l1, l2, .int x] (.int x :: st) h Q := T_iload_n c221_994 rfl
theorem c221_995 : cod 221 995 = some (.iconst 5, 1) := cod_of b221 dL_law_995
theorem t221_995 {d : Nat} {h : Hp} {Q : Pst} {ls : List Value} {st : List Value} : T d 221 995 ls st h Q ↔ T d 221 996 ls (.int 5 :: st) h Q := T_iconstV c221_995 (by decide)
theorem c221_996 : cod 221 996 = some (.iadd, 1) := cod_of b221 dL_law_996
theorem t221_996 {d : Nat} {h : Hp} {Q : Pst} {x y : Int32} {ls : List Value} {st : List Value} : T d 221 996 ls (.int y :: .int x :: st) h Q ↔ T d 221 997 ls (.int (x + y) :: st) h Q := T_iadd c221_996
theorem c221_997 : cod 221 997 = some (.iaload, 1) := cod_of b221 dL_law_997
theorem t221_997 {d : Nat} {h : Hp} {Q : Pst} {a : Nat} {i : Int32} {ls : List Value} {st : List Value} : T d 221 997 ls (.int i :: .ref a :: st) h Q ↔ aL (h.2.2 a) i (fun x => T d 221 998 ls (.int x :: st) h Q) := T_iaload c221_997
theorem c221_998 : cod 221 998 = some (.invokevirtual 122, 3) := cod_of b221 dL_law_998
theorem t221_998 {d : Nat} {h : Hp} {Q : Pst} {a0 a1 a2 a3 a4 s0 : Int32} {a : Nat} {ls : List Value} (ho : isO (h.2.2 a) 7) : T (d + 1) 221 998 ls [.int a4, .int a3, .int a2, .int a1, .int a0, .ref a, .int s0] h Q ↔ T d 189 0 [.ref a, .int a0, .int a1, .int a2, .int a3, .int a4, un] [] h (fun x h2 => T (d + 1) 221 1001 ls (rl x [.int s0]) h2 Q) := T_virtualR (as := [.int a0, .int a1, .int a2, .int a3, .int a4]) (r := [.int s0]) m221 m189 c221_998 k20_122  rfl (by decide) rfl (by simp [wrd, Value.category]) (by simp [stk, Value.category]) rfl (by decide +kernel) ho
theorem c221_1001 : cod 221 1001 = some (.if_icmp .eq 369, 3) := cod_of b221 dL_law_1001
theorem t221_1001 {d : Nat} {h : Hp} {Q : Pst} {x y : Int32} {ls : List Value} {st : List Value} : T d 221 1001 ls (.int y :: .int x :: st) h Q ↔ (if x = y then T d 221 1370 ls st h Q else T d 221 1004 ls st h Q) := T_icmp_eq c221_1001 (by decide)
theorem c221_1004 : cod 221 1004 = some (.iconst 0, 1) := cod_of b221 dL_law_1004
theorem t221_1004 {d : Nat} {h : Hp} {Q : Pst} {ls : List Value} {st : List Value} : T d 221 1004 ls st h Q ↔ T d 221 1005 ls (.int 0 :: st) h Q := T_iconstV c221_1004 (by decide)
theorem c221_1005 : cod 221 1005 = some (.ireturn, 1) := cod_of b221 dL_law_1005
theorem t221_1005 {d : Nat} {h : Hp} {Q : Pst} {x : Int32} {ls : List Value} : T d 221 1005 ls [.int x] h Q ↔ (narrow .boolean (.int x) = .int x ∧ Q (some (.int x)) h) := T_zretR m221 c221_1005 rfl
theorem c221_890 : cod 221 890 = some (.aload_n 1, 1) := cod_of b221 dL_law_890
theorem t221_890 {d : Nat} {h : Hp} {Q : Pst} {l0 l2 l3 : Value} {x : Nat} {st : List Value} : T d 221 890 [l0, .ref x, l2, l3] st h Q ↔ T d 221 891 [l0, .ref x, l2, l3] (.ref x :: st) h Q := T_aload_n c221_890 rfl
theorem c221_891 : cod 221 891 = some (.aload_n 0, 1) := cod_of b221 dL_law_891
theorem t221_891 {d : Nat} {h : Hp} {Q : Pst} {l1 l2 l3 : Value} {x : Nat} {st : List Value} : T d 221 891 [.ref x, l1, l2, l3] st h Q ↔ T d 221 892 [.ref x, l1, l2, l3] (.ref x :: st) h Q := T_aload_n c221_891 rfl
theorem c221_892 : cod 221 892 = some (.iload_n 3, 1) := cod_of b221 dL_law_892
theorem t221_892 {d : Nat} {h : Hp} {Q : Pst} {l0 l1 l2 : Value} {x : Int32} {st : List Value} : T d 221 892 [l0, l1, l2, .int x] st h Q ↔ T d 221 893 [l0, l1, l2, .int x] (.int x :: st) h Q := T_iload_n c221_892 rfl
theorem c221_893 : cod 221 893 = some (.iconst 1, 1) := cod_of b221 dL_law_893
theorem t221_893 {d : Nat} {h : Hp} {Q : Pst} {ls : List Value} {st : List Value} : T d 221 893 ls st h Q ↔ T d 221 894 ls (.int 1 :: st) h Q := T_iconstV c221_893 (by decide)
theorem c221_894 : cod 221 894 = some (.iadd, 1) := cod_of b221 dL_law_894
theorem t221_894 {d : Nat} {h : Hp} {Q : Pst} {x y : Int32} {ls : List Value} {st : List Value} : T d 221 894 ls (.int y :: .int x :: st) h Q ↔ T d 221 895 ls (.int (x + y) :: st) h Q := T_iadd c221_894
theorem c221_895 : cod 221 895 = some (.iaload, 1) := cod_of b221 dL_law_895
theorem t221_895 {d : Nat} {h : Hp} {Q : Pst} {a : Nat} {i : Int32} {ls : List Value} {st : List Value} : T d 221 895 ls (.int i :: .ref a :: st) h Q ↔ aL (h.2.2 a) i (fun x => T d 221 896 ls (.int x :: st) h Q) := T_iaload c221_895
theorem c221_896 : cod 221 896 = some (.aload_n 0, 1) := cod_of b221 dL_law_896
theorem t221_896 {d : Nat} {h : Hp} {Q : Pst} {l1 l2 l3 : Value} {x : Nat} {st : List Value} : T d 221 896 [.ref x, l1, l2, l3] st h Q ↔ T d 221 897 [.ref x, l1, l2, l3] (.ref x :: st) h Q := T_aload_n c221_896 rfl
theorem c221_897 : cod 221 897 = some (.iload_n 3, 1) := cod_of b221 dL_law_897
theorem t221_897 {d : Nat} {h : Hp} {Q : Pst} {l0 l1 l2 : Value} {x : Int32} {st : List Value} : T d 221 897 [l0, l1, l2, .int x] st h Q ↔ T d 221 898 [l0, l1, l2, .int x] (.int x :: st) h Q := T_iload_n c221_897 rfl
theorem c221_898 : cod 221 898 = some (.iconst 2, 1) := cod_of b221 dL_law_898
theorem t221_898 {d : Nat} {h : Hp} {Q : Pst} {ls : List Value} {st : List Value} : T d 221 898 ls st h Q ↔ T d 221 899 ls (.int 2 :: st) h Q := T_iconstV c221_898 (by decide)
theorem c221_899 : cod 221 899 = some (.iadd, 1) := cod_of b221 dL_law_899
theorem t221_899 {d : Nat} {h : Hp} {Q : Pst} {x y : Int32} {ls : List Value} {st : List Value} : T d 221 899 ls (.int y :: .int x :: st) h Q ↔ T d 221 900 ls (.int (x + y) :: st) h Q := T_iadd c221_899
theorem c221_900 : cod 221 900 = some (.iaload, 1) := cod_of b221 dL_law_900
theorem t221_900 {d : Nat} {h : Hp} {Q : Pst} {a : Nat} {i : Int32} {ls : List Value} {st : List Value} : T d 221 900 ls (.int i :: .ref a :: st) h Q ↔ aL (h.2.2 a) i (fun x => T d 221 901 ls (.int x :: st) h Q) := T_iaload c221_900
theorem c221_901 : cod 221 901 = some (.aload_n 0, 1) := cod_of b221 dL_law_901
theorem t221_901 {d : Nat} {h : Hp} {Q : Pst} {l1 l2 l3 : Value} {x : Nat} {st : List Value} : T d 221 901 [.ref x, l1, l2, l3] st h Q ↔ T d 221 902 [.ref x, l1, l2, l3] (.ref x :: st) h Q := T_aload_n c221_901 rfl
theorem c221_902 : cod 221 902 = some (.iload_n 3, 1) := cod_of b221 dL_law_902
theorem t221_902 {d : Nat} {h : Hp} {Q : Pst} {l0 l1 l2 : Value} {x : Int32} {st : List Value} : T d 221 902 [l0, l1, l2, .int x] st h Q ↔ T d 221 903 [l0, l1, l2, .int x] (.int x :: st) h Q := T_iload_n c221_902 rfl
theorem c221_903 : cod 221 903 = some (.iconst 3, 1) := cod_of b221 dL_law_903
theorem t221_903 {d : Nat} {h : Hp} {Q : Pst} {ls : List Value} {st : List Value} : T d 221 903 ls st h Q ↔ T d 221 904 ls (.int 3 :: st) h Q := T_iconstV c221_903 (by decide)
theorem c221_904 : cod 221 904 = some (.iadd, 1) := cod_of b221 dL_law_904
theorem t221_904 {d : Nat} {h : Hp} {Q : Pst} {x y : Int32} {ls : List Value} {st : List Value} : T d 221 904 ls (.int y :: .int x :: st) h Q ↔ T d 221 905 ls (.int (x + y) :: st) h Q := T_iadd c221_904
theorem c221_905 : cod 221 905 = some (.iaload, 1) := cod_of b221 dL_law_905
theorem t221_905 {d : Nat} {h : Hp} {Q : Pst} {a : Nat} {i : Int32} {ls : List Value} {st : List Value} : T d 221 905 ls (.int i :: .ref a :: st) h Q ↔ aL (h.2.2 a) i (fun x => T d 221 906 ls (.int x :: st) h Q) := T_iaload c221_905
theorem c221_906 : cod 221 906 = some (.aload_n 0, 1) := cod_of b221 dL_law_906
theorem t221_906 {d : Nat} {h : Hp} {Q : Pst} {l1 l2 l3 : Value} {x : Nat} {st : List Value} : T d 221 906 [.ref x, l1, l2, l3] st h Q ↔ T d 221 907 [.ref x, l1, l2, l3] (.ref x :: st) h Q := T_aload_n c221_906 rfl
theorem c221_907 : cod 221 907 = some (.iload_n 3, 1) := cod_of b221 dL_law_907
theorem t221_907 {d : Nat} {h : Hp} {Q : Pst} {l0 l1 l2 : Value} {x : Int32} {st : List Value} : T d 221 907 [l0, l1, l2, .int x] st h Q ↔ T d 221 908 [l0, l1, l2, .int x] (.int x :: st) h Q := T_iload_n c221_907 rfl
theorem c221_908 : cod 221 908 = some (.iconst 4, 1) := cod_of b221 dL_law_908
theorem t221_908 {d : Nat} {h : Hp} {Q : Pst} {ls : List Value} {st : List Value} : T d 221 908 ls st h Q ↔ T d 221 909 ls (.int 4 :: st) h Q := T_iconstV c221_908 (by decide)
theorem c221_909 : cod 221 909 = some (.iadd, 1) := cod_of b221 dL_law_909
theorem t221_909 {d : Nat} {h : Hp} {Q : Pst} {x y : Int32} {ls : List Value} {st : List Value} : T d 221 909 ls (.int y :: .int x :: st) h Q ↔ T d 221 910 ls (.int (x + y) :: st) h Q := T_iadd c221_909
theorem c221_910 : cod 221 910 = some (.iaload, 1) := cod_of b221 dL_law_910
theorem t221_910 {d : Nat} {h : Hp} {Q : Pst} {a : Nat} {i : Int32} {ls : List Value} {st : List Value} : T d 221 910 ls (.int i :: .ref a :: st) h Q ↔ aL (h.2.2 a) i (fun x => T d 221 911 ls (.int x :: st) h Q) := T_iaload c221_910
theorem c221_911 : cod 221 911 = some (.invokevirtual 114, 3) := cod_of b221 dL_law_911
theorem t221_911 {d : Nat} {h : Hp} {Q : Pst} {a0 a1 a2 a3 : Int32} {a : Nat} {ls : List Value} (ho : isO (h.2.2 a) 6) : T (d + 1) 221 911 ls [.int a3, .int a2, .int a1, .int a0, .ref a] h Q ↔ T d 99 0 [.ref a, .int a0, .int a1, .int a2, .int a3, un] [] h (fun x h2 => T (d + 1) 221 914 ls (rl x []) h2 Q) := T_virtualR (as := [.int a0, .int a1, .int a2, .int a3]) (r := []) m221 m99 c221_911 k20_114  rfl (by decide) rfl (by simp [wrd, Value.category]) (by simp [stk, Value.category]) rfl (by decide +kernel) ho
theorem c221_914 : cod 221 914 = some (.aload_n 2, 1) := cod_of b221 dL_law_914
theorem t221_914 {d : Nat} {h : Hp} {Q : Pst} {l0 l1 l3 : Value} {x : Nat} {st : List Value} : T d 221 914 [l0, l1, .ref x, l3] st h Q ↔ T d 221 915 [l0, l1, .ref x, l3] (.ref x :: st) h Q := T_aload_n c221_914 rfl
theorem c221_915 : cod 221 915 = some (.aload_n 0, 1) := cod_of b221 dL_law_915
theorem t221_915 {d : Nat} {h : Hp} {Q : Pst} {l1 l2 l3 : Value} {x : Nat} {st : List Value} : T d 221 915 [.ref x, l1, l2, l3] st h Q ↔ T d 221 916 [.ref x, l1, l2, l3] (.ref x :: st) h Q := T_aload_n c221_915 rfl
theorem c221_916 : cod 221 916 = some (.iload_n 3, 1) := cod_of b221 dL_law_916
theorem t221_916 {d : Nat} {h : Hp} {Q : Pst} {l0 l1 l2 : Value} {x : Int32} {st : List Value} : T d 221 916 [l0, l1, l2, .int x] st h Q ↔ T d 221 917 [l0, l1, l2, .int x] (.int x :: st) h Q := T_iload_n c221_916 rfl
theorem c221_917 : cod 221 917 = some (.iconst 1, 1) := cod_of b221 dL_law_917
theorem t221_917 {d : Nat} {h : Hp} {Q : Pst} {ls : List Value} {st : List Value} : T d 221 917 ls st h Q ↔ T d 221 918 ls (.int 1 :: st) h Q := T_iconstV c221_917 (by decide)
theorem c221_918 : cod 221 918 = some (.iadd, 1) := cod_of b221 dL_law_918
theorem t221_918 {d : Nat} {h : Hp} {Q : Pst} {x y : Int32} {ls : List Value} {st : List Value} : T d 221 918 ls (.int y :: .int x :: st) h Q ↔ T d 221 919 ls (.int (x + y) :: st) h Q := T_iadd c221_918
theorem c221_919 : cod 221 919 = some (.iaload, 1) := cod_of b221 dL_law_919
theorem t221_919 {d : Nat} {h : Hp} {Q : Pst} {a : Nat} {i : Int32} {ls : List Value} {st : List Value} : T d 221 919 ls (.int i :: .ref a :: st) h Q ↔ aL (h.2.2 a) i (fun x => T d 221 920 ls (.int x :: st) h Q) := T_iaload c221_919
theorem c221_920 : cod 221 920 = some (.aload_n 0, 1) := cod_of b221 dL_law_920
theorem t221_920 {d : Nat} {h : Hp} {Q : Pst} {l1 l2 l3 : Value} {x : Nat} {st : List Value} : T d 221 920 [.ref x, l1, l2, l3] st h Q ↔ T d 221 921 [.ref x, l1, l2, l3] (.ref x :: st) h Q := T_aload_n c221_920 rfl
theorem c221_921 : cod 221 921 = some (.iload_n 3, 1) := cod_of b221 dL_law_921
theorem t221_921 {d : Nat} {h : Hp} {Q : Pst} {l0 l1 l2 : Value} {x : Int32} {st : List Value} : T d 221 921 [l0, l1, l2, .int x] st h Q ↔ T d 221 922 [l0, l1, l2, .int x] (.int x :: st) h Q := T_iload_n c221_921 rfl
theorem c221_922 : cod 221 922 = some (.iconst 2, 1) := cod_of b221 dL_law_922
theorem t221_922 {d : Nat} {h : Hp} {Q : Pst} {ls : List Value} {st : List Value} : T d 221 922 ls st h Q ↔ T d 221 923 ls (.int 2 :: st) h Q := T_iconstV c221_922 (by decide)
theorem c221_923 : cod 221 923 = some (.iadd, 1) := cod_of b221 dL_law_923
theorem t221_923 {d : Nat} {h : Hp} {Q : Pst} {x y : Int32} {ls : List Value} {st : List Value} : T d 221 923 ls (.int y :: .int x :: st) h Q ↔ T d 221 924 ls (.int (x + y) :: st) h Q := T_iadd c221_923
theorem c221_924 : cod 221 924 = some (.iaload, 1) := cod_of b221 dL_law_924
theorem t221_924 {d : Nat} {h : Hp} {Q : Pst} {a : Nat} {i : Int32} {ls : List Value} {st : List Value} : T d 221 924 ls (.int i :: .ref a :: st) h Q ↔ aL (h.2.2 a) i (fun x => T d 221 925 ls (.int x :: st) h Q) := T_iaload c221_924
theorem c221_925 : cod 221 925 = some (.aload_n 0, 1) := cod_of b221 dL_law_925
theorem t221_925 {d : Nat} {h : Hp} {Q : Pst} {l1 l2 l3 : Value} {x : Nat} {st : List Value} : T d 221 925 [.ref x, l1, l2, l3] st h Q ↔ T d 221 926 [.ref x, l1, l2, l3] (.ref x :: st) h Q := T_aload_n c221_925 rfl
theorem c221_926 : cod 221 926 = some (.iload_n 3, 1) := cod_of b221 dL_law_926
theorem t221_926 {d : Nat} {h : Hp} {Q : Pst} {l0 l1 l2 : Value} {x : Int32} {st : List Value} : T d 221 926 [l0, l1, l2, .int x] st h Q ↔ T d 221 927 [l0, l1, l2, .int x] (.int x :: st) h Q := T_iload_n c221_926 rfl
theorem c221_927 : cod 221 927 = some (.iconst 3, 1) := cod_of b221 dL_law_927
theorem t221_927 {d : Nat} {h : Hp} {Q : Pst} {ls : List Value} {st : List Value} : T d 221 927 ls st h Q ↔ T d 221 928 ls (.int 3 :: st) h Q := T_iconstV c221_927 (by decide)
theorem c221_928 : cod 221 928 = some (.iadd, 1) := cod_of b221 dL_law_928
theorem t221_928 {d : Nat} {h : Hp} {Q : Pst} {x y : Int32} {ls : List Value} {st : List Value} : T d 221 928 ls (.int y :: .int x :: st) h Q ↔ T d 221 929 ls (.int (x + y) :: st) h Q := T_iadd c221_928
theorem c221_929 : cod 221 929 = some (.iaload, 1) := cod_of b221 dL_law_929
theorem t221_929 {d : Nat} {h : Hp} {Q : Pst} {a : Nat} {i : Int32} {ls : List Value} {st : List Value} : T d 221 929 ls (.int i :: .ref a :: st) h Q ↔ aL (h.2.2 a) i (fun x => T d 221 930 ls (.int x :: st) h Q) := T_iaload c221_929
theorem c221_930 : cod 221 930 = some (.aload_n 0, 1) := cod_of b221 dL_law_930
theorem t221_930 {d : Nat} {h : Hp} {Q : Pst} {l1 l2 l3 : Value} {x : Nat} {st : List Value} : T d 221 930 [.ref x, l1, l2, l3] st h Q ↔ T d 221 931 [.ref x, l1, l2, l3] (.ref x :: st) h Q := T_aload_n c221_930 rfl
theorem c221_931 : cod 221 931 = some (.iload_n 3, 1) := cod_of b221 dL_law_931
theorem t221_931 {d : Nat} {h : Hp} {Q : Pst} {l0 l1 l2 : Value} {x : Int32} {st : List Value} : T d 221 931 [l0, l1, l2, .int x] st h Q ↔ T d 221 932 [l0, l1, l2, .int x] (.int x :: st) h Q := T_iload_n c221_931 rfl
theorem c221_932 : cod 221 932 = some (.iconst 4, 1) := cod_of b221 dL_law_932
theorem t221_932 {d : Nat} {h : Hp} {Q : Pst} {ls : List Value} {st : List Value} : T d 221 932 ls st h Q ↔ T d 221 933 ls (.int 4 :: st) h Q := T_iconstV c221_932 (by decide)
theorem c221_933 : cod 221 933 = some (.iadd, 1) := cod_of b221 dL_law_933
theorem t221_933 {d : Nat} {h : Hp} {Q : Pst} {x y : Int32} {ls : List Value} {st : List Value} : T d 221 933 ls (.int y :: .int x :: st) h Q ↔ T d 221 934 ls (.int (x + y) :: st) h Q := T_iadd c221_933
theorem c221_934 : cod 221 934 = some (.iaload, 1) := cod_of b221 dL_law_934
theorem t221_934 {d : Nat} {h : Hp} {Q : Pst} {a : Nat} {i : Int32} {ls : List Value} {st : List Value} : T d 221 934 ls (.int i :: .ref a :: st) h Q ↔ aL (h.2.2 a) i (fun x => T d 221 935 ls (.int x :: st) h Q) := T_iaload c221_934
theorem c221_935 : cod 221 935 = some (.invokevirtual 117, 3) := cod_of b221 dL_law_935
theorem t221_935 {d : Nat} {h : Hp} {Q : Pst} {a0 a1 a2 a3 s0 : Int32} {a : Nat} {ls : List Value} (ho : isO (h.2.2 a) 7) : T (d + 1) 221 935 ls [.int a3, .int a2, .int a1, .int a0, .ref a, .int s0] h Q ↔ T d 188 0 [.ref a, .int a0, .int a1, .int a2, .int a3, un] [] h (fun x h2 => T (d + 1) 221 938 ls (rl x [.int s0]) h2 Q) := T_virtualR (as := [.int a0, .int a1, .int a2, .int a3]) (r := [.int s0]) m221 m188 c221_935 k20_117  rfl (by decide) rfl (by simp [wrd, Value.category]) (by simp [stk, Value.category]) rfl (by decide +kernel) ho
theorem c221_938 : cod 221 938 = some (.if_icmp .eq 432, 3) := cod_of b221 dL_law_938
theorem t221_938 {d : Nat} {h : Hp} {Q : Pst} {x y : Int32} {ls : List Value} {st : List Value} : T d 221 938 ls (.int y :: .int x :: st) h Q ↔ (if x = y then T d 221 1370 ls st h Q else T d 221 941 ls st h Q) := T_icmp_eq c221_938 (by decide)
theorem c221_941 : cod 221 941 = some (.iconst 0, 1) := cod_of b221 dL_law_941
theorem t221_941 {d : Nat} {h : Hp} {Q : Pst} {ls : List Value} {st : List Value} : T d 221 941 ls st h Q ↔ T d 221 942 ls (.int 0 :: st) h Q := T_iconstV c221_941 (by decide)
theorem c221_942 : cod 221 942 = some (.ireturn, 1) := cod_of b221 dL_law_942
theorem t221_942 {d : Nat} {h : Hp} {Q : Pst} {x : Int32} {ls : List Value} : T d 221 942 ls [.int x] h Q ↔ (narrow .boolean (.int x) = .int x ∧ Q (some (.int x)) h) := T_zretR m221 c221_942 rfl
theorem c221_867 : cod 221 867 = some (.aload_n 1, 1) := cod_of b221 dL_law_867
theorem t221_867 {d : Nat} {h : Hp} {Q : Pst} {l0 l2 l3 : Value} {x : Nat} {st : List Value} : T d 221 867 [l0, .ref x, l2, l3] st h Q ↔ T d 221 868 [l0, .ref x, l2, l3] (.ref x :: st) h Q := T_aload_n c221_867 rfl
theorem c221_868 : cod 221 868 = some (.aload_n 0, 1) := cod_of b221 dL_law_868
theorem t221_868 {d : Nat} {h : Hp} {Q : Pst} {l1 l2 l3 : Value} {x : Nat} {st : List Value} : T d 221 868 [.ref x, l1, l2, l3] st h Q ↔ T d 221 869 [.ref x, l1, l2, l3] (.ref x :: st) h Q := T_aload_n c221_868 rfl
theorem c221_869 : cod 221 869 = some (.iload_n 3, 1) := cod_of b221 dL_law_869
theorem t221_869 {d : Nat} {h : Hp} {Q : Pst} {l0 l1 l2 : Value} {x : Int32} {st : List Value} : T d 221 869 [l0, l1, l2, .int x] st h Q ↔ T d 221 870 [l0, l1, l2, .int x] (.int x :: st) h Q := T_iload_n c221_869 rfl
theorem c221_870 : cod 221 870 = some (.iconst 1, 1) := cod_of b221 dL_law_870
theorem t221_870 {d : Nat} {h : Hp} {Q : Pst} {ls : List Value} {st : List Value} : T d 221 870 ls st h Q ↔ T d 221 871 ls (.int 1 :: st) h Q := T_iconstV c221_870 (by decide)
theorem c221_871 : cod 221 871 = some (.iadd, 1) := cod_of b221 dL_law_871
theorem t221_871 {d : Nat} {h : Hp} {Q : Pst} {x y : Int32} {ls : List Value} {st : List Value} : T d 221 871 ls (.int y :: .int x :: st) h Q ↔ T d 221 872 ls (.int (x + y) :: st) h Q := T_iadd c221_871
theorem c221_872 : cod 221 872 = some (.iaload, 1) := cod_of b221 dL_law_872
theorem t221_872 {d : Nat} {h : Hp} {Q : Pst} {a : Nat} {i : Int32} {ls : List Value} {st : List Value} : T d 221 872 ls (.int i :: .ref a :: st) h Q ↔ aL (h.2.2 a) i (fun x => T d 221 873 ls (.int x :: st) h Q) := T_iaload c221_872
theorem c221_873 : cod 221 873 = some (.invokevirtual 110, 3) := cod_of b221 dL_law_873
theorem t221_873 {d : Nat} {h : Hp} {Q : Pst} {a0 : Int32} {a : Nat} {ls : List Value} (ho : isO (h.2.2 a) 6) : T (d + 1) 221 873 ls [.int a0, .ref a] h Q ↔ T d 98 0 [.ref a, .int a0] [] h (fun x h2 => T (d + 1) 221 876 ls (rl x []) h2 Q) := T_virtualR (as := [.int a0]) (r := []) m221 m98 c221_873 k20_110  rfl (by decide) rfl (by simp [wrd, Value.category]) (by simp [stk, Value.category]) rfl (by decide +kernel) ho
theorem c221_876 : cod 221 876 = some (.aload_n 2, 1) := cod_of b221 dL_law_876
theorem t221_876 {d : Nat} {h : Hp} {Q : Pst} {l0 l1 l3 : Value} {x : Nat} {st : List Value} : T d 221 876 [l0, l1, .ref x, l3] st h Q ↔ T d 221 877 [l0, l1, .ref x, l3] (.ref x :: st) h Q := T_aload_n c221_876 rfl
theorem c221_877 : cod 221 877 = some (.aload_n 0, 1) := cod_of b221 dL_law_877
theorem t221_877 {d : Nat} {h : Hp} {Q : Pst} {l1 l2 l3 : Value} {x : Nat} {st : List Value} : T d 221 877 [.ref x, l1, l2, l3] st h Q ↔ T d 221 878 [.ref x, l1, l2, l3] (.ref x :: st) h Q := T_aload_n c221_877 rfl
theorem c221_878 : cod 221 878 = some (.iload_n 3, 1) := cod_of b221 dL_law_878
theorem t221_878 {d : Nat} {h : Hp} {Q : Pst} {l0 l1 l2 : Value} {x : Int32} {st : List Value} : T d 221 878 [l0, l1, l2, .int x] st h Q ↔ T d 221 879 [l0, l1, l2, .int x] (.int x :: st) h Q := T_iload_n c221_878 rfl
theorem c221_879 : cod 221 879 = some (.iconst 1, 1) := cod_of b221 dL_law_879
theorem t221_879 {d : Nat} {h : Hp} {Q : Pst} {ls : List Value} {st : List Value} : T d 221 879 ls st h Q ↔ T d 221 880 ls (.int 1 :: st) h Q := T_iconstV c221_879 (by decide)
theorem c221_880 : cod 221 880 = some (.iadd, 1) := cod_of b221 dL_law_880
theorem t221_880 {d : Nat} {h : Hp} {Q : Pst} {x y : Int32} {ls : List Value} {st : List Value} : T d 221 880 ls (.int y :: .int x :: st) h Q ↔ T d 221 881 ls (.int (x + y) :: st) h Q := T_iadd c221_880
theorem c221_881 : cod 221 881 = some (.iaload, 1) := cod_of b221 dL_law_881
theorem t221_881 {d : Nat} {h : Hp} {Q : Pst} {a : Nat} {i : Int32} {ls : List Value} {st : List Value} : T d 221 881 ls (.int i :: .ref a :: st) h Q ↔ aL (h.2.2 a) i (fun x => T d 221 882 ls (.int x :: st) h Q) := T_iaload c221_881
theorem c221_882 : cod 221 882 = some (.invokevirtual 113, 3) := cod_of b221 dL_law_882
theorem t221_882 {d : Nat} {h : Hp} {Q : Pst} {a0 s0 : Int32} {a : Nat} {ls : List Value} (ho : isO (h.2.2 a) 7) : T (d + 1) 221 882 ls [.int a0, .ref a, .int s0] h Q ↔ T d 187 0 [.ref a, .int a0, un, un, un, un] [] h (fun x h2 => T (d + 1) 221 885 ls (rl x [.int s0]) h2 Q) := T_virtualR (as := [.int a0]) (r := [.int s0]) m221 m187 c221_882 k20_113  rfl (by decide) rfl (by simp [wrd, Value.category]) (by simp [stk, Value.category]) rfl (by decide +kernel) ho
theorem c221_885 : cod 221 885 = some (.if_icmp .eq 485, 3) := cod_of b221 dL_law_885
theorem t221_885 {d : Nat} {h : Hp} {Q : Pst} {x y : Int32} {ls : List Value} {st : List Value} : T d 221 885 ls (.int y :: .int x :: st) h Q ↔ (if x = y then T d 221 1370 ls st h Q else T d 221 888 ls st h Q) := T_icmp_eq c221_885 (by decide)
theorem c221_888 : cod 221 888 = some (.iconst 0, 1) := cod_of b221 dL_law_888
theorem t221_888 {d : Nat} {h : Hp} {Q : Pst} {ls : List Value} {st : List Value} : T d 221 888 ls st h Q ↔ T d 221 889 ls (.int 0 :: st) h Q := T_iconstV c221_888 (by decide)
theorem c221_889 : cod 221 889 = some (.ireturn, 1) := cod_of b221 dL_law_889
theorem t221_889 {d : Nat} {h : Hp} {Q : Pst} {x : Int32} {ls : List Value} : T d 221 889 ls [.int x] h Q ↔ (narrow .boolean (.int x) = .int x ∧ Q (some (.int x)) h) := T_zretR m221 c221_889 rfl
theorem c221_834 : cod 221 834 = some (.aload_n 1, 1) := cod_of b221 dL_law_834
theorem t221_834 {d : Nat} {h : Hp} {Q : Pst} {l0 l2 l3 : Value} {x : Nat} {st : List Value} : T d 221 834 [l0, .ref x, l2, l3] st h Q ↔ T d 221 835 [l0, .ref x, l2, l3] (.ref x :: st) h Q := T_aload_n c221_834 rfl
theorem c221_835 : cod 221 835 = some (.aload_n 0, 1) := cod_of b221 dL_law_835
theorem t221_835 {d : Nat} {h : Hp} {Q : Pst} {l1 l2 l3 : Value} {x : Nat} {st : List Value} : T d 221 835 [.ref x, l1, l2, l3] st h Q ↔ T d 221 836 [.ref x, l1, l2, l3] (.ref x :: st) h Q := T_aload_n c221_835 rfl
theorem c221_836 : cod 221 836 = some (.iload_n 3, 1) := cod_of b221 dL_law_836
theorem t221_836 {d : Nat} {h : Hp} {Q : Pst} {l0 l1 l2 : Value} {x : Int32} {st : List Value} : T d 221 836 [l0, l1, l2, .int x] st h Q ↔ T d 221 837 [l0, l1, l2, .int x] (.int x :: st) h Q := T_iload_n c221_836 rfl
theorem c221_837 : cod 221 837 = some (.iconst 1, 1) := cod_of b221 dL_law_837
theorem t221_837 {d : Nat} {h : Hp} {Q : Pst} {ls : List Value} {st : List Value} : T d 221 837 ls st h Q ↔ T d 221 838 ls (.int 1 :: st) h Q := T_iconstV c221_837 (by decide)
theorem c221_838 : cod 221 838 = some (.iadd, 1) := cod_of b221 dL_law_838
theorem t221_838 {d : Nat} {h : Hp} {Q : Pst} {x y : Int32} {ls : List Value} {st : List Value} : T d 221 838 ls (.int y :: .int x :: st) h Q ↔ T d 221 839 ls (.int (x + y) :: st) h Q := T_iadd c221_838
theorem c221_839 : cod 221 839 = some (.iaload, 1) := cod_of b221 dL_law_839
theorem t221_839 {d : Nat} {h : Hp} {Q : Pst} {a : Nat} {i : Int32} {ls : List Value} {st : List Value} : T d 221 839 ls (.int i :: .ref a :: st) h Q ↔ aL (h.2.2 a) i (fun x => T d 221 840 ls (.int x :: st) h Q) := T_iaload c221_839
theorem c221_840 : cod 221 840 = some (.aload_n 0, 1) := cod_of b221 dL_law_840
theorem t221_840 {d : Nat} {h : Hp} {Q : Pst} {l1 l2 l3 : Value} {x : Nat} {st : List Value} : T d 221 840 [.ref x, l1, l2, l3] st h Q ↔ T d 221 841 [.ref x, l1, l2, l3] (.ref x :: st) h Q := T_aload_n c221_840 rfl
theorem c221_841 : cod 221 841 = some (.iload_n 3, 1) := cod_of b221 dL_law_841
theorem t221_841 {d : Nat} {h : Hp} {Q : Pst} {l0 l1 l2 : Value} {x : Int32} {st : List Value} : T d 221 841 [l0, l1, l2, .int x] st h Q ↔ T d 221 842 [l0, l1, l2, .int x] (.int x :: st) h Q := T_iload_n c221_841 rfl
theorem c221_842 : cod 221 842 = some (.iconst 2, 1) := cod_of b221 dL_law_842
theorem t221_842 {d : Nat} {h : Hp} {Q : Pst} {ls : List Value} {st : List Value} : T d 221 842 ls st h Q ↔ T d 221 843 ls (.int 2 :: st) h Q := T_iconstV c221_842 (by decide)
theorem c221_843 : cod 221 843 = some (.iadd, 1) := cod_of b221 dL_law_843
theorem t221_843 {d : Nat} {h : Hp} {Q : Pst} {x y : Int32} {ls : List Value} {st : List Value} : T d 221 843 ls (.int y :: .int x :: st) h Q ↔ T d 221 844 ls (.int (x + y) :: st) h Q := T_iadd c221_843
theorem c221_844 : cod 221 844 = some (.iaload, 1) := cod_of b221 dL_law_844
theorem t221_844 {d : Nat} {h : Hp} {Q : Pst} {a : Nat} {i : Int32} {ls : List Value} {st : List Value} : T d 221 844 ls (.int i :: .ref a :: st) h Q ↔ aL (h.2.2 a) i (fun x => T d 221 845 ls (.int x :: st) h Q) := T_iaload c221_844
theorem c221_845 : cod 221 845 = some (.invokevirtual 106, 3) := cod_of b221 dL_law_845
theorem t221_845 {d : Nat} {h : Hp} {Q : Pst} {a0 a1 : Int32} {a : Nat} {ls : List Value} (ho : isO (h.2.2 a) 6) : T (d + 1) 221 845 ls [.int a1, .int a0, .ref a] h Q ↔ T d 97 0 [.ref a, .int a0, .int a1, un] [] h (fun x h2 => T (d + 1) 221 848 ls (rl x []) h2 Q) := T_virtualR (as := [.int a0, .int a1]) (r := []) m221 m97 c221_845 k20_106  rfl (by decide) rfl (by simp [wrd, Value.category]) (by simp [stk, Value.category]) rfl (by decide +kernel) ho
theorem c221_848 : cod 221 848 = some (.aload_n 2, 1) := cod_of b221 dL_law_848
theorem t221_848 {d : Nat} {h : Hp} {Q : Pst} {l0 l1 l3 : Value} {x : Nat} {st : List Value} : T d 221 848 [l0, l1, .ref x, l3] st h Q ↔ T d 221 849 [l0, l1, .ref x, l3] (.ref x :: st) h Q := T_aload_n c221_848 rfl
theorem c221_849 : cod 221 849 = some (.aload_n 0, 1) := cod_of b221 dL_law_849
theorem t221_849 {d : Nat} {h : Hp} {Q : Pst} {l1 l2 l3 : Value} {x : Nat} {st : List Value} : T d 221 849 [.ref x, l1, l2, l3] st h Q ↔ T d 221 850 [.ref x, l1, l2, l3] (.ref x :: st) h Q := T_aload_n c221_849 rfl
theorem c221_850 : cod 221 850 = some (.iload_n 3, 1) := cod_of b221 dL_law_850
theorem t221_850 {d : Nat} {h : Hp} {Q : Pst} {l0 l1 l2 : Value} {x : Int32} {st : List Value} : T d 221 850 [l0, l1, l2, .int x] st h Q ↔ T d 221 851 [l0, l1, l2, .int x] (.int x :: st) h Q := T_iload_n c221_850 rfl
theorem c221_851 : cod 221 851 = some (.iconst 1, 1) := cod_of b221 dL_law_851
theorem t221_851 {d : Nat} {h : Hp} {Q : Pst} {ls : List Value} {st : List Value} : T d 221 851 ls st h Q ↔ T d 221 852 ls (.int 1 :: st) h Q := T_iconstV c221_851 (by decide)
theorem c221_852 : cod 221 852 = some (.iadd, 1) := cod_of b221 dL_law_852
theorem t221_852 {d : Nat} {h : Hp} {Q : Pst} {x y : Int32} {ls : List Value} {st : List Value} : T d 221 852 ls (.int y :: .int x :: st) h Q ↔ T d 221 853 ls (.int (x + y) :: st) h Q := T_iadd c221_852
theorem c221_853 : cod 221 853 = some (.iaload, 1) := cod_of b221 dL_law_853
theorem t221_853 {d : Nat} {h : Hp} {Q : Pst} {a : Nat} {i : Int32} {ls : List Value} {st : List Value} : T d 221 853 ls (.int i :: .ref a :: st) h Q ↔ aL (h.2.2 a) i (fun x => T d 221 854 ls (.int x :: st) h Q) := T_iaload c221_853
theorem c221_854 : cod 221 854 = some (.aload_n 0, 1) := cod_of b221 dL_law_854
theorem t221_854 {d : Nat} {h : Hp} {Q : Pst} {l1 l2 l3 : Value} {x : Nat} {st : List Value} : T d 221 854 [.ref x, l1, l2, l3] st h Q ↔ T d 221 855 [.ref x, l1, l2, l3] (.ref x :: st) h Q := T_aload_n c221_854 rfl
theorem c221_855 : cod 221 855 = some (.iload_n 3, 1) := cod_of b221 dL_law_855
theorem t221_855 {d : Nat} {h : Hp} {Q : Pst} {l0 l1 l2 : Value} {x : Int32} {st : List Value} : T d 221 855 [l0, l1, l2, .int x] st h Q ↔ T d 221 856 [l0, l1, l2, .int x] (.int x :: st) h Q := T_iload_n c221_855 rfl
theorem c221_856 : cod 221 856 = some (.iconst 2, 1) := cod_of b221 dL_law_856
theorem t221_856 {d : Nat} {h : Hp} {Q : Pst} {ls : List Value} {st : List Value} : T d 221 856 ls st h Q ↔ T d 221 857 ls (.int 2 :: st) h Q := T_iconstV c221_856 (by decide)
theorem c221_857 : cod 221 857 = some (.iadd, 1) := cod_of b221 dL_law_857
theorem t221_857 {d : Nat} {h : Hp} {Q : Pst} {x y : Int32} {ls : List Value} {st : List Value} : T d 221 857 ls (.int y :: .int x :: st) h Q ↔ T d 221 858 ls (.int (x + y) :: st) h Q := T_iadd c221_857
theorem c221_858 : cod 221 858 = some (.iaload, 1) := cod_of b221 dL_law_858
theorem t221_858 {d : Nat} {h : Hp} {Q : Pst} {a : Nat} {i : Int32} {ls : List Value} {st : List Value} : T d 221 858 ls (.int i :: .ref a :: st) h Q ↔ aL (h.2.2 a) i (fun x => T d 221 859 ls (.int x :: st) h Q) := T_iaload c221_858
theorem c221_859 : cod 221 859 = some (.invokevirtual 109, 3) := cod_of b221 dL_law_859
theorem t221_859 {d : Nat} {h : Hp} {Q : Pst} {a0 a1 s0 : Int32} {a : Nat} {ls : List Value} (ho : isO (h.2.2 a) 7) : T (d + 1) 221 859 ls [.int a1, .int a0, .ref a, .int s0] h Q ↔ T d 185 0 [.ref a, .int a0, .int a1, un, un, un, un, un] [] h (fun x h2 => T (d + 1) 221 862 ls (rl x [.int s0]) h2 Q) := T_virtualR (as := [.int a0, .int a1]) (r := [.int s0]) m221 m185 c221_859 k20_109  rfl (by decide) rfl (by simp [wrd, Value.category]) (by simp [stk, Value.category]) rfl (by decide +kernel) ho
theorem c221_862 : cod 221 862 = some (.if_icmp .eq 508, 3) := cod_of b221 dL_law_862
theorem t221_862 {d : Nat} {h : Hp} {Q : Pst} {x y : Int32} {ls : List Value} {st : List Value} : T d 221 862 ls (.int y :: .int x :: st) h Q ↔ (if x = y then T d 221 1370 ls st h Q else T d 221 865 ls st h Q) := T_icmp_eq c221_862 (by decide)
theorem c221_865 : cod 221 865 = some (.iconst 0, 1) := cod_of b221 dL_law_865
theorem t221_865 {d : Nat} {h : Hp} {Q : Pst} {ls : List Value} {st : List Value} : T d 221 865 ls st h Q ↔ T d 221 866 ls (.int 0 :: st) h Q := T_iconstV c221_865 (by decide)
theorem c221_866 : cod 221 866 = some (.ireturn, 1) := cod_of b221 dL_law_866
theorem t221_866 {d : Nat} {h : Hp} {Q : Pst} {x : Int32} {ls : List Value} : T d 221 866 ls [.int x] h Q ↔ (narrow .boolean (.int x) = .int x ∧ Q (some (.int x)) h) := T_zretR m221 c221_866 rfl
theorem c221_781 : cod 221 781 = some (.aload_n 1, 1) := cod_of b221 dL_law_781
theorem t221_781 {d : Nat} {h : Hp} {Q : Pst} {l0 l2 l3 : Value} {x : Nat} {st : List Value} : T d 221 781 [l0, .ref x, l2, l3] st h Q ↔ T d 221 782 [l0, .ref x, l2, l3] (.ref x :: st) h Q := T_aload_n c221_781 rfl
theorem c221_782 : cod 221 782 = some (.aload_n 0, 1) := cod_of b221 dL_law_782
theorem t221_782 {d : Nat} {h : Hp} {Q : Pst} {l1 l2 l3 : Value} {x : Nat} {st : List Value} : T d 221 782 [.ref x, l1, l2, l3] st h Q ↔ T d 221 783 [.ref x, l1, l2, l3] (.ref x :: st) h Q := T_aload_n c221_782 rfl
theorem c221_783 : cod 221 783 = some (.iload_n 3, 1) := cod_of b221 dL_law_783
theorem t221_783 {d : Nat} {h : Hp} {Q : Pst} {l0 l1 l2 : Value} {x : Int32} {st : List Value} : T d 221 783 [l0, l1, l2, .int x] st h Q ↔ T d 221 784 [l0, l1, l2, .int x] (.int x :: st) h Q := T_iload_n c221_783 rfl
theorem c221_784 : cod 221 784 = some (.iconst 1, 1) := cod_of b221 dL_law_784
theorem t221_784 {d : Nat} {h : Hp} {Q : Pst} {ls : List Value} {st : List Value} : T d 221 784 ls st h Q ↔ T d 221 785 ls (.int 1 :: st) h Q := T_iconstV c221_784 (by decide)
theorem c221_785 : cod 221 785 = some (.iadd, 1) := cod_of b221 dL_law_785
theorem t221_785 {d : Nat} {h : Hp} {Q : Pst} {x y : Int32} {ls : List Value} {st : List Value} : T d 221 785 ls (.int y :: .int x :: st) h Q ↔ T d 221 786 ls (.int (x + y) :: st) h Q := T_iadd c221_785
theorem c221_786 : cod 221 786 = some (.iaload, 1) := cod_of b221 dL_law_786
theorem t221_786 {d : Nat} {h : Hp} {Q : Pst} {a : Nat} {i : Int32} {ls : List Value} {st : List Value} : T d 221 786 ls (.int i :: .ref a :: st) h Q ↔ aL (h.2.2 a) i (fun x => T d 221 787 ls (.int x :: st) h Q) := T_iaload c221_786
theorem c221_787 : cod 221 787 = some (.aload_n 0, 1) := cod_of b221 dL_law_787
theorem t221_787 {d : Nat} {h : Hp} {Q : Pst} {l1 l2 l3 : Value} {x : Nat} {st : List Value} : T d 221 787 [.ref x, l1, l2, l3] st h Q ↔ T d 221 788 [.ref x, l1, l2, l3] (.ref x :: st) h Q := T_aload_n c221_787 rfl
theorem c221_788 : cod 221 788 = some (.iload_n 3, 1) := cod_of b221 dL_law_788
theorem t221_788 {d : Nat} {h : Hp} {Q : Pst} {l0 l1 l2 : Value} {x : Int32} {st : List Value} : T d 221 788 [l0, l1, l2, .int x] st h Q ↔ T d 221 789 [l0, l1, l2, .int x] (.int x :: st) h Q := T_iload_n c221_788 rfl
theorem c221_789 : cod 221 789 = some (.iconst 2, 1) := cod_of b221 dL_law_789
theorem t221_789 {d : Nat} {h : Hp} {Q : Pst} {ls : List Value} {st : List Value} : T d 221 789 ls st h Q ↔ T d 221 790 ls (.int 2 :: st) h Q := T_iconstV c221_789 (by decide)
theorem c221_790 : cod 221 790 = some (.iadd, 1) := cod_of b221 dL_law_790
theorem t221_790 {d : Nat} {h : Hp} {Q : Pst} {x y : Int32} {ls : List Value} {st : List Value} : T d 221 790 ls (.int y :: .int x :: st) h Q ↔ T d 221 791 ls (.int (x + y) :: st) h Q := T_iadd c221_790
theorem c221_791 : cod 221 791 = some (.iaload, 1) := cod_of b221 dL_law_791
theorem t221_791 {d : Nat} {h : Hp} {Q : Pst} {a : Nat} {i : Int32} {ls : List Value} {st : List Value} : T d 221 791 ls (.int i :: .ref a :: st) h Q ↔ aL (h.2.2 a) i (fun x => T d 221 792 ls (.int x :: st) h Q) := T_iaload c221_791
theorem c221_792 : cod 221 792 = some (.aload_n 0, 1) := cod_of b221 dL_law_792
theorem t221_792 {d : Nat} {h : Hp} {Q : Pst} {l1 l2 l3 : Value} {x : Nat} {st : List Value} : T d 221 792 [.ref x, l1, l2, l3] st h Q ↔ T d 221 793 [.ref x, l1, l2, l3] (.ref x :: st) h Q := T_aload_n c221_792 rfl
theorem c221_793 : cod 221 793 = some (.iload_n 3, 1) := cod_of b221 dL_law_793
theorem t221_793 {d : Nat} {h : Hp} {Q : Pst} {l0 l1 l2 : Value} {x : Int32} {st : List Value} : T d 221 793 [l0, l1, l2, .int x] st h Q ↔ T d 221 794 [l0, l1, l2, .int x] (.int x :: st) h Q := T_iload_n c221_793 rfl
theorem c221_794 : cod 221 794 = some (.iconst 3, 1) := cod_of b221 dL_law_794
theorem t221_794 {d : Nat} {h : Hp} {Q : Pst} {ls : List Value} {st : List Value} : T d 221 794 ls st h Q ↔ T d 221 795 ls (.int 3 :: st) h Q := T_iconstV c221_794 (by decide)
theorem c221_795 : cod 221 795 = some (.iadd, 1) := cod_of b221 dL_law_795
theorem t221_795 {d : Nat} {h : Hp} {Q : Pst} {x y : Int32} {ls : List Value} {st : List Value} : T d 221 795 ls (.int y :: .int x :: st) h Q ↔ T d 221 796 ls (.int (x + y) :: st) h Q := T_iadd c221_795
theorem c221_796 : cod 221 796 = some (.iaload, 1) := cod_of b221 dL_law_796
theorem t221_796 {d : Nat} {h : Hp} {Q : Pst} {a : Nat} {i : Int32} {ls : List Value} {st : List Value} : T d 221 796 ls (.int i :: .ref a :: st) h Q ↔ aL (h.2.2 a) i (fun x => T d 221 797 ls (.int x :: st) h Q) := T_iaload c221_796
theorem c221_797 : cod 221 797 = some (.aload_n 0, 1) := cod_of b221 dL_law_797
theorem t221_797 {d : Nat} {h : Hp} {Q : Pst} {l1 l2 l3 : Value} {x : Nat} {st : List Value} : T d 221 797 [.ref x, l1, l2, l3] st h Q ↔ T d 221 798 [.ref x, l1, l2, l3] (.ref x :: st) h Q := T_aload_n c221_797 rfl
theorem c221_798 : cod 221 798 = some (.iload_n 3, 1) := cod_of b221 dL_law_798
theorem t221_798 {d : Nat} {h : Hp} {Q : Pst} {l0 l1 l2 : Value} {x : Int32} {st : List Value} : T d 221 798 [l0, l1, l2, .int x] st h Q ↔ T d 221 799 [l0, l1, l2, .int x] (.int x :: st) h Q := T_iload_n c221_798 rfl
theorem c221_799 : cod 221 799 = some (.iconst 4, 1) := cod_of b221 dL_law_799
theorem t221_799 {d : Nat} {h : Hp} {Q : Pst} {ls : List Value} {st : List Value} : T d 221 799 ls st h Q ↔ T d 221 800 ls (.int 4 :: st) h Q := T_iconstV c221_799 (by decide)
theorem c221_800 : cod 221 800 = some (.iadd, 1) := cod_of b221 dL_law_800
theorem t221_800 {d : Nat} {h : Hp} {Q : Pst} {x y : Int32} {ls : List Value} {st : List Value} : T d 221 800 ls (.int y :: .int x :: st) h Q ↔ T d 221 801 ls (.int (x + y) :: st) h Q := T_iadd c221_800
theorem c221_801 : cod 221 801 = some (.iaload, 1) := cod_of b221 dL_law_801
theorem t221_801 {d : Nat} {h : Hp} {Q : Pst} {a : Nat} {i : Int32} {ls : List Value} {st : List Value} : T d 221 801 ls (.int i :: .ref a :: st) h Q ↔ aL (h.2.2 a) i (fun x => T d 221 802 ls (.int x :: st) h Q) := T_iaload c221_801
theorem c221_802 : cod 221 802 = some (.invokevirtual 101, 3) := cod_of b221 dL_law_802
theorem t221_802 {d : Nat} {h : Hp} {Q : Pst} {a0 a1 a2 a3 : Int32} {a : Nat} {ls : List Value} (ho : isO (h.2.2 a) 6) : T (d + 1) 221 802 ls [.int a3, .int a2, .int a1, .int a0, .ref a] h Q ↔ T d 96 0 [.ref a, .int a0, .int a1, .int a2, .int a3] [] h (fun x h2 => T (d + 1) 221 805 ls (rl x []) h2 Q) := T_virtualR (as := [.int a0, .int a1, .int a2, .int a3]) (r := []) m221 m96 c221_802 k20_101  rfl (by decide) rfl (by simp [wrd, Value.category]) (by simp [stk, Value.category]) rfl (by decide +kernel) ho
theorem c221_805 : cod 221 805 = some (.aload_n 2, 1) := cod_of b221 dL_law_805
theorem t221_805 {d : Nat} {h : Hp} {Q : Pst} {l0 l1 l3 : Value} {x : Nat} {st : List Value} : T d 221 805 [l0, l1, .ref x, l3] st h Q ↔ T d 221 806 [l0, l1, .ref x, l3] (.ref x :: st) h Q := T_aload_n c221_805 rfl
theorem c221_806 : cod 221 806 = some (.aload_n 0, 1) := cod_of b221 dL_law_806
theorem t221_806 {d : Nat} {h : Hp} {Q : Pst} {l1 l2 l3 : Value} {x : Nat} {st : List Value} : T d 221 806 [.ref x, l1, l2, l3] st h Q ↔ T d 221 807 [.ref x, l1, l2, l3] (.ref x :: st) h Q := T_aload_n c221_806 rfl
theorem c221_807 : cod 221 807 = some (.iload_n 3, 1) := cod_of b221 dL_law_807
theorem t221_807 {d : Nat} {h : Hp} {Q : Pst} {l0 l1 l2 : Value} {x : Int32} {st : List Value} : T d 221 807 [l0, l1, l2, .int x] st h Q ↔ T d 221 808 [l0, l1, l2, .int x] (.int x :: st) h Q := T_iload_n c221_807 rfl
theorem c221_808 : cod 221 808 = some (.iconst 1, 1) := cod_of b221 dL_law_808
theorem t221_808 {d : Nat} {h : Hp} {Q : Pst} {ls : List Value} {st : List Value} : T d 221 808 ls st h Q ↔ T d 221 809 ls (.int 1 :: st) h Q := T_iconstV c221_808 (by decide)
theorem c221_809 : cod 221 809 = some (.iadd, 1) := cod_of b221 dL_law_809
theorem t221_809 {d : Nat} {h : Hp} {Q : Pst} {x y : Int32} {ls : List Value} {st : List Value} : T d 221 809 ls (.int y :: .int x :: st) h Q ↔ T d 221 810 ls (.int (x + y) :: st) h Q := T_iadd c221_809
theorem c221_810 : cod 221 810 = some (.iaload, 1) := cod_of b221 dL_law_810
theorem t221_810 {d : Nat} {h : Hp} {Q : Pst} {a : Nat} {i : Int32} {ls : List Value} {st : List Value} : T d 221 810 ls (.int i :: .ref a :: st) h Q ↔ aL (h.2.2 a) i (fun x => T d 221 811 ls (.int x :: st) h Q) := T_iaload c221_810
theorem c221_811 : cod 221 811 = some (.aload_n 0, 1) := cod_of b221 dL_law_811
theorem t221_811 {d : Nat} {h : Hp} {Q : Pst} {l1 l2 l3 : Value} {x : Nat} {st : List Value} : T d 221 811 [.ref x, l1, l2, l3] st h Q ↔ T d 221 812 [.ref x, l1, l2, l3] (.ref x :: st) h Q := T_aload_n c221_811 rfl
theorem c221_812 : cod 221 812 = some (.iload_n 3, 1) := cod_of b221 dL_law_812
theorem t221_812 {d : Nat} {h : Hp} {Q : Pst} {l0 l1 l2 : Value} {x : Int32} {st : List Value} : T d 221 812 [l0, l1, l2, .int x] st h Q ↔ T d 221 813 [l0, l1, l2, .int x] (.int x :: st) h Q := T_iload_n c221_812 rfl
theorem c221_813 : cod 221 813 = some (.iconst 2, 1) := cod_of b221 dL_law_813
theorem t221_813 {d : Nat} {h : Hp} {Q : Pst} {ls : List Value} {st : List Value} : T d 221 813 ls st h Q ↔ T d 221 814 ls (.int 2 :: st) h Q := T_iconstV c221_813 (by decide)
theorem c221_814 : cod 221 814 = some (.iadd, 1) := cod_of b221 dL_law_814
theorem t221_814 {d : Nat} {h : Hp} {Q : Pst} {x y : Int32} {ls : List Value} {st : List Value} : T d 221 814 ls (.int y :: .int x :: st) h Q ↔ T d 221 815 ls (.int (x + y) :: st) h Q := T_iadd c221_814
theorem c221_815 : cod 221 815 = some (.iaload, 1) := cod_of b221 dL_law_815
theorem t221_815 {d : Nat} {h : Hp} {Q : Pst} {a : Nat} {i : Int32} {ls : List Value} {st : List Value} : T d 221 815 ls (.int i :: .ref a :: st) h Q ↔ aL (h.2.2 a) i (fun x => T d 221 816 ls (.int x :: st) h Q) := T_iaload c221_815
theorem c221_816 : cod 221 816 = some (.aload_n 0, 1) := cod_of b221 dL_law_816
theorem t221_816 {d : Nat} {h : Hp} {Q : Pst} {l1 l2 l3 : Value} {x : Nat} {st : List Value} : T d 221 816 [.ref x, l1, l2, l3] st h Q ↔ T d 221 817 [.ref x, l1, l2, l3] (.ref x :: st) h Q := T_aload_n c221_816 rfl
theorem c221_817 : cod 221 817 = some (.iload_n 3, 1) := cod_of b221 dL_law_817
theorem t221_817 {d : Nat} {h : Hp} {Q : Pst} {l0 l1 l2 : Value} {x : Int32} {st : List Value} : T d 221 817 [l0, l1, l2, .int x] st h Q ↔ T d 221 818 [l0, l1, l2, .int x] (.int x :: st) h Q := T_iload_n c221_817 rfl
theorem c221_818 : cod 221 818 = some (.iconst 3, 1) := cod_of b221 dL_law_818
theorem t221_818 {d : Nat} {h : Hp} {Q : Pst} {ls : List Value} {st : List Value} : T d 221 818 ls st h Q ↔ T d 221 819 ls (.int 3 :: st) h Q := T_iconstV c221_818 (by decide)
theorem c221_819 : cod 221 819 = some (.iadd, 1) := cod_of b221 dL_law_819
theorem t221_819 {d : Nat} {h : Hp} {Q : Pst} {x y : Int32} {ls : List Value} {st : List Value} : T d 221 819 ls (.int y :: .int x :: st) h Q ↔ T d 221 820 ls (.int (x + y) :: st) h Q := T_iadd c221_819
theorem c221_820 : cod 221 820 = some (.iaload, 1) := cod_of b221 dL_law_820
theorem t221_820 {d : Nat} {h : Hp} {Q : Pst} {a : Nat} {i : Int32} {ls : List Value} {st : List Value} : T d 221 820 ls (.int i :: .ref a :: st) h Q ↔ aL (h.2.2 a) i (fun x => T d 221 821 ls (.int x :: st) h Q) := T_iaload c221_820
theorem c221_821 : cod 221 821 = some (.aload_n 0, 1) := cod_of b221 dL_law_821
theorem t221_821 {d : Nat} {h : Hp} {Q : Pst} {l1 l2 l3 : Value} {x : Nat} {st : List Value} : T d 221 821 [.ref x, l1, l2, l3] st h Q ↔ T d 221 822 [.ref x, l1, l2, l3] (.ref x :: st) h Q := T_aload_n c221_821 rfl
theorem c221_822 : cod 221 822 = some (.iload_n 3, 1) := cod_of b221 dL_law_822
theorem t221_822 {d : Nat} {h : Hp} {Q : Pst} {l0 l1 l2 : Value} {x : Int32} {st : List Value} : T d 221 822 [l0, l1, l2, .int x] st h Q ↔ T d 221 823 [l0, l1, l2, .int x] (.int x :: st) h Q := T_iload_n c221_822 rfl
theorem c221_823 : cod 221 823 = some (.iconst 4, 1) := cod_of b221 dL_law_823
theorem t221_823 {d : Nat} {h : Hp} {Q : Pst} {ls : List Value} {st : List Value} : T d 221 823 ls st h Q ↔ T d 221 824 ls (.int 4 :: st) h Q := T_iconstV c221_823 (by decide)
theorem c221_824 : cod 221 824 = some (.iadd, 1) := cod_of b221 dL_law_824
theorem t221_824 {d : Nat} {h : Hp} {Q : Pst} {x y : Int32} {ls : List Value} {st : List Value} : T d 221 824 ls (.int y :: .int x :: st) h Q ↔ T d 221 825 ls (.int (x + y) :: st) h Q := T_iadd c221_824
theorem c221_825 : cod 221 825 = some (.iaload, 1) := cod_of b221 dL_law_825
theorem t221_825 {d : Nat} {h : Hp} {Q : Pst} {a : Nat} {i : Int32} {ls : List Value} {st : List Value} : T d 221 825 ls (.int i :: .ref a :: st) h Q ↔ aL (h.2.2 a) i (fun x => T d 221 826 ls (.int x :: st) h Q) := T_iaload c221_825
theorem c221_826 : cod 221 826 = some (.invokevirtual 105, 3) := cod_of b221 dL_law_826
theorem t221_826 {d : Nat} {h : Hp} {Q : Pst} {a0 a1 a2 a3 s0 : Int32} {a : Nat} {ls : List Value} (ho : isO (h.2.2 a) 7) : T (d + 1) 221 826 ls [.int a3, .int a2, .int a1, .int a0, .ref a, .int s0] h Q ↔ T d 183 0 [.ref a, .int a0, .int a1, .int a2, .int a3, un] [] h (fun x h2 => T (d + 1) 221 829 ls (rl x [.int s0]) h2 Q) := T_virtualR (as := [.int a0, .int a1, .int a2, .int a3]) (r := [.int s0]) m221 m183 c221_826 k20_105  rfl (by decide) rfl (by simp [wrd, Value.category]) (by simp [stk, Value.category]) rfl (by decide +kernel) ho
theorem c221_829 : cod 221 829 = some (.if_icmp .eq 541, 3) := cod_of b221 dL_law_829
theorem t221_829 {d : Nat} {h : Hp} {Q : Pst} {x y : Int32} {ls : List Value} {st : List Value} : T d 221 829 ls (.int y :: .int x :: st) h Q ↔ (if x = y then T d 221 1370 ls st h Q else T d 221 832 ls st h Q) := T_icmp_eq c221_829 (by decide)
theorem c221_832 : cod 221 832 = some (.iconst 0, 1) := cod_of b221 dL_law_832
theorem t221_832 {d : Nat} {h : Hp} {Q : Pst} {ls : List Value} {st : List Value} : T d 221 832 ls st h Q ↔ T d 221 833 ls (.int 0 :: st) h Q := T_iconstV c221_832 (by decide)
theorem c221_833 : cod 221 833 = some (.ireturn, 1) := cod_of b221 dL_law_833
theorem t221_833 {d : Nat} {h : Hp} {Q : Pst} {x : Int32} {ls : List Value} : T d 221 833 ls [.int x] h Q ↔ (narrow .boolean (.int x) = .int x ∧ Q (some (.int x)) h) := T_zretR m221 c221_833 rfl
theorem c221_758 : cod 221 758 = some (.aload_n 1, 1) := cod_of b221 dL_law_758
theorem t221_758 {d : Nat} {h : Hp} {Q : Pst} {l0 l2 l3 : Value} {x : Nat} {st : List Value} : T d 221 758 [l0, .ref x, l2, l3] st h Q ↔ T d 221 759 [l0, .ref x, l2, l3] (.ref x :: st) h Q := T_aload_n c221_758 rfl
theorem c221_759 : cod 221 759 = some (.aload_n 0, 1) := cod_of b221 dL_law_759
theorem t221_759 {d : Nat} {h : Hp} {Q : Pst} {l1 l2 l3 : Value} {x : Nat} {st : List Value} : T d 221 759 [.ref x, l1, l2, l3] st h Q ↔ T d 221 760 [.ref x, l1, l2, l3] (.ref x :: st) h Q := T_aload_n c221_759 rfl
theorem c221_760 : cod 221 760 = some (.iload_n 3, 1) := cod_of b221 dL_law_760
theorem t221_760 {d : Nat} {h : Hp} {Q : Pst} {l0 l1 l2 : Value} {x : Int32} {st : List Value} : T d 221 760 [l0, l1, l2, .int x] st h Q ↔ T d 221 761 [l0, l1, l2, .int x] (.int x :: st) h Q := T_iload_n c221_760 rfl
theorem c221_761 : cod 221 761 = some (.iconst 1, 1) := cod_of b221 dL_law_761
theorem t221_761 {d : Nat} {h : Hp} {Q : Pst} {ls : List Value} {st : List Value} : T d 221 761 ls st h Q ↔ T d 221 762 ls (.int 1 :: st) h Q := T_iconstV c221_761 (by decide)
theorem c221_762 : cod 221 762 = some (.iadd, 1) := cod_of b221 dL_law_762
theorem t221_762 {d : Nat} {h : Hp} {Q : Pst} {x y : Int32} {ls : List Value} {st : List Value} : T d 221 762 ls (.int y :: .int x :: st) h Q ↔ T d 221 763 ls (.int (x + y) :: st) h Q := T_iadd c221_762
theorem c221_763 : cod 221 763 = some (.iaload, 1) := cod_of b221 dL_law_763
theorem t221_763 {d : Nat} {h : Hp} {Q : Pst} {a : Nat} {i : Int32} {ls : List Value} {st : List Value} : T d 221 763 ls (.int i :: .ref a :: st) h Q ↔ aL (h.2.2 a) i (fun x => T d 221 764 ls (.int x :: st) h Q) := T_iaload c221_763
theorem c221_764 : cod 221 764 = some (.invokevirtual 97, 3) := cod_of b221 dL_law_764
theorem t221_764 {d : Nat} {h : Hp} {Q : Pst} {a0 : Int32} {a : Nat} {ls : List Value} (ho : isO (h.2.2 a) 6) : T (d + 1) 221 764 ls [.int a0, .ref a] h Q ↔ T d 95 0 [.ref a, .int a0] [] h (fun x h2 => T (d + 1) 221 767 ls (rl x []) h2 Q) := T_virtualR (as := [.int a0]) (r := []) m221 m95 c221_764 k20_97  rfl (by decide) rfl (by simp [wrd, Value.category]) (by simp [stk, Value.category]) rfl (by decide +kernel) ho
theorem c221_767 : cod 221 767 = some (.aload_n 2, 1) := cod_of b221 dL_law_767
theorem t221_767 {d : Nat} {h : Hp} {Q : Pst} {l0 l1 l3 : Value} {x : Nat} {st : List Value} : T d 221 767 [l0, l1, .ref x, l3] st h Q ↔ T d 221 768 [l0, l1, .ref x, l3] (.ref x :: st) h Q := T_aload_n c221_767 rfl
theorem c221_768 : cod 221 768 = some (.aload_n 0, 1) := cod_of b221 dL_law_768
theorem t221_768 {d : Nat} {h : Hp} {Q : Pst} {l1 l2 l3 : Value} {x : Nat} {st : List Value} : T d 221 768 [.ref x, l1, l2, l3] st h Q ↔ T d 221 769 [.ref x, l1, l2, l3] (.ref x :: st) h Q := T_aload_n c221_768 rfl
theorem c221_769 : cod 221 769 = some (.iload_n 3, 1) := cod_of b221 dL_law_769
theorem t221_769 {d : Nat} {h : Hp} {Q : Pst} {l0 l1 l2 : Value} {x : Int32} {st : List Value} : T d 221 769 [l0, l1, l2, .int x] st h Q ↔ T d 221 770 [l0, l1, l2, .int x] (.int x :: st) h Q := T_iload_n c221_769 rfl
theorem c221_770 : cod 221 770 = some (.iconst 1, 1) := cod_of b221 dL_law_770
theorem t221_770 {d : Nat} {h : Hp} {Q : Pst} {ls : List Value} {st : List Value} : T d 221 770 ls st h Q ↔ T d 221 771 ls (.int 1 :: st) h Q := T_iconstV c221_770 (by decide)
theorem c221_771 : cod 221 771 = some (.iadd, 1) := cod_of b221 dL_law_771
theorem t221_771 {d : Nat} {h : Hp} {Q : Pst} {x y : Int32} {ls : List Value} {st : List Value} : T d 221 771 ls (.int y :: .int x :: st) h Q ↔ T d 221 772 ls (.int (x + y) :: st) h Q := T_iadd c221_771
theorem c221_772 : cod 221 772 = some (.iaload, 1) := cod_of b221 dL_law_772
theorem t221_772 {d : Nat} {h : Hp} {Q : Pst} {a : Nat} {i : Int32} {ls : List Value} {st : List Value} : T d 221 772 ls (.int i :: .ref a :: st) h Q ↔ aL (h.2.2 a) i (fun x => T d 221 773 ls (.int x :: st) h Q) := T_iaload c221_772
theorem c221_773 : cod 221 773 = some (.invokevirtual 100, 3) := cod_of b221 dL_law_773
theorem t221_773 {d : Nat} {h : Hp} {Q : Pst} {a0 s0 : Int32} {a : Nat} {ls : List Value} (ho : isO (h.2.2 a) 7) : T (d + 1) 221 773 ls [.int a0, .ref a, .int s0] h Q ↔ T d 182 0 [.ref a, .int a0, un, un, un, un] [] h (fun x h2 => T (d + 1) 221 776 ls (rl x [.int s0]) h2 Q) := T_virtualR (as := [.int a0]) (r := [.int s0]) m221 m182 c221_773 k20_100  rfl (by decide) rfl (by simp [wrd, Value.category]) (by simp [stk, Value.category]) rfl (by decide +kernel) ho
theorem c221_776 : cod 221 776 = some (.if_icmp .eq 594, 3) := cod_of b221 dL_law_776
theorem t221_776 {d : Nat} {h : Hp} {Q : Pst} {x y : Int32} {ls : List Value} {st : List Value} : T d 221 776 ls (.int y :: .int x :: st) h Q ↔ (if x = y then T d 221 1370 ls st h Q else T d 221 779 ls st h Q) := T_icmp_eq c221_776 (by decide)
theorem c221_779 : cod 221 779 = some (.iconst 0, 1) := cod_of b221 dL_law_779
theorem t221_779 {d : Nat} {h : Hp} {Q : Pst} {ls : List Value} {st : List Value} : T d 221 779 ls st h Q ↔ T d 221 780 ls (.int 0 :: st) h Q := T_iconstV c221_779 (by decide)
theorem c221_780 : cod 221 780 = some (.ireturn, 1) := cod_of b221 dL_law_780
theorem t221_780 {d : Nat} {h : Hp} {Q : Pst} {x : Int32} {ls : List Value} : T d 221 780 ls [.int x] h Q ↔ (narrow .boolean (.int x) = .int x ∧ Q (some (.int x)) h) := T_zretR m221 c221_780 rfl
theorem c221_715 : cod 221 715 = some (.aload_n 1, 1) := cod_of b221 dL_law_715
theorem t221_715 {d : Nat} {h : Hp} {Q : Pst} {l0 l2 l3 : Value} {x : Nat} {st : List Value} : T d 221 715 [l0, .ref x, l2, l3] st h Q ↔ T d 221 716 [l0, .ref x, l2, l3] (.ref x :: st) h Q := T_aload_n c221_715 rfl
theorem c221_716 : cod 221 716 = some (.aload_n 0, 1) := cod_of b221 dL_law_716
theorem t221_716 {d : Nat} {h : Hp} {Q : Pst} {l1 l2 l3 : Value} {x : Nat} {st : List Value} : T d 221 716 [.ref x, l1, l2, l3] st h Q ↔ T d 221 717 [.ref x, l1, l2, l3] (.ref x :: st) h Q := T_aload_n c221_716 rfl
theorem c221_717 : cod 221 717 = some (.iload_n 3, 1) := cod_of b221 dL_law_717
theorem t221_717 {d : Nat} {h : Hp} {Q : Pst} {l0 l1 l2 : Value} {x : Int32} {st : List Value} : T d 221 717 [l0, l1, l2, .int x] st h Q ↔ T d 221 718 [l0, l1, l2, .int x] (.int x :: st) h Q := T_iload_n c221_717 rfl
theorem c221_718 : cod 221 718 = some (.iconst 1, 1) := cod_of b221 dL_law_718
theorem t221_718 {d : Nat} {h : Hp} {Q : Pst} {ls : List Value} {st : List Value} : T d 221 718 ls st h Q ↔ T d 221 719 ls (.int 1 :: st) h Q := T_iconstV c221_718 (by decide)
theorem c221_719 : cod 221 719 = some (.iadd, 1) := cod_of b221 dL_law_719
theorem t221_719 {d : Nat} {h : Hp} {Q : Pst} {x y : Int32} {ls : List Value} {st : List Value} : T d 221 719 ls (.int y :: .int x :: st) h Q ↔ T d 221 720 ls (.int (x + y) :: st) h Q := T_iadd c221_719
theorem c221_720 : cod 221 720 = some (.iaload, 1) := cod_of b221 dL_law_720
theorem t221_720 {d : Nat} {h : Hp} {Q : Pst} {a : Nat} {i : Int32} {ls : List Value} {st : List Value} : T d 221 720 ls (.int i :: .ref a :: st) h Q ↔ aL (h.2.2 a) i (fun x => T d 221 721 ls (.int x :: st) h Q) := T_iaload c221_720
theorem c221_721 : cod 221 721 = some (.aload_n 0, 1) := cod_of b221 dL_law_721
theorem t221_721 {d : Nat} {h : Hp} {Q : Pst} {l1 l2 l3 : Value} {x : Nat} {st : List Value} : T d 221 721 [.ref x, l1, l2, l3] st h Q ↔ T d 221 722 [.ref x, l1, l2, l3] (.ref x :: st) h Q := T_aload_n c221_721 rfl
theorem c221_722 : cod 221 722 = some (.iload_n 3, 1) := cod_of b221 dL_law_722
theorem t221_722 {d : Nat} {h : Hp} {Q : Pst} {l0 l1 l2 : Value} {x : Int32} {st : List Value} : T d 221 722 [l0, l1, l2, .int x] st h Q ↔ T d 221 723 [l0, l1, l2, .int x] (.int x :: st) h Q := T_iload_n c221_722 rfl
theorem c221_723 : cod 221 723 = some (.iconst 2, 1) := cod_of b221 dL_law_723
theorem t221_723 {d : Nat} {h : Hp} {Q : Pst} {ls : List Value} {st : List Value} : T d 221 723 ls st h Q ↔ T d 221 724 ls (.int 2 :: st) h Q := T_iconstV c221_723 (by decide)
theorem c221_724 : cod 221 724 = some (.iadd, 1) := cod_of b221 dL_law_724
theorem t221_724 {d : Nat} {h : Hp} {Q : Pst} {x y : Int32} {ls : List Value} {st : List Value} : T d 221 724 ls (.int y :: .int x :: st) h Q ↔ T d 221 725 ls (.int (x + y) :: st) h Q := T_iadd c221_724
theorem c221_725 : cod 221 725 = some (.iaload, 1) := cod_of b221 dL_law_725
theorem t221_725 {d : Nat} {h : Hp} {Q : Pst} {a : Nat} {i : Int32} {ls : List Value} {st : List Value} : T d 221 725 ls (.int i :: .ref a :: st) h Q ↔ aL (h.2.2 a) i (fun x => T d 221 726 ls (.int x :: st) h Q) := T_iaload c221_725
theorem c221_726 : cod 221 726 = some (.aload_n 0, 1) := cod_of b221 dL_law_726
theorem t221_726 {d : Nat} {h : Hp} {Q : Pst} {l1 l2 l3 : Value} {x : Nat} {st : List Value} : T d 221 726 [.ref x, l1, l2, l3] st h Q ↔ T d 221 727 [.ref x, l1, l2, l3] (.ref x :: st) h Q := T_aload_n c221_726 rfl
theorem c221_727 : cod 221 727 = some (.iload_n 3, 1) := cod_of b221 dL_law_727
theorem t221_727 {d : Nat} {h : Hp} {Q : Pst} {l0 l1 l2 : Value} {x : Int32} {st : List Value} : T d 221 727 [l0, l1, l2, .int x] st h Q ↔ T d 221 728 [l0, l1, l2, .int x] (.int x :: st) h Q := T_iload_n c221_727 rfl
theorem c221_728 : cod 221 728 = some (.iconst 3, 1) := cod_of b221 dL_law_728
theorem t221_728 {d : Nat} {h : Hp} {Q : Pst} {ls : List Value} {st : List Value} : T d 221 728 ls st h Q ↔ T d 221 729 ls (.int 3 :: st) h Q := T_iconstV c221_728 (by decide)
theorem c221_729 : cod 221 729 = some (.iadd, 1) := cod_of b221 dL_law_729
theorem t221_729 {d : Nat} {h : Hp} {Q : Pst} {x y : Int32} {ls : List Value} {st : List Value} : T d 221 729 ls (.int y :: .int x :: st) h Q ↔ T d 221 730 ls (.int (x + y) :: st) h Q := T_iadd c221_729
theorem c221_730 : cod 221 730 = some (.iaload, 1) := cod_of b221 dL_law_730
theorem t221_730 {d : Nat} {h : Hp} {Q : Pst} {a : Nat} {i : Int32} {ls : List Value} {st : List Value} : T d 221 730 ls (.int i :: .ref a :: st) h Q ↔ aL (h.2.2 a) i (fun x => T d 221 731 ls (.int x :: st) h Q) := T_iaload c221_730
theorem c221_731 : cod 221 731 = some (.invokevirtual 92, 3) := cod_of b221 dL_law_731
theorem t221_731 {d : Nat} {h : Hp} {Q : Pst} {a0 a1 a2 : Int32} {a : Nat} {ls : List Value} (ho : isO (h.2.2 a) 6) : T (d + 1) 221 731 ls [.int a2, .int a1, .int a0, .ref a] h Q ↔ T d 94 0 [.ref a, .int a0, .int a1, .int a2, un] [] h (fun x h2 => T (d + 1) 221 734 ls (rl x []) h2 Q) := T_virtualR (as := [.int a0, .int a1, .int a2]) (r := []) m221 m94 c221_731 k20_92  rfl (by decide) rfl (by simp [wrd, Value.category]) (by simp [stk, Value.category]) rfl (by decide +kernel) ho
theorem c221_734 : cod 221 734 = some (.aload_n 2, 1) := cod_of b221 dL_law_734
theorem t221_734 {d : Nat} {h : Hp} {Q : Pst} {l0 l1 l3 : Value} {x : Nat} {st : List Value} : T d 221 734 [l0, l1, .ref x, l3] st h Q ↔ T d 221 735 [l0, l1, .ref x, l3] (.ref x :: st) h Q := T_aload_n c221_734 rfl
theorem c221_735 : cod 221 735 = some (.aload_n 0, 1) := cod_of b221 dL_law_735
theorem t221_735 {d : Nat} {h : Hp} {Q : Pst} {l1 l2 l3 : Value} {x : Nat} {st : List Value} : T d 221 735 [.ref x, l1, l2, l3] st h Q ↔ T d 221 736 [.ref x, l1, l2, l3] (.ref x :: st) h Q := T_aload_n c221_735 rfl
theorem c221_736 : cod 221 736 = some (.iload_n 3, 1) := cod_of b221 dL_law_736
theorem t221_736 {d : Nat} {h : Hp} {Q : Pst} {l0 l1 l2 : Value} {x : Int32} {st : List Value} : T d 221 736 [l0, l1, l2, .int x] st h Q ↔ T d 221 737 [l0, l1, l2, .int x] (.int x :: st) h Q := T_iload_n c221_736 rfl
theorem c221_737 : cod 221 737 = some (.iconst 1, 1) := cod_of b221 dL_law_737
theorem t221_737 {d : Nat} {h : Hp} {Q : Pst} {ls : List Value} {st : List Value} : T d 221 737 ls st h Q ↔ T d 221 738 ls (.int 1 :: st) h Q := T_iconstV c221_737 (by decide)
theorem c221_738 : cod 221 738 = some (.iadd, 1) := cod_of b221 dL_law_738
theorem t221_738 {d : Nat} {h : Hp} {Q : Pst} {x y : Int32} {ls : List Value} {st : List Value} : T d 221 738 ls (.int y :: .int x :: st) h Q ↔ T d 221 739 ls (.int (x + y) :: st) h Q := T_iadd c221_738
theorem c221_739 : cod 221 739 = some (.iaload, 1) := cod_of b221 dL_law_739
theorem t221_739 {d : Nat} {h : Hp} {Q : Pst} {a : Nat} {i : Int32} {ls : List Value} {st : List Value} : T d 221 739 ls (.int i :: .ref a :: st) h Q ↔ aL (h.2.2 a) i (fun x => T d 221 740 ls (.int x :: st) h Q) := T_iaload c221_739
theorem c221_740 : cod 221 740 = some (.aload_n 0, 1) := cod_of b221 dL_law_740
theorem t221_740 {d : Nat} {h : Hp} {Q : Pst} {l1 l2 l3 : Value} {x : Nat} {st : List Value} : T d 221 740 [.ref x, l1, l2, l3] st h Q ↔ T d 221 741 [.ref x, l1, l2, l3] (.ref x :: st) h Q := T_aload_n c221_740 rfl
theorem c221_741 : cod 221 741 = some (.iload_n 3, 1) := cod_of b221 dL_law_741
theorem t221_741 {d : Nat} {h : Hp} {Q : Pst} {l0 l1 l2 : Value} {x : Int32} {st : List Value} : T d 221 741 [l0, l1, l2, .int x] st h Q ↔ T d 221 742 [l0, l1, l2, .int x] (.int x :: st) h Q := T_iload_n c221_741 rfl
theorem c221_742 : cod 221 742 = some (.iconst 2, 1) := cod_of b221 dL_law_742
theorem t221_742 {d : Nat} {h : Hp} {Q : Pst} {ls : List Value} {st : List Value} : T d 221 742 ls st h Q ↔ T d 221 743 ls (.int 2 :: st) h Q := T_iconstV c221_742 (by decide)
theorem c221_743 : cod 221 743 = some (.iadd, 1) := cod_of b221 dL_law_743
theorem t221_743 {d : Nat} {h : Hp} {Q : Pst} {x y : Int32} {ls : List Value} {st : List Value} : T d 221 743 ls (.int y :: .int x :: st) h Q ↔ T d 221 744 ls (.int (x + y) :: st) h Q := T_iadd c221_743
theorem c221_744 : cod 221 744 = some (.iaload, 1) := cod_of b221 dL_law_744
theorem t221_744 {d : Nat} {h : Hp} {Q : Pst} {a : Nat} {i : Int32} {ls : List Value} {st : List Value} : T d 221 744 ls (.int i :: .ref a :: st) h Q ↔ aL (h.2.2 a) i (fun x => T d 221 745 ls (.int x :: st) h Q) := T_iaload c221_744
theorem c221_745 : cod 221 745 = some (.aload_n 0, 1) := cod_of b221 dL_law_745
theorem t221_745 {d : Nat} {h : Hp} {Q : Pst} {l1 l2 l3 : Value} {x : Nat} {st : List Value} : T d 221 745 [.ref x, l1, l2, l3] st h Q ↔ T d 221 746 [.ref x, l1, l2, l3] (.ref x :: st) h Q := T_aload_n c221_745 rfl
theorem c221_746 : cod 221 746 = some (.iload_n 3, 1) := cod_of b221 dL_law_746
theorem t221_746 {d : Nat} {h : Hp} {Q : Pst} {l0 l1 l2 : Value} {x : Int32} {st : List Value} : T d 221 746 [l0, l1, l2, .int x] st h Q ↔ T d 221 747 [l0, l1, l2, .int x] (.int x :: st) h Q := T_iload_n c221_746 rfl
theorem c221_747 : cod 221 747 = some (.iconst 3, 1) := cod_of b221 dL_law_747
theorem t221_747 {d : Nat} {h : Hp} {Q : Pst} {ls : List Value} {st : List Value} : T d 221 747 ls st h Q ↔ T d 221 748 ls (.int 3 :: st) h Q := T_iconstV c221_747 (by decide)
theorem c221_748 : cod 221 748 = some (.iadd, 1) := cod_of b221 dL_law_748
theorem t221_748 {d : Nat} {h : Hp} {Q : Pst} {x y : Int32} {ls : List Value} {st : List Value} : T d 221 748 ls (.int y :: .int x :: st) h Q ↔ T d 221 749 ls (.int (x + y) :: st) h Q := T_iadd c221_748
theorem c221_749 : cod 221 749 = some (.iaload, 1) := cod_of b221 dL_law_749
theorem t221_749 {d : Nat} {h : Hp} {Q : Pst} {a : Nat} {i : Int32} {ls : List Value} {st : List Value} : T d 221 749 ls (.int i :: .ref a :: st) h Q ↔ aL (h.2.2 a) i (fun x => T d 221 750 ls (.int x :: st) h Q) := T_iaload c221_749
theorem c221_750 : cod 221 750 = some (.invokevirtual 96, 3) := cod_of b221 dL_law_750
theorem t221_750 {d : Nat} {h : Hp} {Q : Pst} {a0 a1 a2 s0 : Int32} {a : Nat} {ls : List Value} (ho : isO (h.2.2 a) 7) : T (d + 1) 221 750 ls [.int a2, .int a1, .int a0, .ref a, .int s0] h Q ↔ T d 179 0 [.ref a, .int a0, .int a1, .int a2, un] [] h (fun x h2 => T (d + 1) 221 753 ls (rl x [.int s0]) h2 Q) := T_virtualR (as := [.int a0, .int a1, .int a2]) (r := [.int s0]) m221 m179 c221_750 k20_96  rfl (by decide) rfl (by simp [wrd, Value.category]) (by simp [stk, Value.category]) rfl (by decide +kernel) ho
theorem c221_753 : cod 221 753 = some (.if_icmp .eq 617, 3) := cod_of b221 dL_law_753
theorem t221_753 {d : Nat} {h : Hp} {Q : Pst} {x y : Int32} {ls : List Value} {st : List Value} : T d 221 753 ls (.int y :: .int x :: st) h Q ↔ (if x = y then T d 221 1370 ls st h Q else T d 221 756 ls st h Q) := T_icmp_eq c221_753 (by decide)
theorem c221_756 : cod 221 756 = some (.iconst 0, 1) := cod_of b221 dL_law_756
theorem t221_756 {d : Nat} {h : Hp} {Q : Pst} {ls : List Value} {st : List Value} : T d 221 756 ls st h Q ↔ T d 221 757 ls (.int 0 :: st) h Q := T_iconstV c221_756 (by decide)
theorem c221_757 : cod 221 757 = some (.ireturn, 1) := cod_of b221 dL_law_757
theorem t221_757 {d : Nat} {h : Hp} {Q : Pst} {x : Int32} {ls : List Value} : T d 221 757 ls [.int x] h Q ↔ (narrow .boolean (.int x) = .int x ∧ Q (some (.int x)) h) := T_zretR m221 c221_757 rfl
theorem c221_692 : cod 221 692 = some (.aload_n 1, 1) := cod_of b221 dL_law_692
theorem t221_692 {d : Nat} {h : Hp} {Q : Pst} {l0 l2 l3 : Value} {x : Nat} {st : List Value} : T d 221 692 [l0, .ref x, l2, l3] st h Q ↔ T d 221 693 [l0, .ref x, l2, l3] (.ref x :: st) h Q := T_aload_n c221_692 rfl
theorem c221_693 : cod 221 693 = some (.aload_n 0, 1) := cod_of b221 dL_law_693
theorem t221_693 {d : Nat} {h : Hp} {Q : Pst} {l1 l2 l3 : Value} {x : Nat} {st : List Value} : T d 221 693 [.ref x, l1, l2, l3] st h Q ↔ T d 221 694 [.ref x, l1, l2, l3] (.ref x :: st) h Q := T_aload_n c221_693 rfl
theorem c221_694 : cod 221 694 = some (.iload_n 3, 1) := cod_of b221 dL_law_694
theorem t221_694 {d : Nat} {h : Hp} {Q : Pst} {l0 l1 l2 : Value} {x : Int32} {st : List Value} : T d 221 694 [l0, l1, l2, .int x] st h Q ↔ T d 221 695 [l0, l1, l2, .int x] (.int x :: st) h Q := T_iload_n c221_694 rfl
theorem c221_695 : cod 221 695 = some (.iconst 1, 1) := cod_of b221 dL_law_695
theorem t221_695 {d : Nat} {h : Hp} {Q : Pst} {ls : List Value} {st : List Value} : T d 221 695 ls st h Q ↔ T d 221 696 ls (.int 1 :: st) h Q := T_iconstV c221_695 (by decide)
theorem c221_696 : cod 221 696 = some (.iadd, 1) := cod_of b221 dL_law_696
theorem t221_696 {d : Nat} {h : Hp} {Q : Pst} {x y : Int32} {ls : List Value} {st : List Value} : T d 221 696 ls (.int y :: .int x :: st) h Q ↔ T d 221 697 ls (.int (x + y) :: st) h Q := T_iadd c221_696
theorem c221_697 : cod 221 697 = some (.iaload, 1) := cod_of b221 dL_law_697
theorem t221_697 {d : Nat} {h : Hp} {Q : Pst} {a : Nat} {i : Int32} {ls : List Value} {st : List Value} : T d 221 697 ls (.int i :: .ref a :: st) h Q ↔ aL (h.2.2 a) i (fun x => T d 221 698 ls (.int x :: st) h Q) := T_iaload c221_697
theorem c221_698 : cod 221 698 = some (.invokevirtual 88, 3) := cod_of b221 dL_law_698
theorem t221_698 {d : Nat} {h : Hp} {Q : Pst} {a0 : Int32} {a : Nat} {ls : List Value} (ho : isO (h.2.2 a) 6) : T (d + 1) 221 698 ls [.int a0, .ref a] h Q ↔ T d 93 0 [.ref a, .int a0, un, un, un] [] h (fun x h2 => T (d + 1) 221 701 ls (rl x []) h2 Q) := T_virtualR (as := [.int a0]) (r := []) m221 m93 c221_698 k20_88  rfl (by decide) rfl (by simp [wrd, Value.category]) (by simp [stk, Value.category]) rfl (by decide +kernel) ho
theorem c221_701 : cod 221 701 = some (.aload_n 2, 1) := cod_of b221 dL_law_701
theorem t221_701 {d : Nat} {h : Hp} {Q : Pst} {l0 l1 l3 : Value} {x : Nat} {st : List Value} : T d 221 701 [l0, l1, .ref x, l3] st h Q ↔ T d 221 702 [l0, l1, .ref x, l3] (.ref x :: st) h Q := T_aload_n c221_701 rfl
theorem c221_702 : cod 221 702 = some (.aload_n 0, 1) := cod_of b221 dL_law_702
theorem t221_702 {d : Nat} {h : Hp} {Q : Pst} {l1 l2 l3 : Value} {x : Nat} {st : List Value} : T d 221 702 [.ref x, l1, l2, l3] st h Q ↔ T d 221 703 [.ref x, l1, l2, l3] (.ref x :: st) h Q := T_aload_n c221_702 rfl
theorem c221_703 : cod 221 703 = some (.iload_n 3, 1) := cod_of b221 dL_law_703
theorem t221_703 {d : Nat} {h : Hp} {Q : Pst} {l0 l1 l2 : Value} {x : Int32} {st : List Value} : T d 221 703 [l0, l1, l2, .int x] st h Q ↔ T d 221 704 [l0, l1, l2, .int x] (.int x :: st) h Q := T_iload_n c221_703 rfl
theorem c221_704 : cod 221 704 = some (.iconst 1, 1) := cod_of b221 dL_law_704
theorem t221_704 {d : Nat} {h : Hp} {Q : Pst} {ls : List Value} {st : List Value} : T d 221 704 ls st h Q ↔ T d 221 705 ls (.int 1 :: st) h Q := T_iconstV c221_704 (by decide)
theorem c221_705 : cod 221 705 = some (.iadd, 1) := cod_of b221 dL_law_705
theorem t221_705 {d : Nat} {h : Hp} {Q : Pst} {x y : Int32} {ls : List Value} {st : List Value} : T d 221 705 ls (.int y :: .int x :: st) h Q ↔ T d 221 706 ls (.int (x + y) :: st) h Q := T_iadd c221_705
theorem c221_706 : cod 221 706 = some (.iaload, 1) := cod_of b221 dL_law_706
theorem t221_706 {d : Nat} {h : Hp} {Q : Pst} {a : Nat} {i : Int32} {ls : List Value} {st : List Value} : T d 221 706 ls (.int i :: .ref a :: st) h Q ↔ aL (h.2.2 a) i (fun x => T d 221 707 ls (.int x :: st) h Q) := T_iaload c221_706
theorem c221_707 : cod 221 707 = some (.invokevirtual 91, 3) := cod_of b221 dL_law_707
theorem t221_707 {d : Nat} {h : Hp} {Q : Pst} {a0 s0 : Int32} {a : Nat} {ls : List Value} (ho : isO (h.2.2 a) 7) : T (d + 1) 221 707 ls [.int a0, .ref a, .int s0] h Q ↔ T d 178 0 [.ref a, .int a0, un, un, un, un] [] h (fun x h2 => T (d + 1) 221 710 ls (rl x [.int s0]) h2 Q) := T_virtualR (as := [.int a0]) (r := [.int s0]) m221 m178 c221_707 k20_91  rfl (by decide) rfl (by simp [wrd, Value.category]) (by simp [stk, Value.category]) rfl (by decide +kernel) ho
theorem c221_710 : cod 221 710 = some (.if_icmp .eq 660, 3) := cod_of b221 dL_law_710
theorem t221_710 {d : Nat} {h : Hp} {Q : Pst} {x y : Int32} {ls : List Value} {st : List Value} : T d 221 710 ls (.int y :: .int x :: st) h Q ↔ (if x = y then T d 221 1370 ls st h Q else T d 221 713 ls st h Q) := T_icmp_eq c221_710 (by decide)
theorem c221_713 : cod 221 713 = some (.iconst 0, 1) := cod_of b221 dL_law_713
theorem t221_713 {d : Nat} {h : Hp} {Q : Pst} {ls : List Value} {st : List Value} : T d 221 713 ls st h Q ↔ T d 221 714 ls (.int 0 :: st) h Q := T_iconstV c221_713 (by decide)
theorem c221_714 : cod 221 714 = some (.ireturn, 1) := cod_of b221 dL_law_714
theorem t221_714 {d : Nat} {h : Hp} {Q : Pst} {x : Int32} {ls : List Value} : T d 221 714 ls [.int x] h Q ↔ (narrow .boolean (.int x) = .int x ∧ Q (some (.int x)) h) := T_zretR m221 c221_714 rfl
theorem c221_659 : cod 221 659 = some (.aload_n 1, 1) := cod_of b221 dL_law_659
theorem t221_659 {d : Nat} {h : Hp} {Q : Pst} {l0 l2 l3 : Value} {x : Nat} {st : List Value} : T d 221 659 [l0, .ref x, l2, l3] st h Q ↔ T d 221 660 [l0, .ref x, l2, l3] (.ref x :: st) h Q := T_aload_n c221_659 rfl
theorem c221_660 : cod 221 660 = some (.aload_n 0, 1) := cod_of b221 dL_law_660
theorem t221_660 {d : Nat} {h : Hp} {Q : Pst} {l1 l2 l3 : Value} {x : Nat} {st : List Value} : T d 221 660 [.ref x, l1, l2, l3] st h Q ↔ T d 221 661 [.ref x, l1, l2, l3] (.ref x :: st) h Q := T_aload_n c221_660 rfl
theorem c221_661 : cod 221 661 = some (.iload_n 3, 1) := cod_of b221 dL_law_661
theorem t221_661 {d : Nat} {h : Hp} {Q : Pst} {l0 l1 l2 : Value} {x : Int32} {st : List Value} : T d 221 661 [l0, l1, l2, .int x] st h Q ↔ T d 221 662 [l0, l1, l2, .int x] (.int x :: st) h Q := T_iload_n c221_661 rfl
theorem c221_662 : cod 221 662 = some (.iconst 1, 1) := cod_of b221 dL_law_662
theorem t221_662 {d : Nat} {h : Hp} {Q : Pst} {ls : List Value} {st : List Value} : T d 221 662 ls st h Q ↔ T d 221 663 ls (.int 1 :: st) h Q := T_iconstV c221_662 (by decide)
theorem c221_663 : cod 221 663 = some (.iadd, 1) := cod_of b221 dL_law_663
theorem t221_663 {d : Nat} {h : Hp} {Q : Pst} {x y : Int32} {ls : List Value} {st : List Value} : T d 221 663 ls (.int y :: .int x :: st) h Q ↔ T d 221 664 ls (.int (x + y) :: st) h Q := T_iadd c221_663
theorem c221_664 : cod 221 664 = some (.iaload, 1) := cod_of b221 dL_law_664
theorem t221_664 {d : Nat} {h : Hp} {Q : Pst} {a : Nat} {i : Int32} {ls : List Value} {st : List Value} : T d 221 664 ls (.int i :: .ref a :: st) h Q ↔ aL (h.2.2 a) i (fun x => T d 221 665 ls (.int x :: st) h Q) := T_iaload c221_664
theorem c221_665 : cod 221 665 = some (.aload_n 0, 1) := cod_of b221 dL_law_665
theorem t221_665 {d : Nat} {h : Hp} {Q : Pst} {l1 l2 l3 : Value} {x : Nat} {st : List Value} : T d 221 665 [.ref x, l1, l2, l3] st h Q ↔ T d 221 666 [.ref x, l1, l2, l3] (.ref x :: st) h Q := T_aload_n c221_665 rfl
theorem c221_666 : cod 221 666 = some (.iload_n 3, 1) := cod_of b221 dL_law_666
theorem t221_666 {d : Nat} {h : Hp} {Q : Pst} {l0 l1 l2 : Value} {x : Int32} {st : List Value} : T d 221 666 [l0, l1, l2, .int x] st h Q ↔ T d 221 667 [l0, l1, l2, .int x] (.int x :: st) h Q := T_iload_n c221_666 rfl
theorem c221_667 : cod 221 667 = some (.iconst 2, 1) := cod_of b221 dL_law_667
theorem t221_667 {d : Nat} {h : Hp} {Q : Pst} {ls : List Value} {st : List Value} : T d 221 667 ls st h Q ↔ T d 221 668 ls (.int 2 :: st) h Q := T_iconstV c221_667 (by decide)
theorem c221_668 : cod 221 668 = some (.iadd, 1) := cod_of b221 dL_law_668
theorem t221_668 {d : Nat} {h : Hp} {Q : Pst} {x y : Int32} {ls : List Value} {st : List Value} : T d 221 668 ls (.int y :: .int x :: st) h Q ↔ T d 221 669 ls (.int (x + y) :: st) h Q := T_iadd c221_668
theorem c221_669 : cod 221 669 = some (.iaload, 1) := cod_of b221 dL_law_669
theorem t221_669 {d : Nat} {h : Hp} {Q : Pst} {a : Nat} {i : Int32} {ls : List Value} {st : List Value} : T d 221 669 ls (.int i :: .ref a :: st) h Q ↔ aL (h.2.2 a) i (fun x => T d 221 670 ls (.int x :: st) h Q) := T_iaload c221_669
theorem c221_670 : cod 221 670 = some (.invokevirtual 84, 3) := cod_of b221 dL_law_670
theorem t221_670 {d : Nat} {h : Hp} {Q : Pst} {a0 a1 : Int32} {a : Nat} {ls : List Value} (ho : isO (h.2.2 a) 6) : T (d + 1) 221 670 ls [.int a1, .int a0, .ref a] h Q ↔ T d 92 0 [.ref a, .int a0, .int a1, un, un, un, un] [] h (fun x h2 => T (d + 1) 221 673 ls (rl x []) h2 Q) := T_virtualR (as := [.int a0, .int a1]) (r := []) m221 m92 c221_670 k20_84  rfl (by decide) rfl (by simp [wrd, Value.category]) (by simp [stk, Value.category]) rfl (by decide +kernel) ho
theorem c221_673 : cod 221 673 = some (.aload_n 2, 1) := cod_of b221 dL_law_673
theorem t221_673 {d : Nat} {h : Hp} {Q : Pst} {l0 l1 l3 : Value} {x : Nat} {st : List Value} : T d 221 673 [l0, l1, .ref x, l3] st h Q ↔ T d 221 674 [l0, l1, .ref x, l3] (.ref x :: st) h Q := T_aload_n c221_673 rfl
theorem c221_674 : cod 221 674 = some (.aload_n 0, 1) := cod_of b221 dL_law_674
theorem t221_674 {d : Nat} {h : Hp} {Q : Pst} {l1 l2 l3 : Value} {x : Nat} {st : List Value} : T d 221 674 [.ref x, l1, l2, l3] st h Q ↔ T d 221 675 [.ref x, l1, l2, l3] (.ref x :: st) h Q := T_aload_n c221_674 rfl
theorem c221_675 : cod 221 675 = some (.iload_n 3, 1) := cod_of b221 dL_law_675
theorem t221_675 {d : Nat} {h : Hp} {Q : Pst} {l0 l1 l2 : Value} {x : Int32} {st : List Value} : T d 221 675 [l0, l1, l2, .int x] st h Q ↔ T d 221 676 [l0, l1, l2, .int x] (.int x :: st) h Q := T_iload_n c221_675 rfl
theorem c221_676 : cod 221 676 = some (.iconst 1, 1) := cod_of b221 dL_law_676
theorem t221_676 {d : Nat} {h : Hp} {Q : Pst} {ls : List Value} {st : List Value} : T d 221 676 ls st h Q ↔ T d 221 677 ls (.int 1 :: st) h Q := T_iconstV c221_676 (by decide)
theorem c221_677 : cod 221 677 = some (.iadd, 1) := cod_of b221 dL_law_677
theorem t221_677 {d : Nat} {h : Hp} {Q : Pst} {x y : Int32} {ls : List Value} {st : List Value} : T d 221 677 ls (.int y :: .int x :: st) h Q ↔ T d 221 678 ls (.int (x + y) :: st) h Q := T_iadd c221_677
theorem c221_678 : cod 221 678 = some (.iaload, 1) := cod_of b221 dL_law_678
theorem t221_678 {d : Nat} {h : Hp} {Q : Pst} {a : Nat} {i : Int32} {ls : List Value} {st : List Value} : T d 221 678 ls (.int i :: .ref a :: st) h Q ↔ aL (h.2.2 a) i (fun x => T d 221 679 ls (.int x :: st) h Q) := T_iaload c221_678
theorem c221_679 : cod 221 679 = some (.aload_n 0, 1) := cod_of b221 dL_law_679
theorem t221_679 {d : Nat} {h : Hp} {Q : Pst} {l1 l2 l3 : Value} {x : Nat} {st : List Value} : T d 221 679 [.ref x, l1, l2, l3] st h Q ↔ T d 221 680 [.ref x, l1, l2, l3] (.ref x :: st) h Q := T_aload_n c221_679 rfl
theorem c221_680 : cod 221 680 = some (.iload_n 3, 1) := cod_of b221 dL_law_680
theorem t221_680 {d : Nat} {h : Hp} {Q : Pst} {l0 l1 l2 : Value} {x : Int32} {st : List Value} : T d 221 680 [l0, l1, l2, .int x] st h Q ↔ T d 221 681 [l0, l1, l2, .int x] (.int x :: st) h Q := T_iload_n c221_680 rfl
theorem c221_681 : cod 221 681 = some (.iconst 2, 1) := cod_of b221 dL_law_681
theorem t221_681 {d : Nat} {h : Hp} {Q : Pst} {ls : List Value} {st : List Value} : T d 221 681 ls st h Q ↔ T d 221 682 ls (.int 2 :: st) h Q := T_iconstV c221_681 (by decide)
theorem c221_682 : cod 221 682 = some (.iadd, 1) := cod_of b221 dL_law_682
theorem t221_682 {d : Nat} {h : Hp} {Q : Pst} {x y : Int32} {ls : List Value} {st : List Value} : T d 221 682 ls (.int y :: .int x :: st) h Q ↔ T d 221 683 ls (.int (x + y) :: st) h Q := T_iadd c221_682
theorem c221_683 : cod 221 683 = some (.iaload, 1) := cod_of b221 dL_law_683
theorem t221_683 {d : Nat} {h : Hp} {Q : Pst} {a : Nat} {i : Int32} {ls : List Value} {st : List Value} : T d 221 683 ls (.int i :: .ref a :: st) h Q ↔ aL (h.2.2 a) i (fun x => T d 221 684 ls (.int x :: st) h Q) := T_iaload c221_683
theorem c221_684 : cod 221 684 = some (.invokevirtual 87, 3) := cod_of b221 dL_law_684
theorem t221_684 {d : Nat} {h : Hp} {Q : Pst} {a0 a1 s0 : Int32} {a : Nat} {ls : List Value} (ho : isO (h.2.2 a) 7) : T (d + 1) 221 684 ls [.int a1, .int a0, .ref a, .int s0] h Q ↔ T d 177 0 [.ref a, .int a0, .int a1, un, un, un, un] [] h (fun x h2 => T (d + 1) 221 687 ls (rl x [.int s0]) h2 Q) := T_virtualR (as := [.int a0, .int a1]) (r := [.int s0]) m221 m177 c221_684 k20_87  rfl (by decide) rfl (by simp [wrd, Value.category]) (by simp [stk, Value.category]) rfl (by decide +kernel) ho
theorem c221_687 : cod 221 687 = some (.if_icmp .eq 683, 3) := cod_of b221 dL_law_687
theorem t221_687 {d : Nat} {h : Hp} {Q : Pst} {x y : Int32} {ls : List Value} {st : List Value} : T d 221 687 ls (.int y :: .int x :: st) h Q ↔ (if x = y then T d 221 1370 ls st h Q else T d 221 690 ls st h Q) := T_icmp_eq c221_687 (by decide)
theorem c221_690 : cod 221 690 = some (.iconst 0, 1) := cod_of b221 dL_law_690
theorem t221_690 {d : Nat} {h : Hp} {Q : Pst} {ls : List Value} {st : List Value} : T d 221 690 ls st h Q ↔ T d 221 691 ls (.int 0 :: st) h Q := T_iconstV c221_690 (by decide)
theorem c221_691 : cod 221 691 = some (.ireturn, 1) := cod_of b221 dL_law_691
theorem t221_691 {d : Nat} {h : Hp} {Q : Pst} {x : Int32} {ls : List Value} : T d 221 691 ls [.int x] h Q ↔ (narrow .boolean (.int x) = .int x ∧ Q (some (.int x)) h) := T_zretR m221 c221_691 rfl
theorem c221_626 : cod 221 626 = some (.aload_n 1, 1) := cod_of b221 dL_law_626
theorem t221_626 {d : Nat} {h : Hp} {Q : Pst} {l0 l2 l3 : Value} {x : Nat} {st : List Value} : T d 221 626 [l0, .ref x, l2, l3] st h Q ↔ T d 221 627 [l0, .ref x, l2, l3] (.ref x :: st) h Q := T_aload_n c221_626 rfl
theorem c221_627 : cod 221 627 = some (.aload_n 0, 1) := cod_of b221 dL_law_627
theorem t221_627 {d : Nat} {h : Hp} {Q : Pst} {l1 l2 l3 : Value} {x : Nat} {st : List Value} : T d 221 627 [.ref x, l1, l2, l3] st h Q ↔ T d 221 628 [.ref x, l1, l2, l3] (.ref x :: st) h Q := T_aload_n c221_627 rfl
theorem c221_628 : cod 221 628 = some (.iload_n 3, 1) := cod_of b221 dL_law_628
theorem t221_628 {d : Nat} {h : Hp} {Q : Pst} {l0 l1 l2 : Value} {x : Int32} {st : List Value} : T d 221 628 [l0, l1, l2, .int x] st h Q ↔ T d 221 629 [l0, l1, l2, .int x] (.int x :: st) h Q := T_iload_n c221_628 rfl
theorem c221_629 : cod 221 629 = some (.iconst 1, 1) := cod_of b221 dL_law_629
theorem t221_629 {d : Nat} {h : Hp} {Q : Pst} {ls : List Value} {st : List Value} : T d 221 629 ls st h Q ↔ T d 221 630 ls (.int 1 :: st) h Q := T_iconstV c221_629 (by decide)
theorem c221_630 : cod 221 630 = some (.iadd, 1) := cod_of b221 dL_law_630
theorem t221_630 {d : Nat} {h : Hp} {Q : Pst} {x y : Int32} {ls : List Value} {st : List Value} : T d 221 630 ls (.int y :: .int x :: st) h Q ↔ T d 221 631 ls (.int (x + y) :: st) h Q := T_iadd c221_630
theorem c221_631 : cod 221 631 = some (.iaload, 1) := cod_of b221 dL_law_631
theorem t221_631 {d : Nat} {h : Hp} {Q : Pst} {a : Nat} {i : Int32} {ls : List Value} {st : List Value} : T d 221 631 ls (.int i :: .ref a :: st) h Q ↔ aL (h.2.2 a) i (fun x => T d 221 632 ls (.int x :: st) h Q) := T_iaload c221_631
theorem c221_632 : cod 221 632 = some (.aload_n 0, 1) := cod_of b221 dL_law_632
theorem t221_632 {d : Nat} {h : Hp} {Q : Pst} {l1 l2 l3 : Value} {x : Nat} {st : List Value} : T d 221 632 [.ref x, l1, l2, l3] st h Q ↔ T d 221 633 [.ref x, l1, l2, l3] (.ref x :: st) h Q := T_aload_n c221_632 rfl
theorem c221_633 : cod 221 633 = some (.iload_n 3, 1) := cod_of b221 dL_law_633
theorem t221_633 {d : Nat} {h : Hp} {Q : Pst} {l0 l1 l2 : Value} {x : Int32} {st : List Value} : T d 221 633 [l0, l1, l2, .int x] st h Q ↔ T d 221 634 [l0, l1, l2, .int x] (.int x :: st) h Q := T_iload_n c221_633 rfl
theorem c221_634 : cod 221 634 = some (.iconst 2, 1) := cod_of b221 dL_law_634
theorem t221_634 {d : Nat} {h : Hp} {Q : Pst} {ls : List Value} {st : List Value} : T d 221 634 ls st h Q ↔ T d 221 635 ls (.int 2 :: st) h Q := T_iconstV c221_634 (by decide)
theorem c221_635 : cod 221 635 = some (.iadd, 1) := cod_of b221 dL_law_635
theorem t221_635 {d : Nat} {h : Hp} {Q : Pst} {x y : Int32} {ls : List Value} {st : List Value} : T d 221 635 ls (.int y :: .int x :: st) h Q ↔ T d 221 636 ls (.int (x + y) :: st) h Q := T_iadd c221_635
theorem c221_636 : cod 221 636 = some (.iaload, 1) := cod_of b221 dL_law_636
theorem t221_636 {d : Nat} {h : Hp} {Q : Pst} {a : Nat} {i : Int32} {ls : List Value} {st : List Value} : T d 221 636 ls (.int i :: .ref a :: st) h Q ↔ aL (h.2.2 a) i (fun x => T d 221 637 ls (.int x :: st) h Q) := T_iaload c221_636
theorem c221_637 : cod 221 637 = some (.invokevirtual 80, 3) := cod_of b221 dL_law_637
theorem t221_637 {d : Nat} {h : Hp} {Q : Pst} {a0 a1 : Int32} {a : Nat} {ls : List Value} (ho : isO (h.2.2 a) 6) : T (d + 1) 221 637 ls [.int a1, .int a0, .ref a] h Q ↔ T d 91 0 [.ref a, .int a0, .int a1, un] [] h (fun x h2 => T (d + 1) 221 640 ls (rl x []) h2 Q) := T_virtualR (as := [.int a0, .int a1]) (r := []) m221 m91 c221_637 k20_80  rfl (by decide) rfl (by simp [wrd, Value.category]) (by simp [stk, Value.category]) rfl (by decide +kernel) ho
theorem c221_640 : cod 221 640 = some (.aload_n 2, 1) := cod_of b221 dL_law_640
theorem t221_640 {d : Nat} {h : Hp} {Q : Pst} {l0 l1 l3 : Value} {x : Nat} {st : List Value} : T d 221 640 [l0, l1, .ref x, l3] st h Q ↔ T d 221 641 [l0, l1, .ref x, l3] (.ref x :: st) h Q := T_aload_n c221_640 rfl
theorem c221_641 : cod 221 641 = some (.aload_n 0, 1) := cod_of b221 dL_law_641
theorem t221_641 {d : Nat} {h : Hp} {Q : Pst} {l1 l2 l3 : Value} {x : Nat} {st : List Value} : T d 221 641 [.ref x, l1, l2, l3] st h Q ↔ T d 221 642 [.ref x, l1, l2, l3] (.ref x :: st) h Q := T_aload_n c221_641 rfl
theorem c221_642 : cod 221 642 = some (.iload_n 3, 1) := cod_of b221 dL_law_642
theorem t221_642 {d : Nat} {h : Hp} {Q : Pst} {l0 l1 l2 : Value} {x : Int32} {st : List Value} : T d 221 642 [l0, l1, l2, .int x] st h Q ↔ T d 221 643 [l0, l1, l2, .int x] (.int x :: st) h Q := T_iload_n c221_642 rfl
theorem c221_643 : cod 221 643 = some (.iconst 1, 1) := cod_of b221 dL_law_643
theorem t221_643 {d : Nat} {h : Hp} {Q : Pst} {ls : List Value} {st : List Value} : T d 221 643 ls st h Q ↔ T d 221 644 ls (.int 1 :: st) h Q := T_iconstV c221_643 (by decide)
theorem c221_644 : cod 221 644 = some (.iadd, 1) := cod_of b221 dL_law_644
theorem t221_644 {d : Nat} {h : Hp} {Q : Pst} {x y : Int32} {ls : List Value} {st : List Value} : T d 221 644 ls (.int y :: .int x :: st) h Q ↔ T d 221 645 ls (.int (x + y) :: st) h Q := T_iadd c221_644
theorem c221_645 : cod 221 645 = some (.iaload, 1) := cod_of b221 dL_law_645
theorem t221_645 {d : Nat} {h : Hp} {Q : Pst} {a : Nat} {i : Int32} {ls : List Value} {st : List Value} : T d 221 645 ls (.int i :: .ref a :: st) h Q ↔ aL (h.2.2 a) i (fun x => T d 221 646 ls (.int x :: st) h Q) := T_iaload c221_645
theorem c221_646 : cod 221 646 = some (.aload_n 0, 1) := cod_of b221 dL_law_646
theorem t221_646 {d : Nat} {h : Hp} {Q : Pst} {l1 l2 l3 : Value} {x : Nat} {st : List Value} : T d 221 646 [.ref x, l1, l2, l3] st h Q ↔ T d 221 647 [.ref x, l1, l2, l3] (.ref x :: st) h Q := T_aload_n c221_646 rfl
theorem c221_647 : cod 221 647 = some (.iload_n 3, 1) := cod_of b221 dL_law_647
theorem t221_647 {d : Nat} {h : Hp} {Q : Pst} {l0 l1 l2 : Value} {x : Int32} {st : List Value} : T d 221 647 [l0, l1, l2, .int x] st h Q ↔ T d 221 648 [l0, l1, l2, .int x] (.int x :: st) h Q := T_iload_n c221_647 rfl
theorem c221_648 : cod 221 648 = some (.iconst 2, 1) := cod_of b221 dL_law_648
theorem t221_648 {d : Nat} {h : Hp} {Q : Pst} {ls : List Value} {st : List Value} : T d 221 648 ls st h Q ↔ T d 221 649 ls (.int 2 :: st) h Q := T_iconstV c221_648 (by decide)
theorem c221_649 : cod 221 649 = some (.iadd, 1) := cod_of b221 dL_law_649
theorem t221_649 {d : Nat} {h : Hp} {Q : Pst} {x y : Int32} {ls : List Value} {st : List Value} : T d 221 649 ls (.int y :: .int x :: st) h Q ↔ T d 221 650 ls (.int (x + y) :: st) h Q := T_iadd c221_649
theorem c221_650 : cod 221 650 = some (.iaload, 1) := cod_of b221 dL_law_650
theorem t221_650 {d : Nat} {h : Hp} {Q : Pst} {a : Nat} {i : Int32} {ls : List Value} {st : List Value} : T d 221 650 ls (.int i :: .ref a :: st) h Q ↔ aL (h.2.2 a) i (fun x => T d 221 651 ls (.int x :: st) h Q) := T_iaload c221_650
theorem c221_651 : cod 221 651 = some (.invokevirtual 83, 3) := cod_of b221 dL_law_651
theorem t221_651 {d : Nat} {h : Hp} {Q : Pst} {a0 a1 s0 : Int32} {a : Nat} {ls : List Value} (ho : isO (h.2.2 a) 7) : T (d + 1) 221 651 ls [.int a1, .int a0, .ref a, .int s0] h Q ↔ T d 176 0 [.ref a, .int a0, .int a1, un] [] h (fun x h2 => T (d + 1) 221 654 ls (rl x [.int s0]) h2 Q) := T_virtualR (as := [.int a0, .int a1]) (r := [.int s0]) m221 m176 c221_651 k20_83  rfl (by decide) rfl (by simp [wrd, Value.category]) (by simp [stk, Value.category]) rfl (by decide +kernel) ho
theorem c221_654 : cod 221 654 = some (.if_icmp .eq 716, 3) := cod_of b221 dL_law_654
theorem t221_654 {d : Nat} {h : Hp} {Q : Pst} {x y : Int32} {ls : List Value} {st : List Value} : T d 221 654 ls (.int y :: .int x :: st) h Q ↔ (if x = y then T d 221 1370 ls st h Q else T d 221 657 ls st h Q) := T_icmp_eq c221_654 (by decide)
theorem c221_657 : cod 221 657 = some (.iconst 0, 1) := cod_of b221 dL_law_657
theorem t221_657 {d : Nat} {h : Hp} {Q : Pst} {ls : List Value} {st : List Value} : T d 221 657 ls st h Q ↔ T d 221 658 ls (.int 0 :: st) h Q := T_iconstV c221_657 (by decide)
theorem c221_658 : cod 221 658 = some (.ireturn, 1) := cod_of b221 dL_law_658
theorem t221_658 {d : Nat} {h : Hp} {Q : Pst} {x : Int32} {ls : List Value} : T d 221 658 ls [.int x] h Q ↔ (narrow .boolean (.int x) = .int x ∧ Q (some (.int x)) h) := T_zretR m221 c221_658 rfl
theorem c221_593 : cod 221 593 = some (.aload_n 1, 1) := cod_of b221 dL_law_593
theorem t221_593 {d : Nat} {h : Hp} {Q : Pst} {l0 l2 l3 : Value} {x : Nat} {st : List Value} : T d 221 593 [l0, .ref x, l2, l3] st h Q ↔ T d 221 594 [l0, .ref x, l2, l3] (.ref x :: st) h Q := T_aload_n c221_593 rfl
theorem c221_594 : cod 221 594 = some (.aload_n 0, 1) := cod_of b221 dL_law_594
theorem t221_594 {d : Nat} {h : Hp} {Q : Pst} {l1 l2 l3 : Value} {x : Nat} {st : List Value} : T d 221 594 [.ref x, l1, l2, l3] st h Q ↔ T d 221 595 [.ref x, l1, l2, l3] (.ref x :: st) h Q := T_aload_n c221_594 rfl
theorem c221_595 : cod 221 595 = some (.iload_n 3, 1) := cod_of b221 dL_law_595
theorem t221_595 {d : Nat} {h : Hp} {Q : Pst} {l0 l1 l2 : Value} {x : Int32} {st : List Value} : T d 221 595 [l0, l1, l2, .int x] st h Q ↔ T d 221 596 [l0, l1, l2, .int x] (.int x :: st) h Q := T_iload_n c221_595 rfl
theorem c221_596 : cod 221 596 = some (.iconst 1, 1) := cod_of b221 dL_law_596
theorem t221_596 {d : Nat} {h : Hp} {Q : Pst} {ls : List Value} {st : List Value} : T d 221 596 ls st h Q ↔ T d 221 597 ls (.int 1 :: st) h Q := T_iconstV c221_596 (by decide)
theorem c221_597 : cod 221 597 = some (.iadd, 1) := cod_of b221 dL_law_597
theorem t221_597 {d : Nat} {h : Hp} {Q : Pst} {x y : Int32} {ls : List Value} {st : List Value} : T d 221 597 ls (.int y :: .int x :: st) h Q ↔ T d 221 598 ls (.int (x + y) :: st) h Q := T_iadd c221_597
theorem c221_598 : cod 221 598 = some (.iaload, 1) := cod_of b221 dL_law_598
theorem t221_598 {d : Nat} {h : Hp} {Q : Pst} {a : Nat} {i : Int32} {ls : List Value} {st : List Value} : T d 221 598 ls (.int i :: .ref a :: st) h Q ↔ aL (h.2.2 a) i (fun x => T d 221 599 ls (.int x :: st) h Q) := T_iaload c221_598
theorem c221_599 : cod 221 599 = some (.aload_n 0, 1) := cod_of b221 dL_law_599
theorem t221_599 {d : Nat} {h : Hp} {Q : Pst} {l1 l2 l3 : Value} {x : Nat} {st : List Value} : T d 221 599 [.ref x, l1, l2, l3] st h Q ↔ T d 221 600 [.ref x, l1, l2, l3] (.ref x :: st) h Q := T_aload_n c221_599 rfl
theorem c221_600 : cod 221 600 = some (.iload_n 3, 1) := cod_of b221 dL_law_600
theorem t221_600 {d : Nat} {h : Hp} {Q : Pst} {l0 l1 l2 : Value} {x : Int32} {st : List Value} : T d 221 600 [l0, l1, l2, .int x] st h Q ↔ T d 221 601 [l0, l1, l2, .int x] (.int x :: st) h Q := T_iload_n c221_600 rfl
theorem c221_601 : cod 221 601 = some (.iconst 2, 1) := cod_of b221 dL_law_601
theorem t221_601 {d : Nat} {h : Hp} {Q : Pst} {ls : List Value} {st : List Value} : T d 221 601 ls st h Q ↔ T d 221 602 ls (.int 2 :: st) h Q := T_iconstV c221_601 (by decide)
theorem c221_602 : cod 221 602 = some (.iadd, 1) := cod_of b221 dL_law_602
theorem t221_602 {d : Nat} {h : Hp} {Q : Pst} {x y : Int32} {ls : List Value} {st : List Value} : T d 221 602 ls (.int y :: .int x :: st) h Q ↔ T d 221 603 ls (.int (x + y) :: st) h Q := T_iadd c221_602
theorem c221_603 : cod 221 603 = some (.iaload, 1) := cod_of b221 dL_law_603
theorem t221_603 {d : Nat} {h : Hp} {Q : Pst} {a : Nat} {i : Int32} {ls : List Value} {st : List Value} : T d 221 603 ls (.int i :: .ref a :: st) h Q ↔ aL (h.2.2 a) i (fun x => T d 221 604 ls (.int x :: st) h Q) := T_iaload c221_603
theorem c221_604 : cod 221 604 = some (.invokevirtual 76, 3) := cod_of b221 dL_law_604
theorem t221_604 {d : Nat} {h : Hp} {Q : Pst} {a0 a1 : Int32} {a : Nat} {ls : List Value} (ho : isO (h.2.2 a) 6) : T (d + 1) 221 604 ls [.int a1, .int a0, .ref a] h Q ↔ T d 90 0 [.ref a, .int a0, .int a1] [] h (fun x h2 => T (d + 1) 221 607 ls (rl x []) h2 Q) := T_virtualR (as := [.int a0, .int a1]) (r := []) m221 m90 c221_604 k20_76  rfl (by decide) rfl (by simp [wrd, Value.category]) (by simp [stk, Value.category]) rfl (by decide +kernel) ho
theorem c221_607 : cod 221 607 = some (.aload_n 2, 1) := cod_of b221 dL_law_607
theorem t221_607 {d : Nat} {h : Hp} {Q : Pst} {l0 l1 l3 : Value} {x : Nat} {st : List Value} : T d 221 607 [l0, l1, .ref x, l3] st h Q ↔ T d 221 608 [l0, l1, .ref x, l3] (.ref x :: st) h Q := T_aload_n c221_607 rfl
theorem c221_608 : cod 221 608 = some (.aload_n 0, 1) := cod_of b221 dL_law_608
theorem t221_608 {d : Nat} {h : Hp} {Q : Pst} {l1 l2 l3 : Value} {x : Nat} {st : List Value} : T d 221 608 [.ref x, l1, l2, l3] st h Q ↔ T d 221 609 [.ref x, l1, l2, l3] (.ref x :: st) h Q := T_aload_n c221_608 rfl
theorem c221_609 : cod 221 609 = some (.iload_n 3, 1) := cod_of b221 dL_law_609
theorem t221_609 {d : Nat} {h : Hp} {Q : Pst} {l0 l1 l2 : Value} {x : Int32} {st : List Value} : T d 221 609 [l0, l1, l2, .int x] st h Q ↔ T d 221 610 [l0, l1, l2, .int x] (.int x :: st) h Q := T_iload_n c221_609 rfl
theorem c221_610 : cod 221 610 = some (.iconst 1, 1) := cod_of b221 dL_law_610
theorem t221_610 {d : Nat} {h : Hp} {Q : Pst} {ls : List Value} {st : List Value} : T d 221 610 ls st h Q ↔ T d 221 611 ls (.int 1 :: st) h Q := T_iconstV c221_610 (by decide)
theorem c221_611 : cod 221 611 = some (.iadd, 1) := cod_of b221 dL_law_611
theorem t221_611 {d : Nat} {h : Hp} {Q : Pst} {x y : Int32} {ls : List Value} {st : List Value} : T d 221 611 ls (.int y :: .int x :: st) h Q ↔ T d 221 612 ls (.int (x + y) :: st) h Q := T_iadd c221_611
theorem c221_612 : cod 221 612 = some (.iaload, 1) := cod_of b221 dL_law_612
theorem t221_612 {d : Nat} {h : Hp} {Q : Pst} {a : Nat} {i : Int32} {ls : List Value} {st : List Value} : T d 221 612 ls (.int i :: .ref a :: st) h Q ↔ aL (h.2.2 a) i (fun x => T d 221 613 ls (.int x :: st) h Q) := T_iaload c221_612
theorem c221_613 : cod 221 613 = some (.aload_n 0, 1) := cod_of b221 dL_law_613
theorem t221_613 {d : Nat} {h : Hp} {Q : Pst} {l1 l2 l3 : Value} {x : Nat} {st : List Value} : T d 221 613 [.ref x, l1, l2, l3] st h Q ↔ T d 221 614 [.ref x, l1, l2, l3] (.ref x :: st) h Q := T_aload_n c221_613 rfl
theorem c221_614 : cod 221 614 = some (.iload_n 3, 1) := cod_of b221 dL_law_614
theorem t221_614 {d : Nat} {h : Hp} {Q : Pst} {l0 l1 l2 : Value} {x : Int32} {st : List Value} : T d 221 614 [l0, l1, l2, .int x] st h Q ↔ T d 221 615 [l0, l1, l2, .int x] (.int x :: st) h Q := T_iload_n c221_614 rfl
theorem c221_615 : cod 221 615 = some (.iconst 2, 1) := cod_of b221 dL_law_615
theorem t221_615 {d : Nat} {h : Hp} {Q : Pst} {ls : List Value} {st : List Value} : T d 221 615 ls st h Q ↔ T d 221 616 ls (.int 2 :: st) h Q := T_iconstV c221_615 (by decide)
theorem c221_616 : cod 221 616 = some (.iadd, 1) := cod_of b221 dL_law_616
theorem t221_616 {d : Nat} {h : Hp} {Q : Pst} {x y : Int32} {ls : List Value} {st : List Value} : T d 221 616 ls (.int y :: .int x :: st) h Q ↔ T d 221 617 ls (.int (x + y) :: st) h Q := T_iadd c221_616
theorem c221_617 : cod 221 617 = some (.iaload, 1) := cod_of b221 dL_law_617
theorem t221_617 {d : Nat} {h : Hp} {Q : Pst} {a : Nat} {i : Int32} {ls : List Value} {st : List Value} : T d 221 617 ls (.int i :: .ref a :: st) h Q ↔ aL (h.2.2 a) i (fun x => T d 221 618 ls (.int x :: st) h Q) := T_iaload c221_617
theorem c221_618 : cod 221 618 = some (.invokevirtual 79, 3) := cod_of b221 dL_law_618
theorem t221_618 {d : Nat} {h : Hp} {Q : Pst} {a0 a1 s0 : Int32} {a : Nat} {ls : List Value} (ho : isO (h.2.2 a) 7) : T (d + 1) 221 618 ls [.int a1, .int a0, .ref a, .int s0] h Q ↔ T d 175 0 [.ref a, .int a0, .int a1, un] [] h (fun x h2 => T (d + 1) 221 621 ls (rl x [.int s0]) h2 Q) := T_virtualR (as := [.int a0, .int a1]) (r := [.int s0]) m221 m175 c221_618 k20_79  rfl (by decide) rfl (by simp [wrd, Value.category]) (by simp [stk, Value.category]) rfl (by decide +kernel) ho
theorem c221_621 : cod 221 621 = some (.if_icmp .eq 749, 3) := cod_of b221 dL_law_621
theorem t221_621 {d : Nat} {h : Hp} {Q : Pst} {x y : Int32} {ls : List Value} {st : List Value} : T d 221 621 ls (.int y :: .int x :: st) h Q ↔ (if x = y then T d 221 1370 ls st h Q else T d 221 624 ls st h Q) := T_icmp_eq c221_621 (by decide)
theorem c221_624 : cod 221 624 = some (.iconst 0, 1) := cod_of b221 dL_law_624
theorem t221_624 {d : Nat} {h : Hp} {Q : Pst} {ls : List Value} {st : List Value} : T d 221 624 ls st h Q ↔ T d 221 625 ls (.int 0 :: st) h Q := T_iconstV c221_624 (by decide)
theorem c221_625 : cod 221 625 = some (.ireturn, 1) := cod_of b221 dL_law_625
theorem t221_625 {d : Nat} {h : Hp} {Q : Pst} {x : Int32} {ls : List Value} : T d 221 625 ls [.int x] h Q ↔ (narrow .boolean (.int x) = .int x ∧ Q (some (.int x)) h) := T_zretR m221 c221_625 rfl
theorem c221_560 : cod 221 560 = some (.aload_n 1, 1) := cod_of b221 dL_law_560
theorem t221_560 {d : Nat} {h : Hp} {Q : Pst} {l0 l2 l3 : Value} {x : Nat} {st : List Value} : T d 221 560 [l0, .ref x, l2, l3] st h Q ↔ T d 221 561 [l0, .ref x, l2, l3] (.ref x :: st) h Q := T_aload_n c221_560 rfl
theorem c221_561 : cod 221 561 = some (.aload_n 0, 1) := cod_of b221 dL_law_561
theorem t221_561 {d : Nat} {h : Hp} {Q : Pst} {l1 l2 l3 : Value} {x : Nat} {st : List Value} : T d 221 561 [.ref x, l1, l2, l3] st h Q ↔ T d 221 562 [.ref x, l1, l2, l3] (.ref x :: st) h Q := T_aload_n c221_561 rfl
theorem c221_562 : cod 221 562 = some (.iload_n 3, 1) := cod_of b221 dL_law_562
theorem t221_562 {d : Nat} {h : Hp} {Q : Pst} {l0 l1 l2 : Value} {x : Int32} {st : List Value} : T d 221 562 [l0, l1, l2, .int x] st h Q ↔ T d 221 563 [l0, l1, l2, .int x] (.int x :: st) h Q := T_iload_n c221_562 rfl
theorem c221_563 : cod 221 563 = some (.iconst 1, 1) := cod_of b221 dL_law_563
theorem t221_563 {d : Nat} {h : Hp} {Q : Pst} {ls : List Value} {st : List Value} : T d 221 563 ls st h Q ↔ T d 221 564 ls (.int 1 :: st) h Q := T_iconstV c221_563 (by decide)
theorem c221_564 : cod 221 564 = some (.iadd, 1) := cod_of b221 dL_law_564
theorem t221_564 {d : Nat} {h : Hp} {Q : Pst} {x y : Int32} {ls : List Value} {st : List Value} : T d 221 564 ls (.int y :: .int x :: st) h Q ↔ T d 221 565 ls (.int (x + y) :: st) h Q := T_iadd c221_564
theorem c221_565 : cod 221 565 = some (.iaload, 1) := cod_of b221 dL_law_565
theorem t221_565 {d : Nat} {h : Hp} {Q : Pst} {a : Nat} {i : Int32} {ls : List Value} {st : List Value} : T d 221 565 ls (.int i :: .ref a :: st) h Q ↔ aL (h.2.2 a) i (fun x => T d 221 566 ls (.int x :: st) h Q) := T_iaload c221_565
theorem c221_566 : cod 221 566 = some (.aload_n 0, 1) := cod_of b221 dL_law_566
theorem t221_566 {d : Nat} {h : Hp} {Q : Pst} {l1 l2 l3 : Value} {x : Nat} {st : List Value} : T d 221 566 [.ref x, l1, l2, l3] st h Q ↔ T d 221 567 [.ref x, l1, l2, l3] (.ref x :: st) h Q := T_aload_n c221_566 rfl
theorem c221_567 : cod 221 567 = some (.iload_n 3, 1) := cod_of b221 dL_law_567
theorem t221_567 {d : Nat} {h : Hp} {Q : Pst} {l0 l1 l2 : Value} {x : Int32} {st : List Value} : T d 221 567 [l0, l1, l2, .int x] st h Q ↔ T d 221 568 [l0, l1, l2, .int x] (.int x :: st) h Q := T_iload_n c221_567 rfl
theorem c221_568 : cod 221 568 = some (.iconst 2, 1) := cod_of b221 dL_law_568
theorem t221_568 {d : Nat} {h : Hp} {Q : Pst} {ls : List Value} {st : List Value} : T d 221 568 ls st h Q ↔ T d 221 569 ls (.int 2 :: st) h Q := T_iconstV c221_568 (by decide)
theorem c221_569 : cod 221 569 = some (.iadd, 1) := cod_of b221 dL_law_569
theorem t221_569 {d : Nat} {h : Hp} {Q : Pst} {x y : Int32} {ls : List Value} {st : List Value} : T d 221 569 ls (.int y :: .int x :: st) h Q ↔ T d 221 570 ls (.int (x + y) :: st) h Q := T_iadd c221_569
theorem c221_570 : cod 221 570 = some (.iaload, 1) := cod_of b221 dL_law_570
theorem t221_570 {d : Nat} {h : Hp} {Q : Pst} {a : Nat} {i : Int32} {ls : List Value} {st : List Value} : T d 221 570 ls (.int i :: .ref a :: st) h Q ↔ aL (h.2.2 a) i (fun x => T d 221 571 ls (.int x :: st) h Q) := T_iaload c221_570
theorem c221_571 : cod 221 571 = some (.invokevirtual 72, 3) := cod_of b221 dL_law_571
theorem t221_571 {d : Nat} {h : Hp} {Q : Pst} {a0 a1 : Int32} {a : Nat} {ls : List Value} (ho : isO (h.2.2 a) 6) : T (d + 1) 221 571 ls [.int a1, .int a0, .ref a] h Q ↔ T d 89 0 [.ref a, .int a0, .int a1] [] h (fun x h2 => T (d + 1) 221 574 ls (rl x []) h2 Q) := T_virtualR (as := [.int a0, .int a1]) (r := []) m221 m89 c221_571 k20_72  rfl (by decide) rfl (by simp [wrd, Value.category]) (by simp [stk, Value.category]) rfl (by decide +kernel) ho
theorem c221_574 : cod 221 574 = some (.aload_n 2, 1) := cod_of b221 dL_law_574
theorem t221_574 {d : Nat} {h : Hp} {Q : Pst} {l0 l1 l3 : Value} {x : Nat} {st : List Value} : T d 221 574 [l0, l1, .ref x, l3] st h Q ↔ T d 221 575 [l0, l1, .ref x, l3] (.ref x :: st) h Q := T_aload_n c221_574 rfl
theorem c221_575 : cod 221 575 = some (.aload_n 0, 1) := cod_of b221 dL_law_575
theorem t221_575 {d : Nat} {h : Hp} {Q : Pst} {l1 l2 l3 : Value} {x : Nat} {st : List Value} : T d 221 575 [.ref x, l1, l2, l3] st h Q ↔ T d 221 576 [.ref x, l1, l2, l3] (.ref x :: st) h Q := T_aload_n c221_575 rfl
theorem c221_576 : cod 221 576 = some (.iload_n 3, 1) := cod_of b221 dL_law_576
theorem t221_576 {d : Nat} {h : Hp} {Q : Pst} {l0 l1 l2 : Value} {x : Int32} {st : List Value} : T d 221 576 [l0, l1, l2, .int x] st h Q ↔ T d 221 577 [l0, l1, l2, .int x] (.int x :: st) h Q := T_iload_n c221_576 rfl
theorem c221_577 : cod 221 577 = some (.iconst 1, 1) := cod_of b221 dL_law_577
theorem t221_577 {d : Nat} {h : Hp} {Q : Pst} {ls : List Value} {st : List Value} : T d 221 577 ls st h Q ↔ T d 221 578 ls (.int 1 :: st) h Q := T_iconstV c221_577 (by decide)
theorem c221_578 : cod 221 578 = some (.iadd, 1) := cod_of b221 dL_law_578
theorem t221_578 {d : Nat} {h : Hp} {Q : Pst} {x y : Int32} {ls : List Value} {st : List Value} : T d 221 578 ls (.int y :: .int x :: st) h Q ↔ T d 221 579 ls (.int (x + y) :: st) h Q := T_iadd c221_578
theorem c221_579 : cod 221 579 = some (.iaload, 1) := cod_of b221 dL_law_579
theorem t221_579 {d : Nat} {h : Hp} {Q : Pst} {a : Nat} {i : Int32} {ls : List Value} {st : List Value} : T d 221 579 ls (.int i :: .ref a :: st) h Q ↔ aL (h.2.2 a) i (fun x => T d 221 580 ls (.int x :: st) h Q) := T_iaload c221_579
theorem c221_580 : cod 221 580 = some (.aload_n 0, 1) := cod_of b221 dL_law_580
theorem t221_580 {d : Nat} {h : Hp} {Q : Pst} {l1 l2 l3 : Value} {x : Nat} {st : List Value} : T d 221 580 [.ref x, l1, l2, l3] st h Q ↔ T d 221 581 [.ref x, l1, l2, l3] (.ref x :: st) h Q := T_aload_n c221_580 rfl
theorem c221_581 : cod 221 581 = some (.iload_n 3, 1) := cod_of b221 dL_law_581
theorem t221_581 {d : Nat} {h : Hp} {Q : Pst} {l0 l1 l2 : Value} {x : Int32} {st : List Value} : T d 221 581 [l0, l1, l2, .int x] st h Q ↔ T d 221 582 [l0, l1, l2, .int x] (.int x :: st) h Q := T_iload_n c221_581 rfl
theorem c221_582 : cod 221 582 = some (.iconst 2, 1) := cod_of b221 dL_law_582
theorem t221_582 {d : Nat} {h : Hp} {Q : Pst} {ls : List Value} {st : List Value} : T d 221 582 ls st h Q ↔ T d 221 583 ls (.int 2 :: st) h Q := T_iconstV c221_582 (by decide)
theorem c221_583 : cod 221 583 = some (.iadd, 1) := cod_of b221 dL_law_583
theorem t221_583 {d : Nat} {h : Hp} {Q : Pst} {x y : Int32} {ls : List Value} {st : List Value} : T d 221 583 ls (.int y :: .int x :: st) h Q ↔ T d 221 584 ls (.int (x + y) :: st) h Q := T_iadd c221_583
theorem c221_584 : cod 221 584 = some (.iaload, 1) := cod_of b221 dL_law_584
theorem t221_584 {d : Nat} {h : Hp} {Q : Pst} {a : Nat} {i : Int32} {ls : List Value} {st : List Value} : T d 221 584 ls (.int i :: .ref a :: st) h Q ↔ aL (h.2.2 a) i (fun x => T d 221 585 ls (.int x :: st) h Q) := T_iaload c221_584
theorem c221_585 : cod 221 585 = some (.invokevirtual 75, 3) := cod_of b221 dL_law_585
theorem t221_585 {d : Nat} {h : Hp} {Q : Pst} {a0 a1 s0 : Int32} {a : Nat} {ls : List Value} (ho : isO (h.2.2 a) 7) : T (d + 1) 221 585 ls [.int a1, .int a0, .ref a, .int s0] h Q ↔ T d 173 0 [.ref a, .int a0, .int a1] [] h (fun x h2 => T (d + 1) 221 588 ls (rl x [.int s0]) h2 Q) := T_virtualR (as := [.int a0, .int a1]) (r := [.int s0]) m221 m173 c221_585 k20_75  rfl (by decide) rfl (by simp [wrd, Value.category]) (by simp [stk, Value.category]) rfl (by decide +kernel) ho
theorem c221_588 : cod 221 588 = some (.if_icmp .eq 782, 3) := cod_of b221 dL_law_588
theorem t221_588 {d : Nat} {h : Hp} {Q : Pst} {x y : Int32} {ls : List Value} {st : List Value} : T d 221 588 ls (.int y :: .int x :: st) h Q ↔ (if x = y then T d 221 1370 ls st h Q else T d 221 591 ls st h Q) := T_icmp_eq c221_588 (by decide)
theorem c221_591 : cod 221 591 = some (.iconst 0, 1) := cod_of b221 dL_law_591
theorem t221_591 {d : Nat} {h : Hp} {Q : Pst} {ls : List Value} {st : List Value} : T d 221 591 ls st h Q ↔ T d 221 592 ls (.int 0 :: st) h Q := T_iconstV c221_591 (by decide)
theorem c221_592 : cod 221 592 = some (.ireturn, 1) := cod_of b221 dL_law_592
theorem t221_592 {d : Nat} {h : Hp} {Q : Pst} {x : Int32} {ls : List Value} : T d 221 592 ls [.int x] h Q ↔ (narrow .boolean (.int x) = .int x ∧ Q (some (.int x)) h) := T_zretR m221 c221_592 rfl
theorem c221_527 : cod 221 527 = some (.aload_n 1, 1) := cod_of b221 dL_law_527
theorem t221_527 {d : Nat} {h : Hp} {Q : Pst} {l0 l2 l3 : Value} {x : Nat} {st : List Value} : T d 221 527 [l0, .ref x, l2, l3] st h Q ↔ T d 221 528 [l0, .ref x, l2, l3] (.ref x :: st) h Q := T_aload_n c221_527 rfl
theorem c221_528 : cod 221 528 = some (.aload_n 0, 1) := cod_of b221 dL_law_528
theorem t221_528 {d : Nat} {h : Hp} {Q : Pst} {l1 l2 l3 : Value} {x : Nat} {st : List Value} : T d 221 528 [.ref x, l1, l2, l3] st h Q ↔ T d 221 529 [.ref x, l1, l2, l3] (.ref x :: st) h Q := T_aload_n c221_528 rfl
theorem c221_529 : cod 221 529 = some (.iload_n 3, 1) := cod_of b221 dL_law_529
theorem t221_529 {d : Nat} {h : Hp} {Q : Pst} {l0 l1 l2 : Value} {x : Int32} {st : List Value} : T d 221 529 [l0, l1, l2, .int x] st h Q ↔ T d 221 530 [l0, l1, l2, .int x] (.int x :: st) h Q := T_iload_n c221_529 rfl
theorem c221_530 : cod 221 530 = some (.iconst 1, 1) := cod_of b221 dL_law_530
theorem t221_530 {d : Nat} {h : Hp} {Q : Pst} {ls : List Value} {st : List Value} : T d 221 530 ls st h Q ↔ T d 221 531 ls (.int 1 :: st) h Q := T_iconstV c221_530 (by decide)
theorem c221_531 : cod 221 531 = some (.iadd, 1) := cod_of b221 dL_law_531
theorem t221_531 {d : Nat} {h : Hp} {Q : Pst} {x y : Int32} {ls : List Value} {st : List Value} : T d 221 531 ls (.int y :: .int x :: st) h Q ↔ T d 221 532 ls (.int (x + y) :: st) h Q := T_iadd c221_531
theorem c221_532 : cod 221 532 = some (.iaload, 1) := cod_of b221 dL_law_532
theorem t221_532 {d : Nat} {h : Hp} {Q : Pst} {a : Nat} {i : Int32} {ls : List Value} {st : List Value} : T d 221 532 ls (.int i :: .ref a :: st) h Q ↔ aL (h.2.2 a) i (fun x => T d 221 533 ls (.int x :: st) h Q) := T_iaload c221_532
theorem c221_533 : cod 221 533 = some (.aload_n 0, 1) := cod_of b221 dL_law_533
theorem t221_533 {d : Nat} {h : Hp} {Q : Pst} {l1 l2 l3 : Value} {x : Nat} {st : List Value} : T d 221 533 [.ref x, l1, l2, l3] st h Q ↔ T d 221 534 [.ref x, l1, l2, l3] (.ref x :: st) h Q := T_aload_n c221_533 rfl
theorem c221_534 : cod 221 534 = some (.iload_n 3, 1) := cod_of b221 dL_law_534
theorem t221_534 {d : Nat} {h : Hp} {Q : Pst} {l0 l1 l2 : Value} {x : Int32} {st : List Value} : T d 221 534 [l0, l1, l2, .int x] st h Q ↔ T d 221 535 [l0, l1, l2, .int x] (.int x :: st) h Q := T_iload_n c221_534 rfl
theorem c221_535 : cod 221 535 = some (.iconst 2, 1) := cod_of b221 dL_law_535
theorem t221_535 {d : Nat} {h : Hp} {Q : Pst} {ls : List Value} {st : List Value} : T d 221 535 ls st h Q ↔ T d 221 536 ls (.int 2 :: st) h Q := T_iconstV c221_535 (by decide)
theorem c221_536 : cod 221 536 = some (.iadd, 1) := cod_of b221 dL_law_536
theorem t221_536 {d : Nat} {h : Hp} {Q : Pst} {x y : Int32} {ls : List Value} {st : List Value} : T d 221 536 ls (.int y :: .int x :: st) h Q ↔ T d 221 537 ls (.int (x + y) :: st) h Q := T_iadd c221_536
theorem c221_537 : cod 221 537 = some (.iaload, 1) := cod_of b221 dL_law_537
theorem t221_537 {d : Nat} {h : Hp} {Q : Pst} {a : Nat} {i : Int32} {ls : List Value} {st : List Value} : T d 221 537 ls (.int i :: .ref a :: st) h Q ↔ aL (h.2.2 a) i (fun x => T d 221 538 ls (.int x :: st) h Q) := T_iaload c221_537
theorem c221_538 : cod 221 538 = some (.invokevirtual 68, 3) := cod_of b221 dL_law_538
theorem t221_538 {d : Nat} {h : Hp} {Q : Pst} {a0 a1 : Int32} {a : Nat} {ls : List Value} (ho : isO (h.2.2 a) 6) : T (d + 1) 221 538 ls [.int a1, .int a0, .ref a] h Q ↔ T d 88 0 [.ref a, .int a0, .int a1] [] h (fun x h2 => T (d + 1) 221 541 ls (rl x []) h2 Q) := T_virtualR (as := [.int a0, .int a1]) (r := []) m221 m88 c221_538 k20_68  rfl (by decide) rfl (by simp [wrd, Value.category]) (by simp [stk, Value.category]) rfl (by decide +kernel) ho
theorem c221_541 : cod 221 541 = some (.aload_n 2, 1) := cod_of b221 dL_law_541
theorem t221_541 {d : Nat} {h : Hp} {Q : Pst} {l0 l1 l3 : Value} {x : Nat} {st : List Value} : T d 221 541 [l0, l1, .ref x, l3] st h Q ↔ T d 221 542 [l0, l1, .ref x, l3] (.ref x :: st) h Q := T_aload_n c221_541 rfl
theorem c221_542 : cod 221 542 = some (.aload_n 0, 1) := cod_of b221 dL_law_542
theorem t221_542 {d : Nat} {h : Hp} {Q : Pst} {l1 l2 l3 : Value} {x : Nat} {st : List Value} : T d 221 542 [.ref x, l1, l2, l3] st h Q ↔ T d 221 543 [.ref x, l1, l2, l3] (.ref x :: st) h Q := T_aload_n c221_542 rfl
theorem c221_543 : cod 221 543 = some (.iload_n 3, 1) := cod_of b221 dL_law_543
theorem t221_543 {d : Nat} {h : Hp} {Q : Pst} {l0 l1 l2 : Value} {x : Int32} {st : List Value} : T d 221 543 [l0, l1, l2, .int x] st h Q ↔ T d 221 544 [l0, l1, l2, .int x] (.int x :: st) h Q := T_iload_n c221_543 rfl
theorem c221_544 : cod 221 544 = some (.iconst 1, 1) := cod_of b221 dL_law_544
theorem t221_544 {d : Nat} {h : Hp} {Q : Pst} {ls : List Value} {st : List Value} : T d 221 544 ls st h Q ↔ T d 221 545 ls (.int 1 :: st) h Q := T_iconstV c221_544 (by decide)
theorem c221_545 : cod 221 545 = some (.iadd, 1) := cod_of b221 dL_law_545
theorem t221_545 {d : Nat} {h : Hp} {Q : Pst} {x y : Int32} {ls : List Value} {st : List Value} : T d 221 545 ls (.int y :: .int x :: st) h Q ↔ T d 221 546 ls (.int (x + y) :: st) h Q := T_iadd c221_545
theorem c221_546 : cod 221 546 = some (.iaload, 1) := cod_of b221 dL_law_546
theorem t221_546 {d : Nat} {h : Hp} {Q : Pst} {a : Nat} {i : Int32} {ls : List Value} {st : List Value} : T d 221 546 ls (.int i :: .ref a :: st) h Q ↔ aL (h.2.2 a) i (fun x => T d 221 547 ls (.int x :: st) h Q) := T_iaload c221_546
theorem c221_547 : cod 221 547 = some (.aload_n 0, 1) := cod_of b221 dL_law_547
theorem t221_547 {d : Nat} {h : Hp} {Q : Pst} {l1 l2 l3 : Value} {x : Nat} {st : List Value} : T d 221 547 [.ref x, l1, l2, l3] st h Q ↔ T d 221 548 [.ref x, l1, l2, l3] (.ref x :: st) h Q := T_aload_n c221_547 rfl
theorem c221_548 : cod 221 548 = some (.iload_n 3, 1) := cod_of b221 dL_law_548
theorem t221_548 {d : Nat} {h : Hp} {Q : Pst} {l0 l1 l2 : Value} {x : Int32} {st : List Value} : T d 221 548 [l0, l1, l2, .int x] st h Q ↔ T d 221 549 [l0, l1, l2, .int x] (.int x :: st) h Q := T_iload_n c221_548 rfl
theorem c221_549 : cod 221 549 = some (.iconst 2, 1) := cod_of b221 dL_law_549
theorem t221_549 {d : Nat} {h : Hp} {Q : Pst} {ls : List Value} {st : List Value} : T d 221 549 ls st h Q ↔ T d 221 550 ls (.int 2 :: st) h Q := T_iconstV c221_549 (by decide)
theorem c221_550 : cod 221 550 = some (.iadd, 1) := cod_of b221 dL_law_550
theorem t221_550 {d : Nat} {h : Hp} {Q : Pst} {x y : Int32} {ls : List Value} {st : List Value} : T d 221 550 ls (.int y :: .int x :: st) h Q ↔ T d 221 551 ls (.int (x + y) :: st) h Q := T_iadd c221_550
theorem c221_551 : cod 221 551 = some (.iaload, 1) := cod_of b221 dL_law_551
theorem t221_551 {d : Nat} {h : Hp} {Q : Pst} {a : Nat} {i : Int32} {ls : List Value} {st : List Value} : T d 221 551 ls (.int i :: .ref a :: st) h Q ↔ aL (h.2.2 a) i (fun x => T d 221 552 ls (.int x :: st) h Q) := T_iaload c221_551
theorem c221_552 : cod 221 552 = some (.invokevirtual 71, 3) := cod_of b221 dL_law_552
theorem t221_552 {d : Nat} {h : Hp} {Q : Pst} {a0 a1 s0 : Int32} {a : Nat} {ls : List Value} (ho : isO (h.2.2 a) 7) : T (d + 1) 221 552 ls [.int a1, .int a0, .ref a, .int s0] h Q ↔ T d 172 0 [.ref a, .int a0, .int a1] [] h (fun x h2 => T (d + 1) 221 555 ls (rl x [.int s0]) h2 Q) := T_virtualR (as := [.int a0, .int a1]) (r := [.int s0]) m221 m172 c221_552 k20_71  rfl (by decide) rfl (by simp [wrd, Value.category]) (by simp [stk, Value.category]) rfl (by decide +kernel) ho
theorem c221_555 : cod 221 555 = some (.if_icmp .eq 815, 3) := cod_of b221 dL_law_555
theorem t221_555 {d : Nat} {h : Hp} {Q : Pst} {x y : Int32} {ls : List Value} {st : List Value} : T d 221 555 ls (.int y :: .int x :: st) h Q ↔ (if x = y then T d 221 1370 ls st h Q else T d 221 558 ls st h Q) := T_icmp_eq c221_555 (by decide)
theorem c221_558 : cod 221 558 = some (.iconst 0, 1) := cod_of b221 dL_law_558
theorem t221_558 {d : Nat} {h : Hp} {Q : Pst} {ls : List Value} {st : List Value} : T d 221 558 ls st h Q ↔ T d 221 559 ls (.int 0 :: st) h Q := T_iconstV c221_558 (by decide)
theorem c221_559 : cod 221 559 = some (.ireturn, 1) := cod_of b221 dL_law_559
theorem t221_559 {d : Nat} {h : Hp} {Q : Pst} {x : Int32} {ls : List Value} : T d 221 559 ls [.int x] h Q ↔ (narrow .boolean (.int x) = .int x ∧ Q (some (.int x)) h) := T_zretR m221 c221_559 rfl
theorem c221_494 : cod 221 494 = some (.aload_n 1, 1) := cod_of b221 dL_law_494
theorem t221_494 {d : Nat} {h : Hp} {Q : Pst} {l0 l2 l3 : Value} {x : Nat} {st : List Value} : T d 221 494 [l0, .ref x, l2, l3] st h Q ↔ T d 221 495 [l0, .ref x, l2, l3] (.ref x :: st) h Q := T_aload_n c221_494 rfl
theorem c221_495 : cod 221 495 = some (.aload_n 0, 1) := cod_of b221 dL_law_495
theorem t221_495 {d : Nat} {h : Hp} {Q : Pst} {l1 l2 l3 : Value} {x : Nat} {st : List Value} : T d 221 495 [.ref x, l1, l2, l3] st h Q ↔ T d 221 496 [.ref x, l1, l2, l3] (.ref x :: st) h Q := T_aload_n c221_495 rfl
theorem c221_496 : cod 221 496 = some (.iload_n 3, 1) := cod_of b221 dL_law_496
theorem t221_496 {d : Nat} {h : Hp} {Q : Pst} {l0 l1 l2 : Value} {x : Int32} {st : List Value} : T d 221 496 [l0, l1, l2, .int x] st h Q ↔ T d 221 497 [l0, l1, l2, .int x] (.int x :: st) h Q := T_iload_n c221_496 rfl
theorem c221_497 : cod 221 497 = some (.iconst 1, 1) := cod_of b221 dL_law_497
theorem t221_497 {d : Nat} {h : Hp} {Q : Pst} {ls : List Value} {st : List Value} : T d 221 497 ls st h Q ↔ T d 221 498 ls (.int 1 :: st) h Q := T_iconstV c221_497 (by decide)
theorem c221_498 : cod 221 498 = some (.iadd, 1) := cod_of b221 dL_law_498
theorem t221_498 {d : Nat} {h : Hp} {Q : Pst} {x y : Int32} {ls : List Value} {st : List Value} : T d 221 498 ls (.int y :: .int x :: st) h Q ↔ T d 221 499 ls (.int (x + y) :: st) h Q := T_iadd c221_498
theorem c221_499 : cod 221 499 = some (.iaload, 1) := cod_of b221 dL_law_499
theorem t221_499 {d : Nat} {h : Hp} {Q : Pst} {a : Nat} {i : Int32} {ls : List Value} {st : List Value} : T d 221 499 ls (.int i :: .ref a :: st) h Q ↔ aL (h.2.2 a) i (fun x => T d 221 500 ls (.int x :: st) h Q) := T_iaload c221_499
theorem c221_500 : cod 221 500 = some (.aload_n 0, 1) := cod_of b221 dL_law_500
theorem t221_500 {d : Nat} {h : Hp} {Q : Pst} {l1 l2 l3 : Value} {x : Nat} {st : List Value} : T d 221 500 [.ref x, l1, l2, l3] st h Q ↔ T d 221 501 [.ref x, l1, l2, l3] (.ref x :: st) h Q := T_aload_n c221_500 rfl
theorem c221_501 : cod 221 501 = some (.iload_n 3, 1) := cod_of b221 dL_law_501
theorem t221_501 {d : Nat} {h : Hp} {Q : Pst} {l0 l1 l2 : Value} {x : Int32} {st : List Value} : T d 221 501 [l0, l1, l2, .int x] st h Q ↔ T d 221 502 [l0, l1, l2, .int x] (.int x :: st) h Q := T_iload_n c221_501 rfl
theorem c221_502 : cod 221 502 = some (.iconst 2, 1) := cod_of b221 dL_law_502
theorem t221_502 {d : Nat} {h : Hp} {Q : Pst} {ls : List Value} {st : List Value} : T d 221 502 ls st h Q ↔ T d 221 503 ls (.int 2 :: st) h Q := T_iconstV c221_502 (by decide)
theorem c221_503 : cod 221 503 = some (.iadd, 1) := cod_of b221 dL_law_503
theorem t221_503 {d : Nat} {h : Hp} {Q : Pst} {x y : Int32} {ls : List Value} {st : List Value} : T d 221 503 ls (.int y :: .int x :: st) h Q ↔ T d 221 504 ls (.int (x + y) :: st) h Q := T_iadd c221_503
theorem c221_504 : cod 221 504 = some (.iaload, 1) := cod_of b221 dL_law_504
theorem t221_504 {d : Nat} {h : Hp} {Q : Pst} {a : Nat} {i : Int32} {ls : List Value} {st : List Value} : T d 221 504 ls (.int i :: .ref a :: st) h Q ↔ aL (h.2.2 a) i (fun x => T d 221 505 ls (.int x :: st) h Q) := T_iaload c221_504
theorem c221_505 : cod 221 505 = some (.invokevirtual 64, 3) := cod_of b221 dL_law_505
theorem t221_505 {d : Nat} {h : Hp} {Q : Pst} {a0 a1 : Int32} {a : Nat} {ls : List Value} (ho : isO (h.2.2 a) 6) : T (d + 1) 221 505 ls [.int a1, .int a0, .ref a] h Q ↔ T d 87 0 [.ref a, .int a0, .int a1] [] h (fun x h2 => T (d + 1) 221 508 ls (rl x []) h2 Q) := T_virtualR (as := [.int a0, .int a1]) (r := []) m221 m87 c221_505 k20_64  rfl (by decide) rfl (by simp [wrd, Value.category]) (by simp [stk, Value.category]) rfl (by decide +kernel) ho
theorem c221_508 : cod 221 508 = some (.aload_n 2, 1) := cod_of b221 dL_law_508
theorem t221_508 {d : Nat} {h : Hp} {Q : Pst} {l0 l1 l3 : Value} {x : Nat} {st : List Value} : T d 221 508 [l0, l1, .ref x, l3] st h Q ↔ T d 221 509 [l0, l1, .ref x, l3] (.ref x :: st) h Q := T_aload_n c221_508 rfl
theorem c221_509 : cod 221 509 = some (.aload_n 0, 1) := cod_of b221 dL_law_509
theorem t221_509 {d : Nat} {h : Hp} {Q : Pst} {l1 l2 l3 : Value} {x : Nat} {st : List Value} : T d 221 509 [.ref x, l1, l2, l3] st h Q ↔ T d 221 510 [.ref x, l1, l2, l3] (.ref x :: st) h Q := T_aload_n c221_509 rfl
theorem c221_510 : cod 221 510 = some (.iload_n 3, 1) := cod_of b221 dL_law_510
theorem t221_510 {d : Nat} {h : Hp} {Q : Pst} {l0 l1 l2 : Value} {x : Int32} {st : List Value} : T d 221 510 [l0, l1, l2, .int x] st h Q ↔ T d 221 511 [l0, l1, l2, .int x] (.int x :: st) h Q := T_iload_n c221_510 rfl
theorem c221_511 : cod 221 511 = some (.iconst 1, 1) := cod_of b221 dL_law_511
theorem t221_511 {d : Nat} {h : Hp} {Q : Pst} {ls : List Value} {st : List Value} : T d 221 511 ls st h Q ↔ T d 221 512 ls (.int 1 :: st) h Q := T_iconstV c221_511 (by decide)
theorem c221_512 : cod 221 512 = some (.iadd, 1) := cod_of b221 dL_law_512
theorem t221_512 {d : Nat} {h : Hp} {Q : Pst} {x y : Int32} {ls : List Value} {st : List Value} : T d 221 512 ls (.int y :: .int x :: st) h Q ↔ T d 221 513 ls (.int (x + y) :: st) h Q := T_iadd c221_512
theorem c221_513 : cod 221 513 = some (.iaload, 1) := cod_of b221 dL_law_513
theorem t221_513 {d : Nat} {h : Hp} {Q : Pst} {a : Nat} {i : Int32} {ls : List Value} {st : List Value} : T d 221 513 ls (.int i :: .ref a :: st) h Q ↔ aL (h.2.2 a) i (fun x => T d 221 514 ls (.int x :: st) h Q) := T_iaload c221_513
theorem c221_514 : cod 221 514 = some (.aload_n 0, 1) := cod_of b221 dL_law_514
theorem t221_514 {d : Nat} {h : Hp} {Q : Pst} {l1 l2 l3 : Value} {x : Nat} {st : List Value} : T d 221 514 [.ref x, l1, l2, l3] st h Q ↔ T d 221 515 [.ref x, l1, l2, l3] (.ref x :: st) h Q := T_aload_n c221_514 rfl
theorem c221_515 : cod 221 515 = some (.iload_n 3, 1) := cod_of b221 dL_law_515
theorem t221_515 {d : Nat} {h : Hp} {Q : Pst} {l0 l1 l2 : Value} {x : Int32} {st : List Value} : T d 221 515 [l0, l1, l2, .int x] st h Q ↔ T d 221 516 [l0, l1, l2, .int x] (.int x :: st) h Q := T_iload_n c221_515 rfl
theorem c221_516 : cod 221 516 = some (.iconst 2, 1) := cod_of b221 dL_law_516
theorem t221_516 {d : Nat} {h : Hp} {Q : Pst} {ls : List Value} {st : List Value} : T d 221 516 ls st h Q ↔ T d 221 517 ls (.int 2 :: st) h Q := T_iconstV c221_516 (by decide)
theorem c221_517 : cod 221 517 = some (.iadd, 1) := cod_of b221 dL_law_517
theorem t221_517 {d : Nat} {h : Hp} {Q : Pst} {x y : Int32} {ls : List Value} {st : List Value} : T d 221 517 ls (.int y :: .int x :: st) h Q ↔ T d 221 518 ls (.int (x + y) :: st) h Q := T_iadd c221_517
theorem c221_518 : cod 221 518 = some (.iaload, 1) := cod_of b221 dL_law_518
theorem t221_518 {d : Nat} {h : Hp} {Q : Pst} {a : Nat} {i : Int32} {ls : List Value} {st : List Value} : T d 221 518 ls (.int i :: .ref a :: st) h Q ↔ aL (h.2.2 a) i (fun x => T d 221 519 ls (.int x :: st) h Q) := T_iaload c221_518
theorem c221_519 : cod 221 519 = some (.invokevirtual 67, 3) := cod_of b221 dL_law_519
theorem t221_519 {d : Nat} {h : Hp} {Q : Pst} {a0 a1 s0 : Int32} {a : Nat} {ls : List Value} (ho : isO (h.2.2 a) 7) : T (d + 1) 221 519 ls [.int a1, .int a0, .ref a, .int s0] h Q ↔ T d 171 0 [.ref a, .int a0, .int a1] [] h (fun x h2 => T (d + 1) 221 522 ls (rl x [.int s0]) h2 Q) := T_virtualR (as := [.int a0, .int a1]) (r := [.int s0]) m221 m171 c221_519 k20_67  rfl (by decide) rfl (by simp [wrd, Value.category]) (by simp [stk, Value.category]) rfl (by decide +kernel) ho
theorem c221_522 : cod 221 522 = some (.if_icmp .eq 848, 3) := cod_of b221 dL_law_522
theorem t221_522 {d : Nat} {h : Hp} {Q : Pst} {x y : Int32} {ls : List Value} {st : List Value} : T d 221 522 ls (.int y :: .int x :: st) h Q ↔ (if x = y then T d 221 1370 ls st h Q else T d 221 525 ls st h Q) := T_icmp_eq c221_522 (by decide)
theorem c221_525 : cod 221 525 = some (.iconst 0, 1) := cod_of b221 dL_law_525
theorem t221_525 {d : Nat} {h : Hp} {Q : Pst} {ls : List Value} {st : List Value} : T d 221 525 ls st h Q ↔ T d 221 526 ls (.int 0 :: st) h Q := T_iconstV c221_525 (by decide)
theorem c221_526 : cod 221 526 = some (.ireturn, 1) := cod_of b221 dL_law_526
theorem t221_526 {d : Nat} {h : Hp} {Q : Pst} {x : Int32} {ls : List Value} : T d 221 526 ls [.int x] h Q ↔ (narrow .boolean (.int x) = .int x ∧ Q (some (.int x)) h) := T_zretR m221 c221_526 rfl
theorem c221_461 : cod 221 461 = some (.aload_n 1, 1) := cod_of b221 dL_law_461
theorem t221_461 {d : Nat} {h : Hp} {Q : Pst} {l0 l2 l3 : Value} {x : Nat} {st : List Value} : T d 221 461 [l0, .ref x, l2, l3] st h Q ↔ T d 221 462 [l0, .ref x, l2, l3] (.ref x :: st) h Q := T_aload_n c221_461 rfl
theorem c221_462 : cod 221 462 = some (.aload_n 0, 1) := cod_of b221 dL_law_462
theorem t221_462 {d : Nat} {h : Hp} {Q : Pst} {l1 l2 l3 : Value} {x : Nat} {st : List Value} : T d 221 462 [.ref x, l1, l2, l3] st h Q ↔ T d 221 463 [.ref x, l1, l2, l3] (.ref x :: st) h Q := T_aload_n c221_462 rfl
theorem c221_463 : cod 221 463 = some (.iload_n 3, 1) := cod_of b221 dL_law_463
theorem t221_463 {d : Nat} {h : Hp} {Q : Pst} {l0 l1 l2 : Value} {x : Int32} {st : List Value} : T d 221 463 [l0, l1, l2, .int x] st h Q ↔ T d 221 464 [l0, l1, l2, .int x] (.int x :: st) h Q := T_iload_n c221_463 rfl
theorem c221_464 : cod 221 464 = some (.iconst 1, 1) := cod_of b221 dL_law_464
theorem t221_464 {d : Nat} {h : Hp} {Q : Pst} {ls : List Value} {st : List Value} : T d 221 464 ls st h Q ↔ T d 221 465 ls (.int 1 :: st) h Q := T_iconstV c221_464 (by decide)
theorem c221_465 : cod 221 465 = some (.iadd, 1) := cod_of b221 dL_law_465
theorem t221_465 {d : Nat} {h : Hp} {Q : Pst} {x y : Int32} {ls : List Value} {st : List Value} : T d 221 465 ls (.int y :: .int x :: st) h Q ↔ T d 221 466 ls (.int (x + y) :: st) h Q := T_iadd c221_465
theorem c221_466 : cod 221 466 = some (.iaload, 1) := cod_of b221 dL_law_466
theorem t221_466 {d : Nat} {h : Hp} {Q : Pst} {a : Nat} {i : Int32} {ls : List Value} {st : List Value} : T d 221 466 ls (.int i :: .ref a :: st) h Q ↔ aL (h.2.2 a) i (fun x => T d 221 467 ls (.int x :: st) h Q) := T_iaload c221_466
theorem c221_467 : cod 221 467 = some (.aload_n 0, 1) := cod_of b221 dL_law_467
theorem t221_467 {d : Nat} {h : Hp} {Q : Pst} {l1 l2 l3 : Value} {x : Nat} {st : List Value} : T d 221 467 [.ref x, l1, l2, l3] st h Q ↔ T d 221 468 [.ref x, l1, l2, l3] (.ref x :: st) h Q := T_aload_n c221_467 rfl
theorem c221_468 : cod 221 468 = some (.iload_n 3, 1) := cod_of b221 dL_law_468
theorem t221_468 {d : Nat} {h : Hp} {Q : Pst} {l0 l1 l2 : Value} {x : Int32} {st : List Value} : T d 221 468 [l0, l1, l2, .int x] st h Q ↔ T d 221 469 [l0, l1, l2, .int x] (.int x :: st) h Q := T_iload_n c221_468 rfl
theorem c221_469 : cod 221 469 = some (.iconst 2, 1) := cod_of b221 dL_law_469
theorem t221_469 {d : Nat} {h : Hp} {Q : Pst} {ls : List Value} {st : List Value} : T d 221 469 ls st h Q ↔ T d 221 470 ls (.int 2 :: st) h Q := T_iconstV c221_469 (by decide)
theorem c221_470 : cod 221 470 = some (.iadd, 1) := cod_of b221 dL_law_470
theorem t221_470 {d : Nat} {h : Hp} {Q : Pst} {x y : Int32} {ls : List Value} {st : List Value} : T d 221 470 ls (.int y :: .int x :: st) h Q ↔ T d 221 471 ls (.int (x + y) :: st) h Q := T_iadd c221_470
theorem c221_471 : cod 221 471 = some (.iaload, 1) := cod_of b221 dL_law_471
theorem t221_471 {d : Nat} {h : Hp} {Q : Pst} {a : Nat} {i : Int32} {ls : List Value} {st : List Value} : T d 221 471 ls (.int i :: .ref a :: st) h Q ↔ aL (h.2.2 a) i (fun x => T d 221 472 ls (.int x :: st) h Q) := T_iaload c221_471
theorem c221_472 : cod 221 472 = some (.invokevirtual 60, 3) := cod_of b221 dL_law_472
theorem t221_472 {d : Nat} {h : Hp} {Q : Pst} {a0 a1 : Int32} {a : Nat} {ls : List Value} (ho : isO (h.2.2 a) 6) : T (d + 1) 221 472 ls [.int a1, .int a0, .ref a] h Q ↔ T d 86 0 [.ref a, .int a0, .int a1] [] h (fun x h2 => T (d + 1) 221 475 ls (rl x []) h2 Q) := T_virtualR (as := [.int a0, .int a1]) (r := []) m221 m86 c221_472 k20_60  rfl (by decide) rfl (by simp [wrd, Value.category]) (by simp [stk, Value.category]) rfl (by decide +kernel) ho
theorem c221_475 : cod 221 475 = some (.aload_n 2, 1) := cod_of b221 dL_law_475
theorem t221_475 {d : Nat} {h : Hp} {Q : Pst} {l0 l1 l3 : Value} {x : Nat} {st : List Value} : T d 221 475 [l0, l1, .ref x, l3] st h Q ↔ T d 221 476 [l0, l1, .ref x, l3] (.ref x :: st) h Q := T_aload_n c221_475 rfl
theorem c221_476 : cod 221 476 = some (.aload_n 0, 1) := cod_of b221 dL_law_476
theorem t221_476 {d : Nat} {h : Hp} {Q : Pst} {l1 l2 l3 : Value} {x : Nat} {st : List Value} : T d 221 476 [.ref x, l1, l2, l3] st h Q ↔ T d 221 477 [.ref x, l1, l2, l3] (.ref x :: st) h Q := T_aload_n c221_476 rfl
theorem c221_477 : cod 221 477 = some (.iload_n 3, 1) := cod_of b221 dL_law_477
theorem t221_477 {d : Nat} {h : Hp} {Q : Pst} {l0 l1 l2 : Value} {x : Int32} {st : List Value} : T d 221 477 [l0, l1, l2, .int x] st h Q ↔ T d 221 478 [l0, l1, l2, .int x] (.int x :: st) h Q := T_iload_n c221_477 rfl
theorem c221_478 : cod 221 478 = some (.iconst 1, 1) := cod_of b221 dL_law_478
theorem t221_478 {d : Nat} {h : Hp} {Q : Pst} {ls : List Value} {st : List Value} : T d 221 478 ls st h Q ↔ T d 221 479 ls (.int 1 :: st) h Q := T_iconstV c221_478 (by decide)
theorem c221_479 : cod 221 479 = some (.iadd, 1) := cod_of b221 dL_law_479
theorem t221_479 {d : Nat} {h : Hp} {Q : Pst} {x y : Int32} {ls : List Value} {st : List Value} : T d 221 479 ls (.int y :: .int x :: st) h Q ↔ T d 221 480 ls (.int (x + y) :: st) h Q := T_iadd c221_479
theorem c221_480 : cod 221 480 = some (.iaload, 1) := cod_of b221 dL_law_480
theorem t221_480 {d : Nat} {h : Hp} {Q : Pst} {a : Nat} {i : Int32} {ls : List Value} {st : List Value} : T d 221 480 ls (.int i :: .ref a :: st) h Q ↔ aL (h.2.2 a) i (fun x => T d 221 481 ls (.int x :: st) h Q) := T_iaload c221_480
theorem c221_481 : cod 221 481 = some (.aload_n 0, 1) := cod_of b221 dL_law_481
theorem t221_481 {d : Nat} {h : Hp} {Q : Pst} {l1 l2 l3 : Value} {x : Nat} {st : List Value} : T d 221 481 [.ref x, l1, l2, l3] st h Q ↔ T d 221 482 [.ref x, l1, l2, l3] (.ref x :: st) h Q := T_aload_n c221_481 rfl
theorem c221_482 : cod 221 482 = some (.iload_n 3, 1) := cod_of b221 dL_law_482
theorem t221_482 {d : Nat} {h : Hp} {Q : Pst} {l0 l1 l2 : Value} {x : Int32} {st : List Value} : T d 221 482 [l0, l1, l2, .int x] st h Q ↔ T d 221 483 [l0, l1, l2, .int x] (.int x :: st) h Q := T_iload_n c221_482 rfl
theorem c221_483 : cod 221 483 = some (.iconst 2, 1) := cod_of b221 dL_law_483
theorem t221_483 {d : Nat} {h : Hp} {Q : Pst} {ls : List Value} {st : List Value} : T d 221 483 ls st h Q ↔ T d 221 484 ls (.int 2 :: st) h Q := T_iconstV c221_483 (by decide)
theorem c221_484 : cod 221 484 = some (.iadd, 1) := cod_of b221 dL_law_484
theorem t221_484 {d : Nat} {h : Hp} {Q : Pst} {x y : Int32} {ls : List Value} {st : List Value} : T d 221 484 ls (.int y :: .int x :: st) h Q ↔ T d 221 485 ls (.int (x + y) :: st) h Q := T_iadd c221_484
theorem c221_485 : cod 221 485 = some (.iaload, 1) := cod_of b221 dL_law_485
theorem t221_485 {d : Nat} {h : Hp} {Q : Pst} {a : Nat} {i : Int32} {ls : List Value} {st : List Value} : T d 221 485 ls (.int i :: .ref a :: st) h Q ↔ aL (h.2.2 a) i (fun x => T d 221 486 ls (.int x :: st) h Q) := T_iaload c221_485
theorem c221_486 : cod 221 486 = some (.invokevirtual 63, 3) := cod_of b221 dL_law_486
theorem t221_486 {d : Nat} {h : Hp} {Q : Pst} {a0 a1 s0 : Int32} {a : Nat} {ls : List Value} (ho : isO (h.2.2 a) 7) : T (d + 1) 221 486 ls [.int a1, .int a0, .ref a, .int s0] h Q ↔ T d 170 0 [.ref a, .int a0, .int a1, un] [] h (fun x h2 => T (d + 1) 221 489 ls (rl x [.int s0]) h2 Q) := T_virtualR (as := [.int a0, .int a1]) (r := [.int s0]) m221 m170 c221_486 k20_63  rfl (by decide) rfl (by simp [wrd, Value.category]) (by simp [stk, Value.category]) rfl (by decide +kernel) ho
theorem c221_489 : cod 221 489 = some (.if_icmp .eq 881, 3) := cod_of b221 dL_law_489
theorem t221_489 {d : Nat} {h : Hp} {Q : Pst} {x y : Int32} {ls : List Value} {st : List Value} : T d 221 489 ls (.int y :: .int x :: st) h Q ↔ (if x = y then T d 221 1370 ls st h Q else T d 221 492 ls st h Q) := T_icmp_eq c221_489 (by decide)
theorem c221_492 : cod 221 492 = some (.iconst 0, 1) := cod_of b221 dL_law_492
theorem t221_492 {d : Nat} {h : Hp} {Q : Pst} {ls : List Value} {st : List Value} : T d 221 492 ls st h Q ↔ T d 221 493 ls (.int 0 :: st) h Q := T_iconstV c221_492 (by decide)
theorem c221_493 : cod 221 493 = some (.ireturn, 1) := cod_of b221 dL_law_493
theorem t221_493 {d : Nat} {h : Hp} {Q : Pst} {x : Int32} {ls : List Value} : T d 221 493 ls [.int x] h Q ↔ (narrow .boolean (.int x) = .int x ∧ Q (some (.int x)) h) := T_zretR m221 c221_493 rfl
theorem c221_448 : cod 221 448 = some (.aload_n 1, 1) := cod_of b221 dL_law_448
theorem t221_448 {d : Nat} {h : Hp} {Q : Pst} {l0 l2 l3 : Value} {x : Nat} {st : List Value} : T d 221 448 [l0, .ref x, l2, l3] st h Q ↔ T d 221 449 [l0, .ref x, l2, l3] (.ref x :: st) h Q := T_aload_n c221_448 rfl
theorem c221_449 : cod 221 449 = some (.invokevirtual 56, 3) := cod_of b221 dL_law_449
theorem t221_449 {d : Nat} {h : Hp} {Q : Pst} {a : Nat} {ls : List Value} (ho : isO (h.2.2 a) 6) : T (d + 1) 221 449 ls [.ref a] h Q ↔ T d 85 0 [.ref a] [] h (fun x h2 => T (d + 1) 221 452 ls (rl x []) h2 Q) := T_virtualR (as := []) (r := []) m221 m85 c221_449 k20_56  rfl (by decide) rfl (by simp [wrd, Value.category]) (by simp [stk, Value.category]) rfl (by decide +kernel) ho
theorem c221_452 : cod 221 452 = some (.aload_n 2, 1) := cod_of b221 dL_law_452
theorem t221_452 {d : Nat} {h : Hp} {Q : Pst} {l0 l1 l3 : Value} {x : Nat} {st : List Value} : T d 221 452 [l0, l1, .ref x, l3] st h Q ↔ T d 221 453 [l0, l1, .ref x, l3] (.ref x :: st) h Q := T_aload_n c221_452 rfl
theorem c221_453 : cod 221 453 = some (.invokevirtual 59, 3) := cod_of b221 dL_law_453
theorem t221_453 {d : Nat} {h : Hp} {Q : Pst} {s0 : Int32} {a : Nat} {ls : List Value} (ho : isO (h.2.2 a) 7) : T (d + 1) 221 453 ls [.ref a, .int s0] h Q ↔ T d 169 0 [.ref a, un] [] h (fun x h2 => T (d + 1) 221 456 ls (rl x [.int s0]) h2 Q) := T_virtualR (as := []) (r := [.int s0]) m221 m169 c221_453 k20_59  rfl (by decide) rfl (by simp [wrd, Value.category]) (by simp [stk, Value.category]) rfl (by decide +kernel) ho
theorem c221_456 : cod 221 456 = some (.if_icmp .eq 914, 3) := cod_of b221 dL_law_456
theorem t221_456 {d : Nat} {h : Hp} {Q : Pst} {x y : Int32} {ls : List Value} {st : List Value} : T d 221 456 ls (.int y :: .int x :: st) h Q ↔ (if x = y then T d 221 1370 ls st h Q else T d 221 459 ls st h Q) := T_icmp_eq c221_456 (by decide)
theorem c221_459 : cod 221 459 = some (.iconst 0, 1) := cod_of b221 dL_law_459
theorem t221_459 {d : Nat} {h : Hp} {Q : Pst} {ls : List Value} {st : List Value} : T d 221 459 ls st h Q ↔ T d 221 460 ls (.int 0 :: st) h Q := T_iconstV c221_459 (by decide)
theorem c221_460 : cod 221 460 = some (.ireturn, 1) := cod_of b221 dL_law_460
theorem t221_460 {d : Nat} {h : Hp} {Q : Pst} {x : Int32} {ls : List Value} : T d 221 460 ls [.int x] h Q ↔ (narrow .boolean (.int x) = .int x ∧ Q (some (.int x)) h) := T_zretR m221 c221_460 rfl
theorem c221_425 : cod 221 425 = some (.aload_n 1, 1) := cod_of b221 dL_law_425
theorem t221_425 {d : Nat} {h : Hp} {Q : Pst} {l0 l2 l3 : Value} {x : Nat} {st : List Value} : T d 221 425 [l0, .ref x, l2, l3] st h Q ↔ T d 221 426 [l0, .ref x, l2, l3] (.ref x :: st) h Q := T_aload_n c221_425 rfl
theorem c221_426 : cod 221 426 = some (.aload_n 0, 1) := cod_of b221 dL_law_426
theorem t221_426 {d : Nat} {h : Hp} {Q : Pst} {l1 l2 l3 : Value} {x : Nat} {st : List Value} : T d 221 426 [.ref x, l1, l2, l3] st h Q ↔ T d 221 427 [.ref x, l1, l2, l3] (.ref x :: st) h Q := T_aload_n c221_426 rfl
theorem c221_427 : cod 221 427 = some (.iload_n 3, 1) := cod_of b221 dL_law_427
theorem t221_427 {d : Nat} {h : Hp} {Q : Pst} {l0 l1 l2 : Value} {x : Int32} {st : List Value} : T d 221 427 [l0, l1, l2, .int x] st h Q ↔ T d 221 428 [l0, l1, l2, .int x] (.int x :: st) h Q := T_iload_n c221_427 rfl
theorem c221_428 : cod 221 428 = some (.iconst 1, 1) := cod_of b221 dL_law_428
theorem t221_428 {d : Nat} {h : Hp} {Q : Pst} {ls : List Value} {st : List Value} : T d 221 428 ls st h Q ↔ T d 221 429 ls (.int 1 :: st) h Q := T_iconstV c221_428 (by decide)
theorem c221_429 : cod 221 429 = some (.iadd, 1) := cod_of b221 dL_law_429
theorem t221_429 {d : Nat} {h : Hp} {Q : Pst} {x y : Int32} {ls : List Value} {st : List Value} : T d 221 429 ls (.int y :: .int x :: st) h Q ↔ T d 221 430 ls (.int (x + y) :: st) h Q := T_iadd c221_429
theorem c221_430 : cod 221 430 = some (.iaload, 1) := cod_of b221 dL_law_430
theorem t221_430 {d : Nat} {h : Hp} {Q : Pst} {a : Nat} {i : Int32} {ls : List Value} {st : List Value} : T d 221 430 ls (.int i :: .ref a :: st) h Q ↔ aL (h.2.2 a) i (fun x => T d 221 431 ls (.int x :: st) h Q) := T_iaload c221_430
theorem c221_431 : cod 221 431 = some (.invokevirtual 52, 3) := cod_of b221 dL_law_431
theorem t221_431 {d : Nat} {h : Hp} {Q : Pst} {a0 : Int32} {a : Nat} {ls : List Value} (ho : isO (h.2.2 a) 6) : T (d + 1) 221 431 ls [.int a0, .ref a] h Q ↔ T d 84 0 [.ref a, .int a0] [] h (fun x h2 => T (d + 1) 221 434 ls (rl x []) h2 Q) := T_virtualR (as := [.int a0]) (r := []) m221 m84 c221_431 k20_52  rfl (by decide) rfl (by simp [wrd, Value.category]) (by simp [stk, Value.category]) rfl (by decide +kernel) ho
theorem c221_434 : cod 221 434 = some (.aload_n 2, 1) := cod_of b221 dL_law_434
theorem t221_434 {d : Nat} {h : Hp} {Q : Pst} {l0 l1 l3 : Value} {x : Nat} {st : List Value} : T d 221 434 [l0, l1, .ref x, l3] st h Q ↔ T d 221 435 [l0, l1, .ref x, l3] (.ref x :: st) h Q := T_aload_n c221_434 rfl
theorem c221_435 : cod 221 435 = some (.aload_n 0, 1) := cod_of b221 dL_law_435
theorem t221_435 {d : Nat} {h : Hp} {Q : Pst} {l1 l2 l3 : Value} {x : Nat} {st : List Value} : T d 221 435 [.ref x, l1, l2, l3] st h Q ↔ T d 221 436 [.ref x, l1, l2, l3] (.ref x :: st) h Q := T_aload_n c221_435 rfl
theorem c221_436 : cod 221 436 = some (.iload_n 3, 1) := cod_of b221 dL_law_436
theorem t221_436 {d : Nat} {h : Hp} {Q : Pst} {l0 l1 l2 : Value} {x : Int32} {st : List Value} : T d 221 436 [l0, l1, l2, .int x] st h Q ↔ T d 221 437 [l0, l1, l2, .int x] (.int x :: st) h Q := T_iload_n c221_436 rfl
theorem c221_437 : cod 221 437 = some (.iconst 1, 1) := cod_of b221 dL_law_437
theorem t221_437 {d : Nat} {h : Hp} {Q : Pst} {ls : List Value} {st : List Value} : T d 221 437 ls st h Q ↔ T d 221 438 ls (.int 1 :: st) h Q := T_iconstV c221_437 (by decide)
theorem c221_438 : cod 221 438 = some (.iadd, 1) := cod_of b221 dL_law_438
theorem t221_438 {d : Nat} {h : Hp} {Q : Pst} {x y : Int32} {ls : List Value} {st : List Value} : T d 221 438 ls (.int y :: .int x :: st) h Q ↔ T d 221 439 ls (.int (x + y) :: st) h Q := T_iadd c221_438
theorem c221_439 : cod 221 439 = some (.iaload, 1) := cod_of b221 dL_law_439
theorem t221_439 {d : Nat} {h : Hp} {Q : Pst} {a : Nat} {i : Int32} {ls : List Value} {st : List Value} : T d 221 439 ls (.int i :: .ref a :: st) h Q ↔ aL (h.2.2 a) i (fun x => T d 221 440 ls (.int x :: st) h Q) := T_iaload c221_439
theorem c221_440 : cod 221 440 = some (.invokevirtual 55, 3) := cod_of b221 dL_law_440
theorem t221_440 {d : Nat} {h : Hp} {Q : Pst} {a0 s0 : Int32} {a : Nat} {ls : List Value} (ho : isO (h.2.2 a) 7) : T (d + 1) 221 440 ls [.int a0, .ref a, .int s0] h Q ↔ T d 168 0 [.ref a, .int a0] [] h (fun x h2 => T (d + 1) 221 443 ls (rl x [.int s0]) h2 Q) := T_virtualR (as := [.int a0]) (r := [.int s0]) m221 m168 c221_440 k20_55  rfl (by decide) rfl (by simp [wrd, Value.category]) (by simp [stk, Value.category]) rfl (by decide +kernel) ho
theorem c221_443 : cod 221 443 = some (.if_icmp .eq 927, 3) := cod_of b221 dL_law_443
theorem t221_443 {d : Nat} {h : Hp} {Q : Pst} {x y : Int32} {ls : List Value} {st : List Value} : T d 221 443 ls (.int y :: .int x :: st) h Q ↔ (if x = y then T d 221 1370 ls st h Q else T d 221 446 ls st h Q) := T_icmp_eq c221_443 (by decide)
theorem c221_446 : cod 221 446 = some (.iconst 0, 1) := cod_of b221 dL_law_446
theorem t221_446 {d : Nat} {h : Hp} {Q : Pst} {ls : List Value} {st : List Value} : T d 221 446 ls st h Q ↔ T d 221 447 ls (.int 0 :: st) h Q := T_iconstV c221_446 (by decide)
theorem c221_447 : cod 221 447 = some (.ireturn, 1) := cod_of b221 dL_law_447
theorem t221_447 {d : Nat} {h : Hp} {Q : Pst} {x : Int32} {ls : List Value} : T d 221 447 ls [.int x] h Q ↔ (narrow .boolean (.int x) = .int x ∧ Q (some (.int x)) h) := T_zretR m221 c221_447 rfl
theorem c221_402 : cod 221 402 = some (.aload_n 1, 1) := cod_of b221 dL_law_402
theorem t221_402 {d : Nat} {h : Hp} {Q : Pst} {l0 l2 l3 : Value} {x : Nat} {st : List Value} : T d 221 402 [l0, .ref x, l2, l3] st h Q ↔ T d 221 403 [l0, .ref x, l2, l3] (.ref x :: st) h Q := T_aload_n c221_402 rfl
theorem c221_403 : cod 221 403 = some (.aload_n 0, 1) := cod_of b221 dL_law_403
theorem t221_403 {d : Nat} {h : Hp} {Q : Pst} {l1 l2 l3 : Value} {x : Nat} {st : List Value} : T d 221 403 [.ref x, l1, l2, l3] st h Q ↔ T d 221 404 [.ref x, l1, l2, l3] (.ref x :: st) h Q := T_aload_n c221_403 rfl
theorem c221_404 : cod 221 404 = some (.iload_n 3, 1) := cod_of b221 dL_law_404
theorem t221_404 {d : Nat} {h : Hp} {Q : Pst} {l0 l1 l2 : Value} {x : Int32} {st : List Value} : T d 221 404 [l0, l1, l2, .int x] st h Q ↔ T d 221 405 [l0, l1, l2, .int x] (.int x :: st) h Q := T_iload_n c221_404 rfl
theorem c221_405 : cod 221 405 = some (.iconst 1, 1) := cod_of b221 dL_law_405
theorem t221_405 {d : Nat} {h : Hp} {Q : Pst} {ls : List Value} {st : List Value} : T d 221 405 ls st h Q ↔ T d 221 406 ls (.int 1 :: st) h Q := T_iconstV c221_405 (by decide)
theorem c221_406 : cod 221 406 = some (.iadd, 1) := cod_of b221 dL_law_406
theorem t221_406 {d : Nat} {h : Hp} {Q : Pst} {x y : Int32} {ls : List Value} {st : List Value} : T d 221 406 ls (.int y :: .int x :: st) h Q ↔ T d 221 407 ls (.int (x + y) :: st) h Q := T_iadd c221_406
theorem c221_407 : cod 221 407 = some (.iaload, 1) := cod_of b221 dL_law_407
theorem t221_407 {d : Nat} {h : Hp} {Q : Pst} {a : Nat} {i : Int32} {ls : List Value} {st : List Value} : T d 221 407 ls (.int i :: .ref a :: st) h Q ↔ aL (h.2.2 a) i (fun x => T d 221 408 ls (.int x :: st) h Q) := T_iaload c221_407
theorem c221_408 : cod 221 408 = some (.invokevirtual 48, 3) := cod_of b221 dL_law_408
theorem t221_408 {d : Nat} {h : Hp} {Q : Pst} {a0 : Int32} {a : Nat} {ls : List Value} (ho : isO (h.2.2 a) 6) : T (d + 1) 221 408 ls [.int a0, .ref a] h Q ↔ T d 83 0 [.ref a, .int a0, un] [] h (fun x h2 => T (d + 1) 221 411 ls (rl x []) h2 Q) := T_virtualR (as := [.int a0]) (r := []) m221 m83 c221_408 k20_48  rfl (by decide) rfl (by simp [wrd, Value.category]) (by simp [stk, Value.category]) rfl (by decide +kernel) ho
theorem c221_411 : cod 221 411 = some (.aload_n 2, 1) := cod_of b221 dL_law_411
theorem t221_411 {d : Nat} {h : Hp} {Q : Pst} {l0 l1 l3 : Value} {x : Nat} {st : List Value} : T d 221 411 [l0, l1, .ref x, l3] st h Q ↔ T d 221 412 [l0, l1, .ref x, l3] (.ref x :: st) h Q := T_aload_n c221_411 rfl
theorem c221_412 : cod 221 412 = some (.aload_n 0, 1) := cod_of b221 dL_law_412
theorem t221_412 {d : Nat} {h : Hp} {Q : Pst} {l1 l2 l3 : Value} {x : Nat} {st : List Value} : T d 221 412 [.ref x, l1, l2, l3] st h Q ↔ T d 221 413 [.ref x, l1, l2, l3] (.ref x :: st) h Q := T_aload_n c221_412 rfl
theorem c221_413 : cod 221 413 = some (.iload_n 3, 1) := cod_of b221 dL_law_413
theorem t221_413 {d : Nat} {h : Hp} {Q : Pst} {l0 l1 l2 : Value} {x : Int32} {st : List Value} : T d 221 413 [l0, l1, l2, .int x] st h Q ↔ T d 221 414 [l0, l1, l2, .int x] (.int x :: st) h Q := T_iload_n c221_413 rfl
theorem c221_414 : cod 221 414 = some (.iconst 1, 1) := cod_of b221 dL_law_414
theorem t221_414 {d : Nat} {h : Hp} {Q : Pst} {ls : List Value} {st : List Value} : T d 221 414 ls st h Q ↔ T d 221 415 ls (.int 1 :: st) h Q := T_iconstV c221_414 (by decide)
theorem c221_415 : cod 221 415 = some (.iadd, 1) := cod_of b221 dL_law_415
theorem t221_415 {d : Nat} {h : Hp} {Q : Pst} {x y : Int32} {ls : List Value} {st : List Value} : T d 221 415 ls (.int y :: .int x :: st) h Q ↔ T d 221 416 ls (.int (x + y) :: st) h Q := T_iadd c221_415
theorem c221_416 : cod 221 416 = some (.iaload, 1) := cod_of b221 dL_law_416
theorem t221_416 {d : Nat} {h : Hp} {Q : Pst} {a : Nat} {i : Int32} {ls : List Value} {st : List Value} : T d 221 416 ls (.int i :: .ref a :: st) h Q ↔ aL (h.2.2 a) i (fun x => T d 221 417 ls (.int x :: st) h Q) := T_iaload c221_416
theorem c221_417 : cod 221 417 = some (.invokevirtual 51, 3) := cod_of b221 dL_law_417
theorem t221_417 {d : Nat} {h : Hp} {Q : Pst} {a0 s0 : Int32} {a : Nat} {ls : List Value} (ho : isO (h.2.2 a) 7) : T (d + 1) 221 417 ls [.int a0, .ref a, .int s0] h Q ↔ T d 167 0 [.ref a, .int a0, un] [] h (fun x h2 => T (d + 1) 221 420 ls (rl x [.int s0]) h2 Q) := T_virtualR (as := [.int a0]) (r := [.int s0]) m221 m167 c221_417 k20_51  rfl (by decide) rfl (by simp [wrd, Value.category]) (by simp [stk, Value.category]) rfl (by decide +kernel) ho
theorem c221_420 : cod 221 420 = some (.if_icmp .eq 950, 3) := cod_of b221 dL_law_420
theorem t221_420 {d : Nat} {h : Hp} {Q : Pst} {x y : Int32} {ls : List Value} {st : List Value} : T d 221 420 ls (.int y :: .int x :: st) h Q ↔ (if x = y then T d 221 1370 ls st h Q else T d 221 423 ls st h Q) := T_icmp_eq c221_420 (by decide)
theorem c221_423 : cod 221 423 = some (.iconst 0, 1) := cod_of b221 dL_law_423
theorem t221_423 {d : Nat} {h : Hp} {Q : Pst} {ls : List Value} {st : List Value} : T d 221 423 ls st h Q ↔ T d 221 424 ls (.int 0 :: st) h Q := T_iconstV c221_423 (by decide)
theorem c221_424 : cod 221 424 = some (.ireturn, 1) := cod_of b221 dL_law_424
theorem t221_424 {d : Nat} {h : Hp} {Q : Pst} {x : Int32} {ls : List Value} : T d 221 424 ls [.int x] h Q ↔ (narrow .boolean (.int x) = .int x ∧ Q (some (.int x)) h) := T_zretR m221 c221_424 rfl
theorem c221_379 : cod 221 379 = some (.aload_n 1, 1) := cod_of b221 dL_law_379
theorem t221_379 {d : Nat} {h : Hp} {Q : Pst} {l0 l2 l3 : Value} {x : Nat} {st : List Value} : T d 221 379 [l0, .ref x, l2, l3] st h Q ↔ T d 221 380 [l0, .ref x, l2, l3] (.ref x :: st) h Q := T_aload_n c221_379 rfl
theorem c221_380 : cod 221 380 = some (.aload_n 0, 1) := cod_of b221 dL_law_380
theorem t221_380 {d : Nat} {h : Hp} {Q : Pst} {l1 l2 l3 : Value} {x : Nat} {st : List Value} : T d 221 380 [.ref x, l1, l2, l3] st h Q ↔ T d 221 381 [.ref x, l1, l2, l3] (.ref x :: st) h Q := T_aload_n c221_380 rfl
theorem c221_381 : cod 221 381 = some (.iload_n 3, 1) := cod_of b221 dL_law_381
theorem t221_381 {d : Nat} {h : Hp} {Q : Pst} {l0 l1 l2 : Value} {x : Int32} {st : List Value} : T d 221 381 [l0, l1, l2, .int x] st h Q ↔ T d 221 382 [l0, l1, l2, .int x] (.int x :: st) h Q := T_iload_n c221_381 rfl
theorem c221_382 : cod 221 382 = some (.iconst 1, 1) := cod_of b221 dL_law_382
theorem t221_382 {d : Nat} {h : Hp} {Q : Pst} {ls : List Value} {st : List Value} : T d 221 382 ls st h Q ↔ T d 221 383 ls (.int 1 :: st) h Q := T_iconstV c221_382 (by decide)
theorem c221_383 : cod 221 383 = some (.iadd, 1) := cod_of b221 dL_law_383
theorem t221_383 {d : Nat} {h : Hp} {Q : Pst} {x y : Int32} {ls : List Value} {st : List Value} : T d 221 383 ls (.int y :: .int x :: st) h Q ↔ T d 221 384 ls (.int (x + y) :: st) h Q := T_iadd c221_383
theorem c221_384 : cod 221 384 = some (.iaload, 1) := cod_of b221 dL_law_384
theorem t221_384 {d : Nat} {h : Hp} {Q : Pst} {a : Nat} {i : Int32} {ls : List Value} {st : List Value} : T d 221 384 ls (.int i :: .ref a :: st) h Q ↔ aL (h.2.2 a) i (fun x => T d 221 385 ls (.int x :: st) h Q) := T_iaload c221_384
theorem c221_385 : cod 221 385 = some (.invokevirtual 44, 3) := cod_of b221 dL_law_385
theorem t221_385 {d : Nat} {h : Hp} {Q : Pst} {a0 : Int32} {a : Nat} {ls : List Value} (ho : isO (h.2.2 a) 6) : T (d + 1) 221 385 ls [.int a0, .ref a] h Q ↔ T d 82 0 [.ref a, .int a0, un] [] h (fun x h2 => T (d + 1) 221 388 ls (rl x []) h2 Q) := T_virtualR (as := [.int a0]) (r := []) m221 m82 c221_385 k20_44  rfl (by decide) rfl (by simp [wrd, Value.category]) (by simp [stk, Value.category]) rfl (by decide +kernel) ho
theorem c221_388 : cod 221 388 = some (.aload_n 2, 1) := cod_of b221 dL_law_388
theorem t221_388 {d : Nat} {h : Hp} {Q : Pst} {l0 l1 l3 : Value} {x : Nat} {st : List Value} : T d 221 388 [l0, l1, .ref x, l3] st h Q ↔ T d 221 389 [l0, l1, .ref x, l3] (.ref x :: st) h Q := T_aload_n c221_388 rfl
theorem c221_389 : cod 221 389 = some (.aload_n 0, 1) := cod_of b221 dL_law_389
theorem t221_389 {d : Nat} {h : Hp} {Q : Pst} {l1 l2 l3 : Value} {x : Nat} {st : List Value} : T d 221 389 [.ref x, l1, l2, l3] st h Q ↔ T d 221 390 [.ref x, l1, l2, l3] (.ref x :: st) h Q := T_aload_n c221_389 rfl
theorem c221_390 : cod 221 390 = some (.iload_n 3, 1) := cod_of b221 dL_law_390
theorem t221_390 {d : Nat} {h : Hp} {Q : Pst} {l0 l1 l2 : Value} {x : Int32} {st : List Value} : T d 221 390 [l0, l1, l2, .int x] st h Q ↔ T d 221 391 [l0, l1, l2, .int x] (.int x :: st) h Q := T_iload_n c221_390 rfl
theorem c221_391 : cod 221 391 = some (.iconst 1, 1) := cod_of b221 dL_law_391
theorem t221_391 {d : Nat} {h : Hp} {Q : Pst} {ls : List Value} {st : List Value} : T d 221 391 ls st h Q ↔ T d 221 392 ls (.int 1 :: st) h Q := T_iconstV c221_391 (by decide)
theorem c221_392 : cod 221 392 = some (.iadd, 1) := cod_of b221 dL_law_392
theorem t221_392 {d : Nat} {h : Hp} {Q : Pst} {x y : Int32} {ls : List Value} {st : List Value} : T d 221 392 ls (.int y :: .int x :: st) h Q ↔ T d 221 393 ls (.int (x + y) :: st) h Q := T_iadd c221_392
theorem c221_393 : cod 221 393 = some (.iaload, 1) := cod_of b221 dL_law_393
theorem t221_393 {d : Nat} {h : Hp} {Q : Pst} {a : Nat} {i : Int32} {ls : List Value} {st : List Value} : T d 221 393 ls (.int i :: .ref a :: st) h Q ↔ aL (h.2.2 a) i (fun x => T d 221 394 ls (.int x :: st) h Q) := T_iaload c221_393
theorem c221_394 : cod 221 394 = some (.invokevirtual 47, 3) := cod_of b221 dL_law_394
theorem t221_394 {d : Nat} {h : Hp} {Q : Pst} {a0 s0 : Int32} {a : Nat} {ls : List Value} (ho : isO (h.2.2 a) 7) : T (d + 1) 221 394 ls [.int a0, .ref a, .int s0] h Q ↔ T d 166 0 [.ref a, .int a0, un] [] h (fun x h2 => T (d + 1) 221 397 ls (rl x [.int s0]) h2 Q) := T_virtualR (as := [.int a0]) (r := [.int s0]) m221 m166 c221_394 k20_47  rfl (by decide) rfl (by simp [wrd, Value.category]) (by simp [stk, Value.category]) rfl (by decide +kernel) ho
theorem c221_397 : cod 221 397 = some (.if_icmp .eq 973, 3) := cod_of b221 dL_law_397
theorem t221_397 {d : Nat} {h : Hp} {Q : Pst} {x y : Int32} {ls : List Value} {st : List Value} : T d 221 397 ls (.int y :: .int x :: st) h Q ↔ (if x = y then T d 221 1370 ls st h Q else T d 221 400 ls st h Q) := T_icmp_eq c221_397 (by decide)
theorem c221_400 : cod 221 400 = some (.iconst 0, 1) := cod_of b221 dL_law_400
theorem t221_400 {d : Nat} {h : Hp} {Q : Pst} {ls : List Value} {st : List Value} : T d 221 400 ls st h Q ↔ T d 221 401 ls (.int 0 :: st) h Q := T_iconstV c221_400 (by decide)
theorem c221_401 : cod 221 401 = some (.ireturn, 1) := cod_of b221 dL_law_401
theorem t221_401 {d : Nat} {h : Hp} {Q : Pst} {x : Int32} {ls : List Value} : T d 221 401 ls [.int x] h Q ↔ (narrow .boolean (.int x) = .int x ∧ Q (some (.int x)) h) := T_zretR m221 c221_401 rfl
theorem c221_346 : cod 221 346 = some (.aload_n 1, 1) := cod_of b221 dL_law_346
theorem t221_346 {d : Nat} {h : Hp} {Q : Pst} {l0 l2 l3 : Value} {x : Nat} {st : List Value} : T d 221 346 [l0, .ref x, l2, l3] st h Q ↔ T d 221 347 [l0, .ref x, l2, l3] (.ref x :: st) h Q := T_aload_n c221_346 rfl
theorem c221_347 : cod 221 347 = some (.aload_n 0, 1) := cod_of b221 dL_law_347
theorem t221_347 {d : Nat} {h : Hp} {Q : Pst} {l1 l2 l3 : Value} {x : Nat} {st : List Value} : T d 221 347 [.ref x, l1, l2, l3] st h Q ↔ T d 221 348 [.ref x, l1, l2, l3] (.ref x :: st) h Q := T_aload_n c221_347 rfl
theorem c221_348 : cod 221 348 = some (.iload_n 3, 1) := cod_of b221 dL_law_348
theorem t221_348 {d : Nat} {h : Hp} {Q : Pst} {l0 l1 l2 : Value} {x : Int32} {st : List Value} : T d 221 348 [l0, l1, l2, .int x] st h Q ↔ T d 221 349 [l0, l1, l2, .int x] (.int x :: st) h Q := T_iload_n c221_348 rfl
theorem c221_349 : cod 221 349 = some (.iconst 1, 1) := cod_of b221 dL_law_349
theorem t221_349 {d : Nat} {h : Hp} {Q : Pst} {ls : List Value} {st : List Value} : T d 221 349 ls st h Q ↔ T d 221 350 ls (.int 1 :: st) h Q := T_iconstV c221_349 (by decide)
theorem c221_350 : cod 221 350 = some (.iadd, 1) := cod_of b221 dL_law_350
theorem t221_350 {d : Nat} {h : Hp} {Q : Pst} {x y : Int32} {ls : List Value} {st : List Value} : T d 221 350 ls (.int y :: .int x :: st) h Q ↔ T d 221 351 ls (.int (x + y) :: st) h Q := T_iadd c221_350
theorem c221_351 : cod 221 351 = some (.iaload, 1) := cod_of b221 dL_law_351
theorem t221_351 {d : Nat} {h : Hp} {Q : Pst} {a : Nat} {i : Int32} {ls : List Value} {st : List Value} : T d 221 351 ls (.int i :: .ref a :: st) h Q ↔ aL (h.2.2 a) i (fun x => T d 221 352 ls (.int x :: st) h Q) := T_iaload c221_351
theorem c221_352 : cod 221 352 = some (.aload_n 0, 1) := cod_of b221 dL_law_352
theorem t221_352 {d : Nat} {h : Hp} {Q : Pst} {l1 l2 l3 : Value} {x : Nat} {st : List Value} : T d 221 352 [.ref x, l1, l2, l3] st h Q ↔ T d 221 353 [.ref x, l1, l2, l3] (.ref x :: st) h Q := T_aload_n c221_352 rfl
theorem c221_353 : cod 221 353 = some (.iload_n 3, 1) := cod_of b221 dL_law_353
theorem t221_353 {d : Nat} {h : Hp} {Q : Pst} {l0 l1 l2 : Value} {x : Int32} {st : List Value} : T d 221 353 [l0, l1, l2, .int x] st h Q ↔ T d 221 354 [l0, l1, l2, .int x] (.int x :: st) h Q := T_iload_n c221_353 rfl
theorem c221_354 : cod 221 354 = some (.iconst 2, 1) := cod_of b221 dL_law_354
theorem t221_354 {d : Nat} {h : Hp} {Q : Pst} {ls : List Value} {st : List Value} : T d 221 354 ls st h Q ↔ T d 221 355 ls (.int 2 :: st) h Q := T_iconstV c221_354 (by decide)
theorem c221_355 : cod 221 355 = some (.iadd, 1) := cod_of b221 dL_law_355
theorem t221_355 {d : Nat} {h : Hp} {Q : Pst} {x y : Int32} {ls : List Value} {st : List Value} : T d 221 355 ls (.int y :: .int x :: st) h Q ↔ T d 221 356 ls (.int (x + y) :: st) h Q := T_iadd c221_355
theorem c221_356 : cod 221 356 = some (.iaload, 1) := cod_of b221 dL_law_356
theorem t221_356 {d : Nat} {h : Hp} {Q : Pst} {a : Nat} {i : Int32} {ls : List Value} {st : List Value} : T d 221 356 ls (.int i :: .ref a :: st) h Q ↔ aL (h.2.2 a) i (fun x => T d 221 357 ls (.int x :: st) h Q) := T_iaload c221_356
theorem c221_357 : cod 221 357 = some (.invokevirtual 40, 3) := cod_of b221 dL_law_357
theorem t221_357 {d : Nat} {h : Hp} {Q : Pst} {a0 a1 : Int32} {a : Nat} {ls : List Value} (ho : isO (h.2.2 a) 6) : T (d + 1) 221 357 ls [.int a1, .int a0, .ref a] h Q ↔ T d 81 0 [.ref a, .int a0, .int a1] [] h (fun x h2 => T (d + 1) 221 360 ls (rl x []) h2 Q) := T_virtualR (as := [.int a0, .int a1]) (r := []) m221 m81 c221_357 k20_40  rfl (by decide) rfl (by simp [wrd, Value.category]) (by simp [stk, Value.category]) rfl (by decide +kernel) ho
theorem c221_360 : cod 221 360 = some (.aload_n 2, 1) := cod_of b221 dL_law_360
theorem t221_360 {d : Nat} {h : Hp} {Q : Pst} {l0 l1 l3 : Value} {x : Nat} {st : List Value} : T d 221 360 [l0, l1, .ref x, l3] st h Q ↔ T d 221 361 [l0, l1, .ref x, l3] (.ref x :: st) h Q := T_aload_n c221_360 rfl
theorem c221_361 : cod 221 361 = some (.aload_n 0, 1) := cod_of b221 dL_law_361
theorem t221_361 {d : Nat} {h : Hp} {Q : Pst} {l1 l2 l3 : Value} {x : Nat} {st : List Value} : T d 221 361 [.ref x, l1, l2, l3] st h Q ↔ T d 221 362 [.ref x, l1, l2, l3] (.ref x :: st) h Q := T_aload_n c221_361 rfl
theorem c221_362 : cod 221 362 = some (.iload_n 3, 1) := cod_of b221 dL_law_362
theorem t221_362 {d : Nat} {h : Hp} {Q : Pst} {l0 l1 l2 : Value} {x : Int32} {st : List Value} : T d 221 362 [l0, l1, l2, .int x] st h Q ↔ T d 221 363 [l0, l1, l2, .int x] (.int x :: st) h Q := T_iload_n c221_362 rfl
theorem c221_363 : cod 221 363 = some (.iconst 1, 1) := cod_of b221 dL_law_363
theorem t221_363 {d : Nat} {h : Hp} {Q : Pst} {ls : List Value} {st : List Value} : T d 221 363 ls st h Q ↔ T d 221 364 ls (.int 1 :: st) h Q := T_iconstV c221_363 (by decide)
theorem c221_364 : cod 221 364 = some (.iadd, 1) := cod_of b221 dL_law_364
theorem t221_364 {d : Nat} {h : Hp} {Q : Pst} {x y : Int32} {ls : List Value} {st : List Value} : T d 221 364 ls (.int y :: .int x :: st) h Q ↔ T d 221 365 ls (.int (x + y) :: st) h Q := T_iadd c221_364
theorem c221_365 : cod 221 365 = some (.iaload, 1) := cod_of b221 dL_law_365
theorem t221_365 {d : Nat} {h : Hp} {Q : Pst} {a : Nat} {i : Int32} {ls : List Value} {st : List Value} : T d 221 365 ls (.int i :: .ref a :: st) h Q ↔ aL (h.2.2 a) i (fun x => T d 221 366 ls (.int x :: st) h Q) := T_iaload c221_365
theorem c221_366 : cod 221 366 = some (.aload_n 0, 1) := cod_of b221 dL_law_366
theorem t221_366 {d : Nat} {h : Hp} {Q : Pst} {l1 l2 l3 : Value} {x : Nat} {st : List Value} : T d 221 366 [.ref x, l1, l2, l3] st h Q ↔ T d 221 367 [.ref x, l1, l2, l3] (.ref x :: st) h Q := T_aload_n c221_366 rfl
theorem c221_367 : cod 221 367 = some (.iload_n 3, 1) := cod_of b221 dL_law_367
theorem t221_367 {d : Nat} {h : Hp} {Q : Pst} {l0 l1 l2 : Value} {x : Int32} {st : List Value} : T d 221 367 [l0, l1, l2, .int x] st h Q ↔ T d 221 368 [l0, l1, l2, .int x] (.int x :: st) h Q := T_iload_n c221_367 rfl
theorem c221_368 : cod 221 368 = some (.iconst 2, 1) := cod_of b221 dL_law_368
theorem t221_368 {d : Nat} {h : Hp} {Q : Pst} {ls : List Value} {st : List Value} : T d 221 368 ls st h Q ↔ T d 221 369 ls (.int 2 :: st) h Q := T_iconstV c221_368 (by decide)
theorem c221_369 : cod 221 369 = some (.iadd, 1) := cod_of b221 dL_law_369
theorem t221_369 {d : Nat} {h : Hp} {Q : Pst} {x y : Int32} {ls : List Value} {st : List Value} : T d 221 369 ls (.int y :: .int x :: st) h Q ↔ T d 221 370 ls (.int (x + y) :: st) h Q := T_iadd c221_369
theorem c221_370 : cod 221 370 = some (.iaload, 1) := cod_of b221 dL_law_370
theorem t221_370 {d : Nat} {h : Hp} {Q : Pst} {a : Nat} {i : Int32} {ls : List Value} {st : List Value} : T d 221 370 ls (.int i :: .ref a :: st) h Q ↔ aL (h.2.2 a) i (fun x => T d 221 371 ls (.int x :: st) h Q) := T_iaload c221_370
theorem c221_371 : cod 221 371 = some (.invokevirtual 43, 3) := cod_of b221 dL_law_371
theorem t221_371 {d : Nat} {h : Hp} {Q : Pst} {a0 a1 s0 : Int32} {a : Nat} {ls : List Value} (ho : isO (h.2.2 a) 7) : T (d + 1) 221 371 ls [.int a1, .int a0, .ref a, .int s0] h Q ↔ T d 165 0 [.ref a, .int a0, .int a1] [] h (fun x h2 => T (d + 1) 221 374 ls (rl x [.int s0]) h2 Q) := T_virtualR (as := [.int a0, .int a1]) (r := [.int s0]) m221 m165 c221_371 k20_43  rfl (by decide) rfl (by simp [wrd, Value.category]) (by simp [stk, Value.category]) rfl (by decide +kernel) ho
theorem c221_374 : cod 221 374 = some (.if_icmp .eq 996, 3) := cod_of b221 dL_law_374
theorem t221_374 {d : Nat} {h : Hp} {Q : Pst} {x y : Int32} {ls : List Value} {st : List Value} : T d 221 374 ls (.int y :: .int x :: st) h Q ↔ (if x = y then T d 221 1370 ls st h Q else T d 221 377 ls st h Q) := T_icmp_eq c221_374 (by decide)
theorem c221_377 : cod 221 377 = some (.iconst 0, 1) := cod_of b221 dL_law_377
theorem t221_377 {d : Nat} {h : Hp} {Q : Pst} {ls : List Value} {st : List Value} : T d 221 377 ls st h Q ↔ T d 221 378 ls (.int 0 :: st) h Q := T_iconstV c221_377 (by decide)
theorem c221_378 : cod 221 378 = some (.ireturn, 1) := cod_of b221 dL_law_378
theorem t221_378 {d : Nat} {h : Hp} {Q : Pst} {x : Int32} {ls : List Value} : T d 221 378 ls [.int x] h Q ↔ (narrow .boolean (.int x) = .int x ∧ Q (some (.int x)) h) := T_zretR m221 c221_378 rfl
theorem c221_333 : cod 221 333 = some (.aload_n 1, 1) := cod_of b221 dL_law_333
theorem t221_333 {d : Nat} {h : Hp} {Q : Pst} {l0 l2 l3 : Value} {x : Nat} {st : List Value} : T d 221 333 [l0, .ref x, l2, l3] st h Q ↔ T d 221 334 [l0, .ref x, l2, l3] (.ref x :: st) h Q := T_aload_n c221_333 rfl
theorem c221_334 : cod 221 334 = some (.invokevirtual 36, 3) := cod_of b221 dL_law_334
theorem t221_334 {d : Nat} {h : Hp} {Q : Pst} {a : Nat} {ls : List Value} (ho : isO (h.2.2 a) 6) : T (d + 1) 221 334 ls [.ref a] h Q ↔ T d 80 0 [.ref a, un] [] h (fun x h2 => T (d + 1) 221 337 ls (rl x []) h2 Q) := T_virtualR (as := []) (r := []) m221 m80 c221_334 k20_36  rfl (by decide) rfl (by simp [wrd, Value.category]) (by simp [stk, Value.category]) rfl (by decide +kernel) ho
theorem c221_337 : cod 221 337 = some (.aload_n 2, 1) := cod_of b221 dL_law_337
theorem t221_337 {d : Nat} {h : Hp} {Q : Pst} {l0 l1 l3 : Value} {x : Nat} {st : List Value} : T d 221 337 [l0, l1, .ref x, l3] st h Q ↔ T d 221 338 [l0, l1, .ref x, l3] (.ref x :: st) h Q := T_aload_n c221_337 rfl
theorem c221_338 : cod 221 338 = some (.invokevirtual 39, 3) := cod_of b221 dL_law_338
theorem t221_338 {d : Nat} {h : Hp} {Q : Pst} {s0 : Int32} {a : Nat} {ls : List Value} (ho : isO (h.2.2 a) 7) : T (d + 1) 221 338 ls [.ref a, .int s0] h Q ↔ T d 151 0 [.ref a, un] [] h (fun x h2 => T (d + 1) 221 341 ls (rl x [.int s0]) h2 Q) := T_virtualR (as := []) (r := [.int s0]) m221 m151 c221_338 k20_39  rfl (by decide) rfl (by simp [wrd, Value.category]) (by simp [stk, Value.category]) rfl (by decide +kernel) ho
theorem c221_341 : cod 221 341 = some (.if_icmp .eq 1029, 3) := cod_of b221 dL_law_341
theorem t221_341 {d : Nat} {h : Hp} {Q : Pst} {x y : Int32} {ls : List Value} {st : List Value} : T d 221 341 ls (.int y :: .int x :: st) h Q ↔ (if x = y then T d 221 1370 ls st h Q else T d 221 344 ls st h Q) := T_icmp_eq c221_341 (by decide)
theorem c221_344 : cod 221 344 = some (.iconst 0, 1) := cod_of b221 dL_law_344
theorem t221_344 {d : Nat} {h : Hp} {Q : Pst} {ls : List Value} {st : List Value} : T d 221 344 ls st h Q ↔ T d 221 345 ls (.int 0 :: st) h Q := T_iconstV c221_344 (by decide)
theorem c221_345 : cod 221 345 = some (.ireturn, 1) := cod_of b221 dL_law_345
theorem t221_345 {d : Nat} {h : Hp} {Q : Pst} {x : Int32} {ls : List Value} : T d 221 345 ls [.int x] h Q ↔ (narrow .boolean (.int x) = .int x ∧ Q (some (.int x)) h) := T_zretR m221 c221_345 rfl
theorem c221_320 : cod 221 320 = some (.aload_n 1, 1) := cod_of b221 dL_law_320
theorem t221_320 {d : Nat} {h : Hp} {Q : Pst} {l0 l2 l3 : Value} {x : Nat} {st : List Value} : T d 221 320 [l0, .ref x, l2, l3] st h Q ↔ T d 221 321 [l0, .ref x, l2, l3] (.ref x :: st) h Q := T_aload_n c221_320 rfl
theorem c221_321 : cod 221 321 = some (.invokevirtual 31, 3) := cod_of b221 dL_law_321
theorem t221_321 {d : Nat} {h : Hp} {Q : Pst} {a : Nat} {ls : List Value} (ho : isO (h.2.2 a) 6) : T (d + 1) 221 321 ls [.ref a] h Q ↔ T d 79 0 [.ref a, un] [] h (fun x h2 => T (d + 1) 221 324 ls (rl x []) h2 Q) := T_virtualR (as := []) (r := []) m221 m79 c221_321 k20_31  rfl (by decide) rfl (by simp [wrd, Value.category]) (by simp [stk, Value.category]) rfl (by decide +kernel) ho
theorem c221_324 : cod 221 324 = some (.aload_n 2, 1) := cod_of b221 dL_law_324
theorem t221_324 {d : Nat} {h : Hp} {Q : Pst} {l0 l1 l3 : Value} {x : Nat} {st : List Value} : T d 221 324 [l0, l1, .ref x, l3] st h Q ↔ T d 221 325 [l0, l1, .ref x, l3] (.ref x :: st) h Q := T_aload_n c221_324 rfl
theorem c221_325 : cod 221 325 = some (.invokevirtual 35, 3) := cod_of b221 dL_law_325
theorem t221_325 {d : Nat} {h : Hp} {Q : Pst} {s0 : Int32} {a : Nat} {ls : List Value} (ho : isO (h.2.2 a) 7) : T (d + 1) 221 325 ls [.ref a, .int s0] h Q ↔ T d 138 0 [.ref a, un] [] h (fun x h2 => T (d + 1) 221 328 ls (rl x [.int s0]) h2 Q) := T_virtualR (as := []) (r := [.int s0]) m221 m138 c221_325 k20_35  rfl (by decide) rfl (by simp [wrd, Value.category]) (by simp [stk, Value.category]) rfl (by decide +kernel) ho
theorem c221_328 : cod 221 328 = some (.if_icmp .eq 1042, 3) := cod_of b221 dL_law_328
theorem t221_328 {d : Nat} {h : Hp} {Q : Pst} {x y : Int32} {ls : List Value} {st : List Value} : T d 221 328 ls (.int y :: .int x :: st) h Q ↔ (if x = y then T d 221 1370 ls st h Q else T d 221 331 ls st h Q) := T_icmp_eq c221_328 (by decide)
theorem c221_331 : cod 221 331 = some (.iconst 0, 1) := cod_of b221 dL_law_331
theorem t221_331 {d : Nat} {h : Hp} {Q : Pst} {ls : List Value} {st : List Value} : T d 221 331 ls st h Q ↔ T d 221 332 ls (.int 0 :: st) h Q := T_iconstV c221_331 (by decide)
theorem c221_332 : cod 221 332 = some (.ireturn, 1) := cod_of b221 dL_law_332
theorem t221_332 {d : Nat} {h : Hp} {Q : Pst} {x : Int32} {ls : List Value} : T d 221 332 ls [.int x] h Q ↔ (narrow .boolean (.int x) = .int x ∧ Q (some (.int x)) h) := T_zretR m221 c221_332 rfl
theorem c221_297 : cod 221 297 = some (.aload_n 1, 1) := cod_of b221 dL_law_297
theorem t221_297 {d : Nat} {h : Hp} {Q : Pst} {l0 l2 l3 : Value} {x : Nat} {st : List Value} : T d 221 297 [l0, .ref x, l2, l3] st h Q ↔ T d 221 298 [l0, .ref x, l2, l3] (.ref x :: st) h Q := T_aload_n c221_297 rfl
theorem c221_298 : cod 221 298 = some (.aload_n 0, 1) := cod_of b221 dL_law_298
theorem t221_298 {d : Nat} {h : Hp} {Q : Pst} {l1 l2 l3 : Value} {x : Nat} {st : List Value} : T d 221 298 [.ref x, l1, l2, l3] st h Q ↔ T d 221 299 [.ref x, l1, l2, l3] (.ref x :: st) h Q := T_aload_n c221_298 rfl
theorem c221_299 : cod 221 299 = some (.iload_n 3, 1) := cod_of b221 dL_law_299
theorem t221_299 {d : Nat} {h : Hp} {Q : Pst} {l0 l1 l2 : Value} {x : Int32} {st : List Value} : T d 221 299 [l0, l1, l2, .int x] st h Q ↔ T d 221 300 [l0, l1, l2, .int x] (.int x :: st) h Q := T_iload_n c221_299 rfl
theorem c221_300 : cod 221 300 = some (.iconst 1, 1) := cod_of b221 dL_law_300
theorem t221_300 {d : Nat} {h : Hp} {Q : Pst} {ls : List Value} {st : List Value} : T d 221 300 ls st h Q ↔ T d 221 301 ls (.int 1 :: st) h Q := T_iconstV c221_300 (by decide)
theorem c221_301 : cod 221 301 = some (.iadd, 1) := cod_of b221 dL_law_301
theorem t221_301 {d : Nat} {h : Hp} {Q : Pst} {x y : Int32} {ls : List Value} {st : List Value} : T d 221 301 ls (.int y :: .int x :: st) h Q ↔ T d 221 302 ls (.int (x + y) :: st) h Q := T_iadd c221_301
theorem c221_302 : cod 221 302 = some (.iaload, 1) := cod_of b221 dL_law_302
theorem t221_302 {d : Nat} {h : Hp} {Q : Pst} {a : Nat} {i : Int32} {ls : List Value} {st : List Value} : T d 221 302 ls (.int i :: .ref a :: st) h Q ↔ aL (h.2.2 a) i (fun x => T d 221 303 ls (.int x :: st) h Q) := T_iaload c221_302
theorem c221_303 : cod 221 303 = some (.invokevirtual 27, 3) := cod_of b221 dL_law_303
theorem t221_303 {d : Nat} {h : Hp} {Q : Pst} {a0 : Int32} {a : Nat} {ls : List Value} (ho : isO (h.2.2 a) 6) : T (d + 1) 221 303 ls [.int a0, .ref a] h Q ↔ T d 78 0 [.ref a, .int a0] [] h (fun x h2 => T (d + 1) 221 306 ls (rl x []) h2 Q) := T_virtualR (as := [.int a0]) (r := []) m221 m78 c221_303 k20_27  rfl (by decide) rfl (by simp [wrd, Value.category]) (by simp [stk, Value.category]) rfl (by decide +kernel) ho
theorem c221_306 : cod 221 306 = some (.aload_n 2, 1) := cod_of b221 dL_law_306
theorem t221_306 {d : Nat} {h : Hp} {Q : Pst} {l0 l1 l3 : Value} {x : Nat} {st : List Value} : T d 221 306 [l0, l1, .ref x, l3] st h Q ↔ T d 221 307 [l0, l1, .ref x, l3] (.ref x :: st) h Q := T_aload_n c221_306 rfl
theorem c221_307 : cod 221 307 = some (.aload_n 0, 1) := cod_of b221 dL_law_307
theorem t221_307 {d : Nat} {h : Hp} {Q : Pst} {l1 l2 l3 : Value} {x : Nat} {st : List Value} : T d 221 307 [.ref x, l1, l2, l3] st h Q ↔ T d 221 308 [.ref x, l1, l2, l3] (.ref x :: st) h Q := T_aload_n c221_307 rfl
theorem c221_308 : cod 221 308 = some (.iload_n 3, 1) := cod_of b221 dL_law_308
theorem t221_308 {d : Nat} {h : Hp} {Q : Pst} {l0 l1 l2 : Value} {x : Int32} {st : List Value} : T d 221 308 [l0, l1, l2, .int x] st h Q ↔ T d 221 309 [l0, l1, l2, .int x] (.int x :: st) h Q := T_iload_n c221_308 rfl
theorem c221_309 : cod 221 309 = some (.iconst 1, 1) := cod_of b221 dL_law_309
theorem t221_309 {d : Nat} {h : Hp} {Q : Pst} {ls : List Value} {st : List Value} : T d 221 309 ls st h Q ↔ T d 221 310 ls (.int 1 :: st) h Q := T_iconstV c221_309 (by decide)
theorem c221_310 : cod 221 310 = some (.iadd, 1) := cod_of b221 dL_law_310
theorem t221_310 {d : Nat} {h : Hp} {Q : Pst} {x y : Int32} {ls : List Value} {st : List Value} : T d 221 310 ls (.int y :: .int x :: st) h Q ↔ T d 221 311 ls (.int (x + y) :: st) h Q := T_iadd c221_310
theorem c221_311 : cod 221 311 = some (.iaload, 1) := cod_of b221 dL_law_311
theorem t221_311 {d : Nat} {h : Hp} {Q : Pst} {a : Nat} {i : Int32} {ls : List Value} {st : List Value} : T d 221 311 ls (.int i :: .ref a :: st) h Q ↔ aL (h.2.2 a) i (fun x => T d 221 312 ls (.int x :: st) h Q) := T_iaload c221_311
theorem c221_312 : cod 221 312 = some (.invokevirtual 30, 3) := cod_of b221 dL_law_312
theorem t221_312 {d : Nat} {h : Hp} {Q : Pst} {a0 s0 : Int32} {a : Nat} {ls : List Value} (ho : isO (h.2.2 a) 7) : T (d + 1) 221 312 ls [.int a0, .ref a, .int s0] h Q ↔ T d 137 0 [.ref a, .int a0] [] h (fun x h2 => T (d + 1) 221 315 ls (rl x [.int s0]) h2 Q) := T_virtualR (as := [.int a0]) (r := [.int s0]) m221 m137 c221_312 k20_30  rfl (by decide) rfl (by simp [wrd, Value.category]) (by simp [stk, Value.category]) rfl (by decide +kernel) ho
theorem c221_315 : cod 221 315 = some (.if_icmp .eq 1055, 3) := cod_of b221 dL_law_315
theorem t221_315 {d : Nat} {h : Hp} {Q : Pst} {x y : Int32} {ls : List Value} {st : List Value} : T d 221 315 ls (.int y :: .int x :: st) h Q ↔ (if x = y then T d 221 1370 ls st h Q else T d 221 318 ls st h Q) := T_icmp_eq c221_315 (by decide)
theorem c221_318 : cod 221 318 = some (.iconst 0, 1) := cod_of b221 dL_law_318
theorem t221_318 {d : Nat} {h : Hp} {Q : Pst} {ls : List Value} {st : List Value} : T d 221 318 ls st h Q ↔ T d 221 319 ls (.int 0 :: st) h Q := T_iconstV c221_318 (by decide)
theorem c221_319 : cod 221 319 = some (.ireturn, 1) := cod_of b221 dL_law_319
theorem t221_319 {d : Nat} {h : Hp} {Q : Pst} {x : Int32} {ls : List Value} : T d 221 319 ls [.int x] h Q ↔ (narrow .boolean (.int x) = .int x ∧ Q (some (.int x)) h) := T_zretR m221 c221_319 rfl
theorem c221_264 : cod 221 264 = some (.aload_n 1, 1) := cod_of b221 dL_law_264
theorem t221_264 {d : Nat} {h : Hp} {Q : Pst} {l0 l2 l3 : Value} {x : Nat} {st : List Value} : T d 221 264 [l0, .ref x, l2, l3] st h Q ↔ T d 221 265 [l0, .ref x, l2, l3] (.ref x :: st) h Q := T_aload_n c221_264 rfl
theorem c221_265 : cod 221 265 = some (.aload_n 0, 1) := cod_of b221 dL_law_265
theorem t221_265 {d : Nat} {h : Hp} {Q : Pst} {l1 l2 l3 : Value} {x : Nat} {st : List Value} : T d 221 265 [.ref x, l1, l2, l3] st h Q ↔ T d 221 266 [.ref x, l1, l2, l3] (.ref x :: st) h Q := T_aload_n c221_265 rfl
theorem c221_266 : cod 221 266 = some (.iload_n 3, 1) := cod_of b221 dL_law_266
theorem t221_266 {d : Nat} {h : Hp} {Q : Pst} {l0 l1 l2 : Value} {x : Int32} {st : List Value} : T d 221 266 [l0, l1, l2, .int x] st h Q ↔ T d 221 267 [l0, l1, l2, .int x] (.int x :: st) h Q := T_iload_n c221_266 rfl
theorem c221_267 : cod 221 267 = some (.iconst 1, 1) := cod_of b221 dL_law_267
theorem t221_267 {d : Nat} {h : Hp} {Q : Pst} {ls : List Value} {st : List Value} : T d 221 267 ls st h Q ↔ T d 221 268 ls (.int 1 :: st) h Q := T_iconstV c221_267 (by decide)
theorem c221_268 : cod 221 268 = some (.iadd, 1) := cod_of b221 dL_law_268
theorem t221_268 {d : Nat} {h : Hp} {Q : Pst} {x y : Int32} {ls : List Value} {st : List Value} : T d 221 268 ls (.int y :: .int x :: st) h Q ↔ T d 221 269 ls (.int (x + y) :: st) h Q := T_iadd c221_268
theorem c221_269 : cod 221 269 = some (.iaload, 1) := cod_of b221 dL_law_269
theorem t221_269 {d : Nat} {h : Hp} {Q : Pst} {a : Nat} {i : Int32} {ls : List Value} {st : List Value} : T d 221 269 ls (.int i :: .ref a :: st) h Q ↔ aL (h.2.2 a) i (fun x => T d 221 270 ls (.int x :: st) h Q) := T_iaload c221_269
theorem c221_270 : cod 221 270 = some (.aload_n 0, 1) := cod_of b221 dL_law_270
theorem t221_270 {d : Nat} {h : Hp} {Q : Pst} {l1 l2 l3 : Value} {x : Nat} {st : List Value} : T d 221 270 [.ref x, l1, l2, l3] st h Q ↔ T d 221 271 [.ref x, l1, l2, l3] (.ref x :: st) h Q := T_aload_n c221_270 rfl
theorem c221_271 : cod 221 271 = some (.iload_n 3, 1) := cod_of b221 dL_law_271
theorem t221_271 {d : Nat} {h : Hp} {Q : Pst} {l0 l1 l2 : Value} {x : Int32} {st : List Value} : T d 221 271 [l0, l1, l2, .int x] st h Q ↔ T d 221 272 [l0, l1, l2, .int x] (.int x :: st) h Q := T_iload_n c221_271 rfl
theorem c221_272 : cod 221 272 = some (.iconst 2, 1) := cod_of b221 dL_law_272
theorem t221_272 {d : Nat} {h : Hp} {Q : Pst} {ls : List Value} {st : List Value} : T d 221 272 ls st h Q ↔ T d 221 273 ls (.int 2 :: st) h Q := T_iconstV c221_272 (by decide)
theorem c221_273 : cod 221 273 = some (.iadd, 1) := cod_of b221 dL_law_273
theorem t221_273 {d : Nat} {h : Hp} {Q : Pst} {x y : Int32} {ls : List Value} {st : List Value} : T d 221 273 ls (.int y :: .int x :: st) h Q ↔ T d 221 274 ls (.int (x + y) :: st) h Q := T_iadd c221_273
theorem c221_274 : cod 221 274 = some (.iaload, 1) := cod_of b221 dL_law_274
theorem t221_274 {d : Nat} {h : Hp} {Q : Pst} {a : Nat} {i : Int32} {ls : List Value} {st : List Value} : T d 221 274 ls (.int i :: .ref a :: st) h Q ↔ aL (h.2.2 a) i (fun x => T d 221 275 ls (.int x :: st) h Q) := T_iaload c221_274
theorem c221_275 : cod 221 275 = some (.invokevirtual 23, 3) := cod_of b221 dL_law_275
theorem t221_275 {d : Nat} {h : Hp} {Q : Pst} {a0 a1 : Int32} {a : Nat} {ls : List Value} (ho : isO (h.2.2 a) 6) : T (d + 1) 221 275 ls [.int a1, .int a0, .ref a] h Q ↔ T d 77 0 [.ref a, .int a0, .int a1] [] h (fun x h2 => T (d + 1) 221 278 ls (rl x []) h2 Q) := T_virtualR (as := [.int a0, .int a1]) (r := []) m221 m77 c221_275 k20_23  rfl (by decide) rfl (by simp [wrd, Value.category]) (by simp [stk, Value.category]) rfl (by decide +kernel) ho
theorem c221_278 : cod 221 278 = some (.aload_n 2, 1) := cod_of b221 dL_law_278
theorem t221_278 {d : Nat} {h : Hp} {Q : Pst} {l0 l1 l3 : Value} {x : Nat} {st : List Value} : T d 221 278 [l0, l1, .ref x, l3] st h Q ↔ T d 221 279 [l0, l1, .ref x, l3] (.ref x :: st) h Q := T_aload_n c221_278 rfl
theorem c221_279 : cod 221 279 = some (.aload_n 0, 1) := cod_of b221 dL_law_279
theorem t221_279 {d : Nat} {h : Hp} {Q : Pst} {l1 l2 l3 : Value} {x : Nat} {st : List Value} : T d 221 279 [.ref x, l1, l2, l3] st h Q ↔ T d 221 280 [.ref x, l1, l2, l3] (.ref x :: st) h Q := T_aload_n c221_279 rfl
theorem c221_280 : cod 221 280 = some (.iload_n 3, 1) := cod_of b221 dL_law_280
theorem t221_280 {d : Nat} {h : Hp} {Q : Pst} {l0 l1 l2 : Value} {x : Int32} {st : List Value} : T d 221 280 [l0, l1, l2, .int x] st h Q ↔ T d 221 281 [l0, l1, l2, .int x] (.int x :: st) h Q := T_iload_n c221_280 rfl
theorem c221_281 : cod 221 281 = some (.iconst 1, 1) := cod_of b221 dL_law_281
theorem t221_281 {d : Nat} {h : Hp} {Q : Pst} {ls : List Value} {st : List Value} : T d 221 281 ls st h Q ↔ T d 221 282 ls (.int 1 :: st) h Q := T_iconstV c221_281 (by decide)
theorem c221_282 : cod 221 282 = some (.iadd, 1) := cod_of b221 dL_law_282
theorem t221_282 {d : Nat} {h : Hp} {Q : Pst} {x y : Int32} {ls : List Value} {st : List Value} : T d 221 282 ls (.int y :: .int x :: st) h Q ↔ T d 221 283 ls (.int (x + y) :: st) h Q := T_iadd c221_282
theorem c221_283 : cod 221 283 = some (.iaload, 1) := cod_of b221 dL_law_283
theorem t221_283 {d : Nat} {h : Hp} {Q : Pst} {a : Nat} {i : Int32} {ls : List Value} {st : List Value} : T d 221 283 ls (.int i :: .ref a :: st) h Q ↔ aL (h.2.2 a) i (fun x => T d 221 284 ls (.int x :: st) h Q) := T_iaload c221_283
theorem c221_284 : cod 221 284 = some (.aload_n 0, 1) := cod_of b221 dL_law_284
theorem t221_284 {d : Nat} {h : Hp} {Q : Pst} {l1 l2 l3 : Value} {x : Nat} {st : List Value} : T d 221 284 [.ref x, l1, l2, l3] st h Q ↔ T d 221 285 [.ref x, l1, l2, l3] (.ref x :: st) h Q := T_aload_n c221_284 rfl
theorem c221_285 : cod 221 285 = some (.iload_n 3, 1) := cod_of b221 dL_law_285
theorem t221_285 {d : Nat} {h : Hp} {Q : Pst} {l0 l1 l2 : Value} {x : Int32} {st : List Value} : T d 221 285 [l0, l1, l2, .int x] st h Q ↔ T d 221 286 [l0, l1, l2, .int x] (.int x :: st) h Q := T_iload_n c221_285 rfl
theorem c221_286 : cod 221 286 = some (.iconst 2, 1) := cod_of b221 dL_law_286
theorem t221_286 {d : Nat} {h : Hp} {Q : Pst} {ls : List Value} {st : List Value} : T d 221 286 ls st h Q ↔ T d 221 287 ls (.int 2 :: st) h Q := T_iconstV c221_286 (by decide)
theorem c221_287 : cod 221 287 = some (.iadd, 1) := cod_of b221 dL_law_287
theorem t221_287 {d : Nat} {h : Hp} {Q : Pst} {x y : Int32} {ls : List Value} {st : List Value} : T d 221 287 ls (.int y :: .int x :: st) h Q ↔ T d 221 288 ls (.int (x + y) :: st) h Q := T_iadd c221_287
theorem c221_288 : cod 221 288 = some (.iaload, 1) := cod_of b221 dL_law_288
theorem t221_288 {d : Nat} {h : Hp} {Q : Pst} {a : Nat} {i : Int32} {ls : List Value} {st : List Value} : T d 221 288 ls (.int i :: .ref a :: st) h Q ↔ aL (h.2.2 a) i (fun x => T d 221 289 ls (.int x :: st) h Q) := T_iaload c221_288
theorem c221_289 : cod 221 289 = some (.invokevirtual 26, 3) := cod_of b221 dL_law_289
theorem t221_289 {d : Nat} {h : Hp} {Q : Pst} {a0 a1 s0 : Int32} {a : Nat} {ls : List Value} (ho : isO (h.2.2 a) 7) : T (d + 1) 221 289 ls [.int a1, .int a0, .ref a, .int s0] h Q ↔ T d 136 0 [.ref a, .int a0, .int a1] [] h (fun x h2 => T (d + 1) 221 292 ls (rl x [.int s0]) h2 Q) := T_virtualR (as := [.int a0, .int a1]) (r := [.int s0]) m221 m136 c221_289 k20_26  rfl (by decide) rfl (by simp [wrd, Value.category]) (by simp [stk, Value.category]) rfl (by decide +kernel) ho
theorem c221_292 : cod 221 292 = some (.if_icmp .eq 1078, 3) := cod_of b221 dL_law_292
theorem t221_292 {d : Nat} {h : Hp} {Q : Pst} {x y : Int32} {ls : List Value} {st : List Value} : T d 221 292 ls (.int y :: .int x :: st) h Q ↔ (if x = y then T d 221 1370 ls st h Q else T d 221 295 ls st h Q) := T_icmp_eq c221_292 (by decide)
theorem c221_295 : cod 221 295 = some (.iconst 0, 1) := cod_of b221 dL_law_295
theorem t221_295 {d : Nat} {h : Hp} {Q : Pst} {ls : List Value} {st : List Value} : T d 221 295 ls st h Q ↔ T d 221 296 ls (.int 0 :: st) h Q := T_iconstV c221_295 (by decide)
theorem c221_296 : cod 221 296 = some (.ireturn, 1) := cod_of b221 dL_law_296
theorem t221_296 {d : Nat} {h : Hp} {Q : Pst} {x : Int32} {ls : List Value} : T d 221 296 ls [.int x] h Q ↔ (narrow .boolean (.int x) = .int x ∧ Q (some (.int x)) h) := T_zretR m221 c221_296 rfl
theorem c221_231 : cod 221 231 = some (.aload_n 1, 1) := cod_of b221 dL_law_231
theorem t221_231 {d : Nat} {h : Hp} {Q : Pst} {l0 l2 l3 : Value} {x : Nat} {st : List Value} : T d 221 231 [l0, .ref x, l2, l3] st h Q ↔ T d 221 232 [l0, .ref x, l2, l3] (.ref x :: st) h Q := T_aload_n c221_231 rfl
theorem c221_232 : cod 221 232 = some (.aload_n 0, 1) := cod_of b221 dL_law_232
theorem t221_232 {d : Nat} {h : Hp} {Q : Pst} {l1 l2 l3 : Value} {x : Nat} {st : List Value} : T d 221 232 [.ref x, l1, l2, l3] st h Q ↔ T d 221 233 [.ref x, l1, l2, l3] (.ref x :: st) h Q := T_aload_n c221_232 rfl
theorem c221_233 : cod 221 233 = some (.iload_n 3, 1) := cod_of b221 dL_law_233
theorem t221_233 {d : Nat} {h : Hp} {Q : Pst} {l0 l1 l2 : Value} {x : Int32} {st : List Value} : T d 221 233 [l0, l1, l2, .int x] st h Q ↔ T d 221 234 [l0, l1, l2, .int x] (.int x :: st) h Q := T_iload_n c221_233 rfl
theorem c221_234 : cod 221 234 = some (.iconst 1, 1) := cod_of b221 dL_law_234
theorem t221_234 {d : Nat} {h : Hp} {Q : Pst} {ls : List Value} {st : List Value} : T d 221 234 ls st h Q ↔ T d 221 235 ls (.int 1 :: st) h Q := T_iconstV c221_234 (by decide)
theorem c221_235 : cod 221 235 = some (.iadd, 1) := cod_of b221 dL_law_235
theorem t221_235 {d : Nat} {h : Hp} {Q : Pst} {x y : Int32} {ls : List Value} {st : List Value} : T d 221 235 ls (.int y :: .int x :: st) h Q ↔ T d 221 236 ls (.int (x + y) :: st) h Q := T_iadd c221_235
theorem c221_236 : cod 221 236 = some (.iaload, 1) := cod_of b221 dL_law_236
theorem t221_236 {d : Nat} {h : Hp} {Q : Pst} {a : Nat} {i : Int32} {ls : List Value} {st : List Value} : T d 221 236 ls (.int i :: .ref a :: st) h Q ↔ aL (h.2.2 a) i (fun x => T d 221 237 ls (.int x :: st) h Q) := T_iaload c221_236
theorem c221_237 : cod 221 237 = some (.aload_n 0, 1) := cod_of b221 dL_law_237
theorem t221_237 {d : Nat} {h : Hp} {Q : Pst} {l1 l2 l3 : Value} {x : Nat} {st : List Value} : T d 221 237 [.ref x, l1, l2, l3] st h Q ↔ T d 221 238 [.ref x, l1, l2, l3] (.ref x :: st) h Q := T_aload_n c221_237 rfl
theorem c221_238 : cod 221 238 = some (.iload_n 3, 1) := cod_of b221 dL_law_238
theorem t221_238 {d : Nat} {h : Hp} {Q : Pst} {l0 l1 l2 : Value} {x : Int32} {st : List Value} : T d 221 238 [l0, l1, l2, .int x] st h Q ↔ T d 221 239 [l0, l1, l2, .int x] (.int x :: st) h Q := T_iload_n c221_238 rfl
theorem c221_239 : cod 221 239 = some (.iconst 2, 1) := cod_of b221 dL_law_239
theorem t221_239 {d : Nat} {h : Hp} {Q : Pst} {ls : List Value} {st : List Value} : T d 221 239 ls st h Q ↔ T d 221 240 ls (.int 2 :: st) h Q := T_iconstV c221_239 (by decide)
theorem c221_240 : cod 221 240 = some (.iadd, 1) := cod_of b221 dL_law_240
theorem t221_240 {d : Nat} {h : Hp} {Q : Pst} {x y : Int32} {ls : List Value} {st : List Value} : T d 221 240 ls (.int y :: .int x :: st) h Q ↔ T d 221 241 ls (.int (x + y) :: st) h Q := T_iadd c221_240
theorem c221_241 : cod 221 241 = some (.iaload, 1) := cod_of b221 dL_law_241
theorem t221_241 {d : Nat} {h : Hp} {Q : Pst} {a : Nat} {i : Int32} {ls : List Value} {st : List Value} : T d 221 241 ls (.int i :: .ref a :: st) h Q ↔ aL (h.2.2 a) i (fun x => T d 221 242 ls (.int x :: st) h Q) := T_iaload c221_241
theorem c221_242 : cod 221 242 = some (.invokevirtual 18, 3) := cod_of b221 dL_law_242
theorem t221_242 {d : Nat} {h : Hp} {Q : Pst} {a0 a1 : Int32} {a : Nat} {ls : List Value} (ho : isO (h.2.2 a) 6) : T (d + 1) 221 242 ls [.int a1, .int a0, .ref a] h Q ↔ T d 76 0 [.ref a, .int a0, .int a1] [] h (fun x h2 => T (d + 1) 221 245 ls (rl x []) h2 Q) := T_virtualR (as := [.int a0, .int a1]) (r := []) m221 m76 c221_242 k20_18  rfl (by decide) rfl (by simp [wrd, Value.category]) (by simp [stk, Value.category]) rfl (by decide +kernel) ho
theorem c221_245 : cod 221 245 = some (.aload_n 2, 1) := cod_of b221 dL_law_245
theorem t221_245 {d : Nat} {h : Hp} {Q : Pst} {l0 l1 l3 : Value} {x : Nat} {st : List Value} : T d 221 245 [l0, l1, .ref x, l3] st h Q ↔ T d 221 246 [l0, l1, .ref x, l3] (.ref x :: st) h Q := T_aload_n c221_245 rfl
theorem c221_246 : cod 221 246 = some (.aload_n 0, 1) := cod_of b221 dL_law_246
theorem t221_246 {d : Nat} {h : Hp} {Q : Pst} {l1 l2 l3 : Value} {x : Nat} {st : List Value} : T d 221 246 [.ref x, l1, l2, l3] st h Q ↔ T d 221 247 [.ref x, l1, l2, l3] (.ref x :: st) h Q := T_aload_n c221_246 rfl
theorem c221_247 : cod 221 247 = some (.iload_n 3, 1) := cod_of b221 dL_law_247
theorem t221_247 {d : Nat} {h : Hp} {Q : Pst} {l0 l1 l2 : Value} {x : Int32} {st : List Value} : T d 221 247 [l0, l1, l2, .int x] st h Q ↔ T d 221 248 [l0, l1, l2, .int x] (.int x :: st) h Q := T_iload_n c221_247 rfl
theorem c221_248 : cod 221 248 = some (.iconst 1, 1) := cod_of b221 dL_law_248
theorem t221_248 {d : Nat} {h : Hp} {Q : Pst} {ls : List Value} {st : List Value} : T d 221 248 ls st h Q ↔ T d 221 249 ls (.int 1 :: st) h Q := T_iconstV c221_248 (by decide)
theorem c221_249 : cod 221 249 = some (.iadd, 1) := cod_of b221 dL_law_249
theorem t221_249 {d : Nat} {h : Hp} {Q : Pst} {x y : Int32} {ls : List Value} {st : List Value} : T d 221 249 ls (.int y :: .int x :: st) h Q ↔ T d 221 250 ls (.int (x + y) :: st) h Q := T_iadd c221_249
theorem c221_250 : cod 221 250 = some (.iaload, 1) := cod_of b221 dL_law_250
theorem t221_250 {d : Nat} {h : Hp} {Q : Pst} {a : Nat} {i : Int32} {ls : List Value} {st : List Value} : T d 221 250 ls (.int i :: .ref a :: st) h Q ↔ aL (h.2.2 a) i (fun x => T d 221 251 ls (.int x :: st) h Q) := T_iaload c221_250
theorem c221_251 : cod 221 251 = some (.aload_n 0, 1) := cod_of b221 dL_law_251
theorem t221_251 {d : Nat} {h : Hp} {Q : Pst} {l1 l2 l3 : Value} {x : Nat} {st : List Value} : T d 221 251 [.ref x, l1, l2, l3] st h Q ↔ T d 221 252 [.ref x, l1, l2, l3] (.ref x :: st) h Q := T_aload_n c221_251 rfl
theorem c221_252 : cod 221 252 = some (.iload_n 3, 1) := cod_of b221 dL_law_252
theorem t221_252 {d : Nat} {h : Hp} {Q : Pst} {l0 l1 l2 : Value} {x : Int32} {st : List Value} : T d 221 252 [l0, l1, l2, .int x] st h Q ↔ T d 221 253 [l0, l1, l2, .int x] (.int x :: st) h Q := T_iload_n c221_252 rfl
theorem c221_253 : cod 221 253 = some (.iconst 2, 1) := cod_of b221 dL_law_253
theorem t221_253 {d : Nat} {h : Hp} {Q : Pst} {ls : List Value} {st : List Value} : T d 221 253 ls st h Q ↔ T d 221 254 ls (.int 2 :: st) h Q := T_iconstV c221_253 (by decide)
theorem c221_254 : cod 221 254 = some (.iadd, 1) := cod_of b221 dL_law_254
theorem t221_254 {d : Nat} {h : Hp} {Q : Pst} {x y : Int32} {ls : List Value} {st : List Value} : T d 221 254 ls (.int y :: .int x :: st) h Q ↔ T d 221 255 ls (.int (x + y) :: st) h Q := T_iadd c221_254
theorem c221_255 : cod 221 255 = some (.iaload, 1) := cod_of b221 dL_law_255
theorem t221_255 {d : Nat} {h : Hp} {Q : Pst} {a : Nat} {i : Int32} {ls : List Value} {st : List Value} : T d 221 255 ls (.int i :: .ref a :: st) h Q ↔ aL (h.2.2 a) i (fun x => T d 221 256 ls (.int x :: st) h Q) := T_iaload c221_255
theorem c221_256 : cod 221 256 = some (.invokevirtual 22, 3) := cod_of b221 dL_law_256
theorem t221_256 {d : Nat} {h : Hp} {Q : Pst} {a0 a1 s0 : Int32} {a : Nat} {ls : List Value} (ho : isO (h.2.2 a) 7) : T (d + 1) 221 256 ls [.int a1, .int a0, .ref a, .int s0] h Q ↔ T d 134 0 [.ref a, .int a0, .int a1] [] h (fun x h2 => T (d + 1) 221 259 ls (rl x [.int s0]) h2 Q) := T_virtualR (as := [.int a0, .int a1]) (r := [.int s0]) m221 m134 c221_256 k20_22  rfl (by decide) rfl (by simp [wrd, Value.category]) (by simp [stk, Value.category]) rfl (by decide +kernel) ho
theorem c221_259 : cod 221 259 = some (.if_icmp .eq 1111, 3) := cod_of b221 dL_law_259
theorem t221_259 {d : Nat} {h : Hp} {Q : Pst} {x y : Int32} {ls : List Value} {st : List Value} : T d 221 259 ls (.int y :: .int x :: st) h Q ↔ (if x = y then T d 221 1370 ls st h Q else T d 221 262 ls st h Q) := T_icmp_eq c221_259 (by decide)
theorem c221_262 : cod 221 262 = some (.iconst 0, 1) := cod_of b221 dL_law_262
theorem t221_262 {d : Nat} {h : Hp} {Q : Pst} {ls : List Value} {st : List Value} : T d 221 262 ls st h Q ↔ T d 221 263 ls (.int 0 :: st) h Q := T_iconstV c221_262 (by decide)
theorem c221_263 : cod 221 263 = some (.ireturn, 1) := cod_of b221 dL_law_263
theorem t221_263 {d : Nat} {h : Hp} {Q : Pst} {x : Int32} {ls : List Value} : T d 221 263 ls [.int x] h Q ↔ (narrow .boolean (.int x) = .int x ∧ Q (some (.int x)) h) := T_zretR m221 c221_263 rfl
theorem c221_208 : cod 221 208 = some (.aload_n 1, 1) := cod_of b221 dL_law_208
theorem t221_208 {d : Nat} {h : Hp} {Q : Pst} {l0 l2 l3 : Value} {x : Nat} {st : List Value} : T d 221 208 [l0, .ref x, l2, l3] st h Q ↔ T d 221 209 [l0, .ref x, l2, l3] (.ref x :: st) h Q := T_aload_n c221_208 rfl
theorem c221_209 : cod 221 209 = some (.aload_n 0, 1) := cod_of b221 dL_law_209
theorem t221_209 {d : Nat} {h : Hp} {Q : Pst} {l1 l2 l3 : Value} {x : Nat} {st : List Value} : T d 221 209 [.ref x, l1, l2, l3] st h Q ↔ T d 221 210 [.ref x, l1, l2, l3] (.ref x :: st) h Q := T_aload_n c221_209 rfl
theorem c221_210 : cod 221 210 = some (.iload_n 3, 1) := cod_of b221 dL_law_210
theorem t221_210 {d : Nat} {h : Hp} {Q : Pst} {l0 l1 l2 : Value} {x : Int32} {st : List Value} : T d 221 210 [l0, l1, l2, .int x] st h Q ↔ T d 221 211 [l0, l1, l2, .int x] (.int x :: st) h Q := T_iload_n c221_210 rfl
theorem c221_211 : cod 221 211 = some (.iconst 1, 1) := cod_of b221 dL_law_211
theorem t221_211 {d : Nat} {h : Hp} {Q : Pst} {ls : List Value} {st : List Value} : T d 221 211 ls st h Q ↔ T d 221 212 ls (.int 1 :: st) h Q := T_iconstV c221_211 (by decide)
theorem c221_212 : cod 221 212 = some (.iadd, 1) := cod_of b221 dL_law_212
theorem t221_212 {d : Nat} {h : Hp} {Q : Pst} {x y : Int32} {ls : List Value} {st : List Value} : T d 221 212 ls (.int y :: .int x :: st) h Q ↔ T d 221 213 ls (.int (x + y) :: st) h Q := T_iadd c221_212
theorem c221_213 : cod 221 213 = some (.iaload, 1) := cod_of b221 dL_law_213
theorem t221_213 {d : Nat} {h : Hp} {Q : Pst} {a : Nat} {i : Int32} {ls : List Value} {st : List Value} : T d 221 213 ls (.int i :: .ref a :: st) h Q ↔ aL (h.2.2 a) i (fun x => T d 221 214 ls (.int x :: st) h Q) := T_iaload c221_213
theorem c221_214 : cod 221 214 = some (.invokevirtual 13, 3) := cod_of b221 dL_law_214
theorem t221_214 {d : Nat} {h : Hp} {Q : Pst} {a0 : Int32} {a : Nat} {ls : List Value} (ho : isO (h.2.2 a) 6) : T (d + 1) 221 214 ls [.int a0, .ref a] h Q ↔ T d 75 0 [.ref a, .int a0, un] [] h (fun x h2 => T (d + 1) 221 217 ls (rl x []) h2 Q) := T_virtualR (as := [.int a0]) (r := []) m221 m75 c221_214 k20_13  rfl (by decide) rfl (by simp [wrd, Value.category]) (by simp [stk, Value.category]) rfl (by decide +kernel) ho
theorem c221_217 : cod 221 217 = some (.aload_n 2, 1) := cod_of b221 dL_law_217
theorem t221_217 {d : Nat} {h : Hp} {Q : Pst} {l0 l1 l3 : Value} {x : Nat} {st : List Value} : T d 221 217 [l0, l1, .ref x, l3] st h Q ↔ T d 221 218 [l0, l1, .ref x, l3] (.ref x :: st) h Q := T_aload_n c221_217 rfl
theorem c221_218 : cod 221 218 = some (.aload_n 0, 1) := cod_of b221 dL_law_218
theorem t221_218 {d : Nat} {h : Hp} {Q : Pst} {l1 l2 l3 : Value} {x : Nat} {st : List Value} : T d 221 218 [.ref x, l1, l2, l3] st h Q ↔ T d 221 219 [.ref x, l1, l2, l3] (.ref x :: st) h Q := T_aload_n c221_218 rfl
theorem c221_219 : cod 221 219 = some (.iload_n 3, 1) := cod_of b221 dL_law_219
theorem t221_219 {d : Nat} {h : Hp} {Q : Pst} {l0 l1 l2 : Value} {x : Int32} {st : List Value} : T d 221 219 [l0, l1, l2, .int x] st h Q ↔ T d 221 220 [l0, l1, l2, .int x] (.int x :: st) h Q := T_iload_n c221_219 rfl
theorem c221_220 : cod 221 220 = some (.iconst 1, 1) := cod_of b221 dL_law_220
theorem t221_220 {d : Nat} {h : Hp} {Q : Pst} {ls : List Value} {st : List Value} : T d 221 220 ls st h Q ↔ T d 221 221 ls (.int 1 :: st) h Q := T_iconstV c221_220 (by decide)
theorem c221_221 : cod 221 221 = some (.iadd, 1) := cod_of b221 dL_law_221
theorem t221_221 {d : Nat} {h : Hp} {Q : Pst} {x y : Int32} {ls : List Value} {st : List Value} : T d 221 221 ls (.int y :: .int x :: st) h Q ↔ T d 221 222 ls (.int (x + y) :: st) h Q := T_iadd c221_221
theorem c221_222 : cod 221 222 = some (.iaload, 1) := cod_of b221 dL_law_222
theorem t221_222 {d : Nat} {h : Hp} {Q : Pst} {a : Nat} {i : Int32} {ls : List Value} {st : List Value} : T d 221 222 ls (.int i :: .ref a :: st) h Q ↔ aL (h.2.2 a) i (fun x => T d 221 223 ls (.int x :: st) h Q) := T_iaload c221_222
theorem c221_223 : cod 221 223 = some (.invokevirtual 17, 3) := cod_of b221 dL_law_223
theorem t221_223 {d : Nat} {h : Hp} {Q : Pst} {a0 s0 : Int32} {a : Nat} {ls : List Value} (ho : isO (h.2.2 a) 7) : T (d + 1) 221 223 ls [.int a0, .ref a, .int s0] h Q ↔ T d 132 0 [.ref a, .int a0, un] [] h (fun x h2 => T (d + 1) 221 226 ls (rl x [.int s0]) h2 Q) := T_virtualR (as := [.int a0]) (r := [.int s0]) m221 m132 c221_223 k20_17  rfl (by decide) rfl (by simp [wrd, Value.category]) (by simp [stk, Value.category]) rfl (by decide +kernel) ho
theorem c221_226 : cod 221 226 = some (.if_icmp .eq 1144, 3) := cod_of b221 dL_law_226
theorem t221_226 {d : Nat} {h : Hp} {Q : Pst} {x y : Int32} {ls : List Value} {st : List Value} : T d 221 226 ls (.int y :: .int x :: st) h Q ↔ (if x = y then T d 221 1370 ls st h Q else T d 221 229 ls st h Q) := T_icmp_eq c221_226 (by decide)
theorem c221_229 : cod 221 229 = some (.iconst 0, 1) := cod_of b221 dL_law_229
theorem t221_229 {d : Nat} {h : Hp} {Q : Pst} {ls : List Value} {st : List Value} : T d 221 229 ls st h Q ↔ T d 221 230 ls (.int 0 :: st) h Q := T_iconstV c221_229 (by decide)
theorem c221_230 : cod 221 230 = some (.ireturn, 1) := cod_of b221 dL_law_230
theorem t221_230 {d : Nat} {h : Hp} {Q : Pst} {x : Int32} {ls : List Value} : T d 221 230 ls [.int x] h Q ↔ (narrow .boolean (.int x) = .int x ∧ Q (some (.int x)) h) := T_zretR m221 c221_230 rfl
theorem c221_1376 : cod 221 1376 = some (.iconst 1, 1) := cod_of b221 dL_law_1376
theorem t221_1376 {d : Nat} {h : Hp} {Q : Pst} {ls : List Value} {st : List Value} : T d 221 1376 ls st h Q ↔ T d 221 1377 ls (.int 1 :: st) h Q := T_iconstV c221_1376 (by decide)
theorem c221_1377 : cod 221 1377 = some (.ireturn, 1) := cod_of b221 dL_law_1377
theorem t221_1377 {d : Nat} {h : Hp} {Q : Pst} {x : Int32} {ls : List Value} : T d 221 1377 ls [.int x] h Q ↔ (narrow .boolean (.int x) = .int x ∧ Q (some (.int x)) h) := T_zretR m221 c221_1377 rfl
