theorem b103 : (mR 103).2.2.1 = cX7_look := by rw [m103]
theorem c103_0 : cod 103 0 = some (.aload_n 0, 1) := cod_of b103 dX7_look_0
theorem t103_0 {d : Nat} {h : Hp} {Q : Pst} {l1 : Value} {x : Nat} {st : List Value} : T d 103 0 [.ref x, l1] st h Q ↔ T d 103 1 [.ref x, l1] (.ref x :: st) h Q := T_aload_n c103_0 rfl
theorem c103_1 : cod 103 1 = some (.getfield 10, 3) := cod_of b103 dX7_look_1
theorem t103_1 {d : Nat} {h : Hp} {Q : Pst} {a : Nat} {ls : List Value} {st : List Value} : T d 103 1 ls (.ref a :: st) h Q ↔ gF (h.2.2 a) 6 0 (fun v => T d 103 4 ls (v :: st) h Q) := T_getfieldR m103 c103_1 f7_10
theorem c103_4 : cod 103 4 = some (.iload_n 1, 1) := cod_of b103 dX7_look_4
theorem t103_4 {d : Nat} {h : Hp} {Q : Pst} {l0 : Value} {x : Int32} {st : List Value} : T d 103 4 [l0, .int x] st h Q ↔ T d 103 5 [l0, .int x] (.int x :: st) h Q := T_iload_n c103_4 rfl
theorem c103_5 : cod 103 5 = some (.invokevirtual 116, 3) := cod_of b103 dX7_look_5
theorem t103_5 {d : Nat} {h : Hp} {Q : Pst} {a0 : Int32} {a : Nat} {ls : List Value} (ho : isO (h.2.2 a) 5) : T (d + 1) 103 5 ls [.int a0, .ref a] h Q ↔ T d 55 0 [.ref a, .int a0] [] h (fun x h2 => T (d + 1) 103 8 ls (rl x []) h2 Q) := T_virtualR (as := [.int a0]) (r := []) m103 m55 c103_5 k7_116  rfl (by decide) rfl (by simp [wrd, Value.category]) (by simp [stk, Value.category]) rfl (by decide +kernel) ho
theorem c103_8 : cod 103 8 = some (.ifCond .ne 10, 3) := cod_of b103 dX7_look_8
theorem t103_8 {d : Nat} {h : Hp} {Q : Pst} {x : Int32} {ls : List Value} {st : List Value} : T d 103 8 ls (.int x :: st) h Q ↔ (if ¬ x = 0 then T d 103 18 ls st h Q else T d 103 11 ls st h Q) := T_if_ne c103_8 (by decide)
theorem c103_11 : cod 103 11 = some (.aload_n 0, 1) := cod_of b103 dX7_look_11
theorem t103_11 {d : Nat} {h : Hp} {Q : Pst} {l1 : Value} {x : Nat} {st : List Value} : T d 103 11 [.ref x, l1] st h Q ↔ T d 103 12 [.ref x, l1] (.ref x :: st) h Q := T_aload_n c103_11 rfl
theorem c103_12 : cod 103 12 = some (.bipush (-2), 2) := cod_of b103 dX7_look_12
theorem t103_12 {d : Nat} {h : Hp} {Q : Pst} {ls : List Value} {st : List Value} : T d 103 12 ls st h Q ↔ T d 103 14 ls (.int (-2) :: st) h Q := T_bipushV c103_12 (by decide)
theorem c103_14 : cod 103 14 = some (.invokevirtual 66, 3) := cod_of b103 dX7_look_14
theorem t103_14 {d : Nat} {h : Hp} {Q : Pst} {a0 : Int32} {a : Nat} {ls : List Value} (ho : isO (h.2.2 a) 6) : T (d + 1) 103 14 ls [.int a0, .ref a] h Q ↔ T d 116 0 [.ref a, .int a0, un] [] h (fun x h2 => T (d + 1) 103 17 ls (rl x []) h2 Q) := T_virtualR (as := [.int a0]) (r := []) m103 m116 c103_14 k7_66  rfl (by decide) rfl (by simp [wrd, Value.category]) (by simp [stk, Value.category]) rfl (by decide +kernel) ho
theorem c103_17 : cod 103 17 = some (.ireturn, 1) := cod_of b103 dX7_look_17
theorem t103_17 {d : Nat} {h : Hp} {Q : Pst} {x : Int32} {ls : List Value} : T d 103 17 ls [.int x] h Q ↔ Q (some (.int x)) h := T_iretR m103 c103_17 rfl
theorem c103_18 : cod 103 18 = some (.aload_n 0, 1) := cod_of b103 dX7_look_18
theorem t103_18 {d : Nat} {h : Hp} {Q : Pst} {l1 : Value} {x : Nat} {st : List Value} : T d 103 18 [.ref x, l1] st h Q ↔ T d 103 19 [.ref x, l1] (.ref x :: st) h Q := T_aload_n c103_18 rfl
theorem c103_19 : cod 103 19 = some (.getfield 33, 3) := cod_of b103 dX7_look_19
theorem t103_19 {d : Nat} {h : Hp} {Q : Pst} {a : Nat} {ls : List Value} {st : List Value} : T d 103 19 ls (.ref a :: st) h Q ↔ gF (h.2.2 a) 6 4 (fun v => T d 103 22 ls (v :: st) h Q) := T_getfieldR m103 c103_19 f7_33
theorem c103_22 : cod 103 22 = some (.aload_n 0, 1) := cod_of b103 dX7_look_22
theorem t103_22 {d : Nat} {h : Hp} {Q : Pst} {l1 : Value} {x : Nat} {st : List Value} : T d 103 22 [.ref x, l1] st h Q ↔ T d 103 23 [.ref x, l1] (.ref x :: st) h Q := T_aload_n c103_22 rfl
theorem c103_23 : cod 103 23 = some (.getfield 10, 3) := cod_of b103 dX7_look_23
theorem t103_23 {d : Nat} {h : Hp} {Q : Pst} {a : Nat} {ls : List Value} {st : List Value} : T d 103 23 ls (.ref a :: st) h Q ↔ gF (h.2.2 a) 6 0 (fun v => T d 103 26 ls (v :: st) h Q) := T_getfieldR m103 c103_23 f7_10
theorem c103_26 : cod 103 26 = some (.iload_n 1, 1) := cod_of b103 dX7_look_26
theorem t103_26 {d : Nat} {h : Hp} {Q : Pst} {l0 : Value} {x : Int32} {st : List Value} : T d 103 26 [l0, .int x] st h Q ↔ T d 103 27 [l0, .int x] (.int x :: st) h Q := T_iload_n c103_26 rfl
theorem c103_27 : cod 103 27 = some (.invokevirtual 261, 3) := cod_of b103 dX7_look_27
theorem t103_27 {d : Nat} {h : Hp} {Q : Pst} {a0 a : Nat} {a1 : Int32} {ls : List Value} (ho : isO (h.2.2 a) 1) : T (d + 1) 103 27 ls [.int a1, .ref a0, .ref a] h Q ↔ T d 12 0 [.ref a, .ref a0, .int a1, un, un, un, un, un] [] h (fun x h2 => T (d + 1) 103 30 ls (rl x []) h2 Q) := T_virtualR (as := [.ref a0, .int a1]) (r := []) m103 m12 c103_27 k7_261  rfl (by decide) rfl (by simp [wrd, Value.category]) (by simp [stk, Value.category]) rfl (by decide +kernel) ho
theorem c103_30 : cod 103 30 = some (.ireturn, 1) := cod_of b103 dX7_look_30
theorem t103_30 {d : Nat} {h : Hp} {Q : Pst} {x : Int32} {ls : List Value} : T d 103 30 ls [.int x] h Q ↔ Q (some (.int x)) h := T_iretR m103 c103_30 rfl
theorem b104 : (mR 104).2.2.1 = cX7_kinds := by rw [m104]
theorem c104_0 : cod 104 0 = some (.aload_n 0, 1) := cod_of b104 dX7_kinds_0
theorem t104_0 {d : Nat} {h : Hp} {Q : Pst} {l1 : Value} {x : Nat} {st : List Value} : T d 104 0 [.ref x, l1] st h Q ↔ T d 104 1 [.ref x, l1] (.ref x :: st) h Q := T_aload_n c104_0 rfl
theorem c104_1 : cod 104 1 = some (.getfield 10, 3) := cod_of b104 dX7_kinds_1
theorem t104_1 {d : Nat} {h : Hp} {Q : Pst} {a : Nat} {ls : List Value} {st : List Value} : T d 104 1 ls (.ref a :: st) h Q ↔ gF (h.2.2 a) 6 0 (fun v => T d 104 4 ls (v :: st) h Q) := T_getfieldR m104 c104_1 f7_10
theorem c104_4 : cod 104 4 = some (.iload_n 1, 1) := cod_of b104 dX7_kinds_4
theorem t104_4 {d : Nat} {h : Hp} {Q : Pst} {l0 : Value} {x : Int32} {st : List Value} : T d 104 4 [l0, .int x] st h Q ↔ T d 104 5 [l0, .int x] (.int x :: st) h Q := T_iload_n c104_4 rfl
theorem c104_5 : cod 104 5 = some (.invokevirtual 120, 3) := cod_of b104 dX7_kinds_5
theorem t104_5 {d : Nat} {h : Hp} {Q : Pst} {a0 : Int32} {a : Nat} {ls : List Value} (ho : isO (h.2.2 a) 5) : T (d + 1) 104 5 ls [.int a0, .ref a] h Q ↔ T d 56 0 [.ref a, .int a0] [] h (fun x h2 => T (d + 1) 104 8 ls (rl x []) h2 Q) := T_virtualR (as := [.int a0]) (r := []) m104 m56 c104_5 k7_120  rfl (by decide) rfl (by simp [wrd, Value.category]) (by simp [stk, Value.category]) rfl (by decide +kernel) ho
theorem c104_8 : cod 104 8 = some (.ifCond .ne 10, 3) := cod_of b104 dX7_kinds_8
theorem t104_8 {d : Nat} {h : Hp} {Q : Pst} {x : Int32} {ls : List Value} {st : List Value} : T d 104 8 ls (.int x :: st) h Q ↔ (if ¬ x = 0 then T d 104 18 ls st h Q else T d 104 11 ls st h Q) := T_if_ne c104_8 (by decide)
theorem c104_11 : cod 104 11 = some (.aload_n 0, 1) := cod_of b104 dX7_kinds_11
theorem t104_11 {d : Nat} {h : Hp} {Q : Pst} {l1 : Value} {x : Nat} {st : List Value} : T d 104 11 [.ref x, l1] st h Q ↔ T d 104 12 [.ref x, l1] (.ref x :: st) h Q := T_aload_n c104_11 rfl
theorem c104_12 : cod 104 12 = some (.bipush (-2), 2) := cod_of b104 dX7_kinds_12
theorem t104_12 {d : Nat} {h : Hp} {Q : Pst} {ls : List Value} {st : List Value} : T d 104 12 ls st h Q ↔ T d 104 14 ls (.int (-2) :: st) h Q := T_bipushV c104_12 (by decide)
theorem c104_14 : cod 104 14 = some (.invokevirtual 66, 3) := cod_of b104 dX7_kinds_14
theorem t104_14 {d : Nat} {h : Hp} {Q : Pst} {a0 : Int32} {a : Nat} {ls : List Value} (ho : isO (h.2.2 a) 6) : T (d + 1) 104 14 ls [.int a0, .ref a] h Q ↔ T d 116 0 [.ref a, .int a0, un] [] h (fun x h2 => T (d + 1) 104 17 ls (rl x []) h2 Q) := T_virtualR (as := [.int a0]) (r := []) m104 m116 c104_14 k7_66  rfl (by decide) rfl (by simp [wrd, Value.category]) (by simp [stk, Value.category]) rfl (by decide +kernel) ho
theorem c104_17 : cod 104 17 = some (.ireturn, 1) := cod_of b104 dX7_kinds_17
theorem t104_17 {d : Nat} {h : Hp} {Q : Pst} {x : Int32} {ls : List Value} : T d 104 17 ls [.int x] h Q ↔ Q (some (.int x)) h := T_iretR m104 c104_17 rfl
theorem c104_18 : cod 104 18 = some (.aload_n 0, 1) := cod_of b104 dX7_kinds_18
theorem t104_18 {d : Nat} {h : Hp} {Q : Pst} {l1 : Value} {x : Nat} {st : List Value} : T d 104 18 [.ref x, l1] st h Q ↔ T d 104 19 [.ref x, l1] (.ref x :: st) h Q := T_aload_n c104_18 rfl
theorem c104_19 : cod 104 19 = some (.getfield 33, 3) := cod_of b104 dX7_kinds_19
theorem t104_19 {d : Nat} {h : Hp} {Q : Pst} {a : Nat} {ls : List Value} {st : List Value} : T d 104 19 ls (.ref a :: st) h Q ↔ gF (h.2.2 a) 6 4 (fun v => T d 104 22 ls (v :: st) h Q) := T_getfieldR m104 c104_19 f7_33
theorem c104_22 : cod 104 22 = some (.aload_n 0, 1) := cod_of b104 dX7_kinds_22
theorem t104_22 {d : Nat} {h : Hp} {Q : Pst} {l1 : Value} {x : Nat} {st : List Value} : T d 104 22 [.ref x, l1] st h Q ↔ T d 104 23 [.ref x, l1] (.ref x :: st) h Q := T_aload_n c104_22 rfl
theorem c104_23 : cod 104 23 = some (.getfield 10, 3) := cod_of b104 dX7_kinds_23
theorem t104_23 {d : Nat} {h : Hp} {Q : Pst} {a : Nat} {ls : List Value} {st : List Value} : T d 104 23 ls (.ref a :: st) h Q ↔ gF (h.2.2 a) 6 0 (fun v => T d 104 26 ls (v :: st) h Q) := T_getfieldR m104 c104_23 f7_10
theorem c104_26 : cod 104 26 = some (.iload_n 1, 1) := cod_of b104 dX7_kinds_26
theorem t104_26 {d : Nat} {h : Hp} {Q : Pst} {l0 : Value} {x : Int32} {st : List Value} : T d 104 26 [l0, .int x] st h Q ↔ T d 104 27 [l0, .int x] (.int x :: st) h Q := T_iload_n c104_26 rfl
theorem c104_27 : cod 104 27 = some (.invokevirtual 264, 3) := cod_of b104 dX7_kinds_27
theorem t104_27 {d : Nat} {h : Hp} {Q : Pst} {a0 a : Nat} {a1 : Int32} {ls : List Value} (ho : isO (h.2.2 a) 1) : T (d + 1) 104 27 ls [.int a1, .ref a0, .ref a] h Q ↔ T d 14 0 [.ref a, .ref a0, .int a1, un, un] [] h (fun x h2 => T (d + 1) 104 30 ls (rl x []) h2 Q) := T_virtualR (as := [.ref a0, .int a1]) (r := []) m104 m14 c104_27 k7_264  rfl (by decide) rfl (by simp [wrd, Value.category]) (by simp [stk, Value.category]) rfl (by decide +kernel) ho
theorem c104_30 : cod 104 30 = some (.ireturn, 1) := cod_of b104 dX7_kinds_30
theorem t104_30 {d : Nat} {h : Hp} {Q : Pst} {x : Int32} {ls : List Value} : T d 104 30 ls [.int x] h Q ↔ Q (some (.int x)) h := T_iretR m104 c104_30 rfl
theorem b105 : (mR 105).2.2.1 = cX7_ask := by rw [m105]
theorem c105_0 : cod 105 0 = some (.aload_n 0, 1) := cod_of b105 dX7_ask_0
theorem t105_0 {d : Nat} {h : Hp} {Q : Pst} {l1 : Value} {x : Nat} {st : List Value} : T d 105 0 [.ref x, l1] st h Q ↔ T d 105 1 [.ref x, l1] (.ref x :: st) h Q := T_aload_n c105_0 rfl
theorem c105_1 : cod 105 1 = some (.getfield 10, 3) := cod_of b105 dX7_ask_1
theorem t105_1 {d : Nat} {h : Hp} {Q : Pst} {a : Nat} {ls : List Value} {st : List Value} : T d 105 1 ls (.ref a :: st) h Q ↔ gF (h.2.2 a) 6 0 (fun v => T d 105 4 ls (v :: st) h Q) := T_getfieldR m105 c105_1 f7_10
theorem c105_4 : cod 105 4 = some (.iload_n 1, 1) := cod_of b105 dX7_ask_4
theorem t105_4 {d : Nat} {h : Hp} {Q : Pst} {l0 : Value} {x : Int32} {st : List Value} : T d 105 4 [l0, .int x] st h Q ↔ T d 105 5 [l0, .int x] (.int x :: st) h Q := T_iload_n c105_4 rfl
theorem c105_5 : cod 105 5 = some (.invokevirtual 120, 3) := cod_of b105 dX7_ask_5
theorem t105_5 {d : Nat} {h : Hp} {Q : Pst} {a0 : Int32} {a : Nat} {ls : List Value} (ho : isO (h.2.2 a) 5) : T (d + 1) 105 5 ls [.int a0, .ref a] h Q ↔ T d 56 0 [.ref a, .int a0] [] h (fun x h2 => T (d + 1) 105 8 ls (rl x []) h2 Q) := T_virtualR (as := [.int a0]) (r := []) m105 m56 c105_5 k7_120  rfl (by decide) rfl (by simp [wrd, Value.category]) (by simp [stk, Value.category]) rfl (by decide +kernel) ho
theorem c105_8 : cod 105 8 = some (.ifCond .ne 10, 3) := cod_of b105 dX7_ask_8
theorem t105_8 {d : Nat} {h : Hp} {Q : Pst} {x : Int32} {ls : List Value} {st : List Value} : T d 105 8 ls (.int x :: st) h Q ↔ (if ¬ x = 0 then T d 105 18 ls st h Q else T d 105 11 ls st h Q) := T_if_ne c105_8 (by decide)
theorem c105_11 : cod 105 11 = some (.aload_n 0, 1) := cod_of b105 dX7_ask_11
theorem t105_11 {d : Nat} {h : Hp} {Q : Pst} {l1 : Value} {x : Nat} {st : List Value} : T d 105 11 [.ref x, l1] st h Q ↔ T d 105 12 [.ref x, l1] (.ref x :: st) h Q := T_aload_n c105_11 rfl
theorem c105_12 : cod 105 12 = some (.bipush (-2), 2) := cod_of b105 dX7_ask_12
theorem t105_12 {d : Nat} {h : Hp} {Q : Pst} {ls : List Value} {st : List Value} : T d 105 12 ls st h Q ↔ T d 105 14 ls (.int (-2) :: st) h Q := T_bipushV c105_12 (by decide)
theorem c105_14 : cod 105 14 = some (.invokevirtual 66, 3) := cod_of b105 dX7_ask_14
theorem t105_14 {d : Nat} {h : Hp} {Q : Pst} {a0 : Int32} {a : Nat} {ls : List Value} (ho : isO (h.2.2 a) 6) : T (d + 1) 105 14 ls [.int a0, .ref a] h Q ↔ T d 116 0 [.ref a, .int a0, un] [] h (fun x h2 => T (d + 1) 105 17 ls (rl x []) h2 Q) := T_virtualR (as := [.int a0]) (r := []) m105 m116 c105_14 k7_66  rfl (by decide) rfl (by simp [wrd, Value.category]) (by simp [stk, Value.category]) rfl (by decide +kernel) ho
theorem c105_17 : cod 105 17 = some (.ireturn, 1) := cod_of b105 dX7_ask_17
theorem t105_17 {d : Nat} {h : Hp} {Q : Pst} {x : Int32} {ls : List Value} : T d 105 17 ls [.int x] h Q ↔ Q (some (.int x)) h := T_iretR m105 c105_17 rfl
theorem c105_18 : cod 105 18 = some (.aload_n 0, 1) := cod_of b105 dX7_ask_18
theorem t105_18 {d : Nat} {h : Hp} {Q : Pst} {l1 : Value} {x : Nat} {st : List Value} : T d 105 18 [.ref x, l1] st h Q ↔ T d 105 19 [.ref x, l1] (.ref x :: st) h Q := T_aload_n c105_18 rfl
theorem c105_19 : cod 105 19 = some (.getfield 33, 3) := cod_of b105 dX7_ask_19
theorem t105_19 {d : Nat} {h : Hp} {Q : Pst} {a : Nat} {ls : List Value} {st : List Value} : T d 105 19 ls (.ref a :: st) h Q ↔ gF (h.2.2 a) 6 4 (fun v => T d 105 22 ls (v :: st) h Q) := T_getfieldR m105 c105_19 f7_33
theorem c105_22 : cod 105 22 = some (.aload_n 0, 1) := cod_of b105 dX7_ask_22
theorem t105_22 {d : Nat} {h : Hp} {Q : Pst} {l1 : Value} {x : Nat} {st : List Value} : T d 105 22 [.ref x, l1] st h Q ↔ T d 105 23 [.ref x, l1] (.ref x :: st) h Q := T_aload_n c105_22 rfl
theorem c105_23 : cod 105 23 = some (.getfield 10, 3) := cod_of b105 dX7_ask_23
theorem t105_23 {d : Nat} {h : Hp} {Q : Pst} {a : Nat} {ls : List Value} {st : List Value} : T d 105 23 ls (.ref a :: st) h Q ↔ gF (h.2.2 a) 6 0 (fun v => T d 105 26 ls (v :: st) h Q) := T_getfieldR m105 c105_23 f7_10
theorem c105_26 : cod 105 26 = some (.iload_n 1, 1) := cod_of b105 dX7_ask_26
theorem t105_26 {d : Nat} {h : Hp} {Q : Pst} {l0 : Value} {x : Int32} {st : List Value} : T d 105 26 [l0, .int x] st h Q ↔ T d 105 27 [l0, .int x] (.int x :: st) h Q := T_iload_n c105_26 rfl
theorem c105_27 : cod 105 27 = some (.invokevirtual 267, 3) := cod_of b105 dX7_ask_27
theorem t105_27 {d : Nat} {h : Hp} {Q : Pst} {a0 a : Nat} {a1 : Int32} {ls : List Value} (ho : isO (h.2.2 a) 1) : T (d + 1) 105 27 ls [.int a1, .ref a0, .ref a] h Q ↔ T d 16 0 [.ref a, .ref a0, .int a1, un, un, un, un, un, un] [] h (fun x h2 => T (d + 1) 105 30 ls (rl x []) h2 Q) := T_virtualR (as := [.ref a0, .int a1]) (r := []) m105 m16 c105_27 k7_267  rfl (by decide) rfl (by simp [wrd, Value.category]) (by simp [stk, Value.category]) rfl (by decide +kernel) ho
theorem c105_30 : cod 105 30 = some (.ireturn, 1) := cod_of b105 dX7_ask_30
theorem t105_30 {d : Nat} {h : Hp} {Q : Pst} {x : Int32} {ls : List Value} : T d 105 30 ls [.int x] h Q ↔ Q (some (.int x)) h := T_iretR m105 c105_30 rfl
theorem b106 : (mR 106).2.2.1 = cX7_rivals := by rw [m106]
theorem c106_0 : cod 106 0 = some (.aload_n 0, 1) := cod_of b106 dX7_rivals_0
theorem t106_0 {d : Nat} {h : Hp} {Q : Pst} {l1 l2 l3 l4 : Value} {x : Nat} {st : List Value} : T d 106 0 [.ref x, l1, l2, l3, l4] st h Q ↔ T d 106 1 [.ref x, l1, l2, l3, l4] (.ref x :: st) h Q := T_aload_n c106_0 rfl
theorem c106_1 : cod 106 1 = some (.getfield 10, 3) := cod_of b106 dX7_rivals_1
theorem t106_1 {d : Nat} {h : Hp} {Q : Pst} {a : Nat} {ls : List Value} {st : List Value} : T d 106 1 ls (.ref a :: st) h Q ↔ gF (h.2.2 a) 6 0 (fun v => T d 106 4 ls (v :: st) h Q) := T_getfieldR m106 c106_1 f7_10
theorem c106_4 : cod 106 4 = some (.iload_n 1, 1) := cod_of b106 dX7_rivals_4
theorem t106_4 {d : Nat} {h : Hp} {Q : Pst} {l0 l2 l3 l4 : Value} {x : Int32} {st : List Value} : T d 106 4 [l0, .int x, l2, l3, l4] st h Q ↔ T d 106 5 [l0, .int x, l2, l3, l4] (.int x :: st) h Q := T_iload_n c106_4 rfl
theorem c106_5 : cod 106 5 = some (.invokevirtual 120, 3) := cod_of b106 dX7_rivals_5
theorem t106_5 {d : Nat} {h : Hp} {Q : Pst} {a0 : Int32} {a : Nat} {ls : List Value} (ho : isO (h.2.2 a) 5) : T (d + 1) 106 5 ls [.int a0, .ref a] h Q ↔ T d 56 0 [.ref a, .int a0] [] h (fun x h2 => T (d + 1) 106 8 ls (rl x []) h2 Q) := T_virtualR (as := [.int a0]) (r := []) m106 m56 c106_5 k7_120  rfl (by decide) rfl (by simp [wrd, Value.category]) (by simp [stk, Value.category]) rfl (by decide +kernel) ho
theorem c106_8 : cod 106 8 = some (.ifCond .eq 36, 3) := cod_of b106 dX7_rivals_8
theorem t106_8 {d : Nat} {h : Hp} {Q : Pst} {x : Int32} {ls : List Value} {st : List Value} : T d 106 8 ls (.int x :: st) h Q ↔ (if x = 0 then T d 106 44 ls st h Q else T d 106 11 ls st h Q) := T_if_eq c106_8 (by decide)
theorem c106_11 : cod 106 11 = some (.aload_n 0, 1) := cod_of b106 dX7_rivals_11
theorem t106_11 {d : Nat} {h : Hp} {Q : Pst} {l1 l2 l3 l4 : Value} {x : Nat} {st : List Value} : T d 106 11 [.ref x, l1, l2, l3, l4] st h Q ↔ T d 106 12 [.ref x, l1, l2, l3, l4] (.ref x :: st) h Q := T_aload_n c106_11 rfl
theorem c106_12 : cod 106 12 = some (.getfield 10, 3) := cod_of b106 dX7_rivals_12
theorem t106_12 {d : Nat} {h : Hp} {Q : Pst} {a : Nat} {ls : List Value} {st : List Value} : T d 106 12 ls (.ref a :: st) h Q ↔ gF (h.2.2 a) 6 0 (fun v => T d 106 15 ls (v :: st) h Q) := T_getfieldR m106 c106_12 f7_10
theorem c106_15 : cod 106 15 = some (.iload_n 2, 1) := cod_of b106 dX7_rivals_15
theorem t106_15 {d : Nat} {h : Hp} {Q : Pst} {l0 l1 l3 l4 : Value} {x : Int32} {st : List Value} : T d 106 15 [l0, l1, .int x, l3, l4] st h Q ↔ T d 106 16 [l0, l1, .int x, l3, l4] (.int x :: st) h Q := T_iload_n c106_15 rfl
theorem c106_16 : cod 106 16 = some (.invokevirtual 120, 3) := cod_of b106 dX7_rivals_16
theorem t106_16 {d : Nat} {h : Hp} {Q : Pst} {a0 : Int32} {a : Nat} {ls : List Value} (ho : isO (h.2.2 a) 5) : T (d + 1) 106 16 ls [.int a0, .ref a] h Q ↔ T d 56 0 [.ref a, .int a0] [] h (fun x h2 => T (d + 1) 106 19 ls (rl x []) h2 Q) := T_virtualR (as := [.int a0]) (r := []) m106 m56 c106_16 k7_120  rfl (by decide) rfl (by simp [wrd, Value.category]) (by simp [stk, Value.category]) rfl (by decide +kernel) ho
theorem c106_19 : cod 106 19 = some (.ifCond .eq 25, 3) := cod_of b106 dX7_rivals_19
theorem t106_19 {d : Nat} {h : Hp} {Q : Pst} {x : Int32} {ls : List Value} {st : List Value} : T d 106 19 ls (.int x :: st) h Q ↔ (if x = 0 then T d 106 44 ls st h Q else T d 106 22 ls st h Q) := T_if_eq c106_19 (by decide)
theorem c106_22 : cod 106 22 = some (.iload_n 1, 1) := cod_of b106 dX7_rivals_22
theorem t106_22 {d : Nat} {h : Hp} {Q : Pst} {l0 l2 l3 l4 : Value} {x : Int32} {st : List Value} : T d 106 22 [l0, .int x, l2, l3, l4] st h Q ↔ T d 106 23 [l0, .int x, l2, l3, l4] (.int x :: st) h Q := T_iload_n c106_22 rfl
theorem c106_23 : cod 106 23 = some (.iload_n 2, 1) := cod_of b106 dX7_rivals_23
theorem t106_23 {d : Nat} {h : Hp} {Q : Pst} {l0 l1 l3 l4 : Value} {x : Int32} {st : List Value} : T d 106 23 [l0, l1, .int x, l3, l4] st h Q ↔ T d 106 24 [l0, l1, .int x, l3, l4] (.int x :: st) h Q := T_iload_n c106_23 rfl
theorem c106_24 : cod 106 24 = some (.if_icmp .eq 20, 3) := cod_of b106 dX7_rivals_24
theorem t106_24 {d : Nat} {h : Hp} {Q : Pst} {x y : Int32} {ls : List Value} {st : List Value} : T d 106 24 ls (.int y :: .int x :: st) h Q ↔ (if x = y then T d 106 44 ls st h Q else T d 106 27 ls st h Q) := T_icmp_eq c106_24 (by decide)
theorem c106_27 : cod 106 27 = some (.aload_n 0, 1) := cod_of b106 dX7_rivals_27
theorem t106_27 {d : Nat} {h : Hp} {Q : Pst} {l1 l2 l3 l4 : Value} {x : Nat} {st : List Value} : T d 106 27 [.ref x, l1, l2, l3, l4] st h Q ↔ T d 106 28 [.ref x, l1, l2, l3, l4] (.ref x :: st) h Q := T_aload_n c106_27 rfl
theorem c106_28 : cod 106 28 = some (.getfield 10, 3) := cod_of b106 dX7_rivals_28
theorem t106_28 {d : Nat} {h : Hp} {Q : Pst} {a : Nat} {ls : List Value} {st : List Value} : T d 106 28 ls (.ref a :: st) h Q ↔ gF (h.2.2 a) 6 0 (fun v => T d 106 31 ls (v :: st) h Q) := T_getfieldR m106 c106_28 f7_10
theorem c106_31 : cod 106 31 = some (.iload_n 3, 1) := cod_of b106 dX7_rivals_31
theorem t106_31 {d : Nat} {h : Hp} {Q : Pst} {l0 l1 l2 l4 : Value} {x : Int32} {st : List Value} : T d 106 31 [l0, l1, l2, .int x, l4] st h Q ↔ T d 106 32 [l0, l1, l2, .int x, l4] (.int x :: st) h Q := T_iload_n c106_31 rfl
theorem c106_32 : cod 106 32 = some (.invokevirtual 116, 3) := cod_of b106 dX7_rivals_32
theorem t106_32 {d : Nat} {h : Hp} {Q : Pst} {a0 : Int32} {a : Nat} {ls : List Value} (ho : isO (h.2.2 a) 5) : T (d + 1) 106 32 ls [.int a0, .ref a] h Q ↔ T d 55 0 [.ref a, .int a0] [] h (fun x h2 => T (d + 1) 106 35 ls (rl x []) h2 Q) := T_virtualR (as := [.int a0]) (r := []) m106 m55 c106_32 k7_116  rfl (by decide) rfl (by simp [wrd, Value.category]) (by simp [stk, Value.category]) rfl (by decide +kernel) ho
theorem c106_35 : cod 106 35 = some (.ifCond .eq 9, 3) := cod_of b106 dX7_rivals_35
theorem t106_35 {d : Nat} {h : Hp} {Q : Pst} {x : Int32} {ls : List Value} {st : List Value} : T d 106 35 ls (.int x :: st) h Q ↔ (if x = 0 then T d 106 44 ls st h Q else T d 106 38 ls st h Q) := T_if_eq c106_35 (by decide)
theorem c106_38 : cod 106 38 = some (.iload 4, 2) := cod_of b106 dX7_rivals_38
theorem t106_38 {d : Nat} {h : Hp} {Q : Pst} {l0 l1 l2 l3 : Value} {x : Int32} {st : List Value} : T d 106 38 [l0, l1, l2, l3, .int x] st h Q ↔ T d 106 40 [l0, l1, l2, l3, .int x] (.int x :: st) h Q := T_iload c106_38 rfl
theorem c106_40 : cod 106 40 = some (.iconst (-1), 1) := cod_of b106 dX7_rivals_40
theorem t106_40 {d : Nat} {h : Hp} {Q : Pst} {ls : List Value} {st : List Value} : T d 106 40 ls st h Q ↔ T d 106 41 ls (.int (-1) :: st) h Q := T_iconstV c106_40 (by decide)
theorem c106_41 : cod 106 41 = some (.if_icmp .ge 13, 3) := cod_of b106 dX7_rivals_41
theorem t106_41 {d : Nat} {h : Hp} {Q : Pst} {x y : Int32} {ls : List Value} {st : List Value} : T d 106 41 ls (.int y :: .int x :: st) h Q ↔ (if y ≤ x then T d 106 54 ls st h Q else T d 106 44 ls st h Q) := T_icmp_ge c106_41 (by decide)
theorem c106_54 : cod 106 54 = some (.aload_n 0, 1) := cod_of b106 dX7_rivals_54
theorem t106_54 {d : Nat} {h : Hp} {Q : Pst} {l1 l2 l3 l4 : Value} {x : Nat} {st : List Value} : T d 106 54 [.ref x, l1, l2, l3, l4] st h Q ↔ T d 106 55 [.ref x, l1, l2, l3, l4] (.ref x :: st) h Q := T_aload_n c106_54 rfl
theorem c106_55 : cod 106 55 = some (.getfield 47, 3) := cod_of b106 dX7_rivals_55
theorem t106_55 {d : Nat} {h : Hp} {Q : Pst} {a : Nat} {ls : List Value} {st : List Value} : T d 106 55 ls (.ref a :: st) h Q ↔ gF (h.2.2 a) 6 6 (fun v => T d 106 58 ls (v :: st) h Q) := T_getfieldR m106 c106_55 f7_47
theorem c106_58 : cod 106 58 = some (.aload_n 0, 1) := cod_of b106 dX7_rivals_58
theorem t106_58 {d : Nat} {h : Hp} {Q : Pst} {l1 l2 l3 l4 : Value} {x : Nat} {st : List Value} : T d 106 58 [.ref x, l1, l2, l3, l4] st h Q ↔ T d 106 59 [.ref x, l1, l2, l3, l4] (.ref x :: st) h Q := T_aload_n c106_58 rfl
theorem c106_59 : cod 106 59 = some (.getfield 10, 3) := cod_of b106 dX7_rivals_59
theorem t106_59 {d : Nat} {h : Hp} {Q : Pst} {a : Nat} {ls : List Value} {st : List Value} : T d 106 59 ls (.ref a :: st) h Q ↔ gF (h.2.2 a) 6 0 (fun v => T d 106 62 ls (v :: st) h Q) := T_getfieldR m106 c106_59 f7_10
theorem c106_62 : cod 106 62 = some (.iload_n 1, 1) := cod_of b106 dX7_rivals_62
theorem t106_62 {d : Nat} {h : Hp} {Q : Pst} {l0 l2 l3 l4 : Value} {x : Int32} {st : List Value} : T d 106 62 [l0, .int x, l2, l3, l4] st h Q ↔ T d 106 63 [l0, .int x, l2, l3, l4] (.int x :: st) h Q := T_iload_n c106_62 rfl
theorem c106_63 : cod 106 63 = some (.iload_n 2, 1) := cod_of b106 dX7_rivals_63
theorem t106_63 {d : Nat} {h : Hp} {Q : Pst} {l0 l1 l3 l4 : Value} {x : Int32} {st : List Value} : T d 106 63 [l0, l1, .int x, l3, l4] st h Q ↔ T d 106 64 [l0, l1, .int x, l3, l4] (.int x :: st) h Q := T_iload_n c106_63 rfl
theorem c106_64 : cod 106 64 = some (.iload_n 3, 1) := cod_of b106 dX7_rivals_64
theorem t106_64 {d : Nat} {h : Hp} {Q : Pst} {l0 l1 l2 l4 : Value} {x : Int32} {st : List Value} : T d 106 64 [l0, l1, l2, .int x, l4] st h Q ↔ T d 106 65 [l0, l1, l2, .int x, l4] (.int x :: st) h Q := T_iload_n c106_64 rfl
theorem c106_65 : cod 106 65 = some (.invokevirtual 270, 3) := cod_of b106 dX7_rivals_65
theorem t106_65 {d : Nat} {h : Hp} {Q : Pst} {a0 a : Nat} {a1 a2 a3 : Int32} {ls : List Value} (ho : isO (h.2.2 a) 0) : T (d + 1) 106 65 ls [.int a3, .int a2, .int a1, .ref a0, .ref a] h Q ↔ T d 1 0 [.ref a, .ref a0, .int a1, .int a2, .int a3, un] [] h (fun x h2 => T (d + 1) 106 68 ls (rl x []) h2 Q) := T_virtualR (as := [.ref a0, .int a1, .int a2, .int a3]) (r := []) m106 m1 c106_65 k7_270  rfl (by decide) rfl (by simp [wrd, Value.category]) (by simp [stk, Value.category]) rfl (by decide +kernel) ho
theorem c106_68 : cod 106 68 = some (.aload_n 0, 1) := cod_of b106 dX7_rivals_68
theorem t106_68 {d : Nat} {h : Hp} {Q : Pst} {l1 l2 l3 l4 : Value} {x : Nat} {st : List Value} : T d 106 68 [.ref x, l1, l2, l3, l4] st h Q ↔ T d 106 69 [.ref x, l1, l2, l3, l4] (.ref x :: st) h Q := T_aload_n c106_68 rfl
theorem c106_69 : cod 106 69 = some (.getfield 47, 3) := cod_of b106 dX7_rivals_69
theorem t106_69 {d : Nat} {h : Hp} {Q : Pst} {a : Nat} {ls : List Value} {st : List Value} : T d 106 69 ls (.ref a :: st) h Q ↔ gF (h.2.2 a) 6 6 (fun v => T d 106 72 ls (v :: st) h Q) := T_getfieldR m106 c106_69 f7_47
theorem c106_72 : cod 106 72 = some (.iload 4, 2) := cod_of b106 dX7_rivals_72
theorem t106_72 {d : Nat} {h : Hp} {Q : Pst} {l0 l1 l2 l3 : Value} {x : Int32} {st : List Value} : T d 106 72 [l0, l1, l2, l3, .int x] st h Q ↔ T d 106 74 [l0, l1, l2, l3, .int x] (.int x :: st) h Q := T_iload c106_72 rfl
theorem c106_74 : cod 106 74 = some (.invokevirtual 274, 3) := cod_of b106 dX7_rivals_74
theorem t106_74 {d : Nat} {h : Hp} {Q : Pst} {a0 : Int32} {a : Nat} {ls : List Value} (ho : isO (h.2.2 a) 0) : T (d + 1) 106 74 ls [.int a0, .ref a] h Q ↔ T d 2 0 [.ref a, .int a0, un, un, un] [] h (fun x h2 => T (d + 1) 106 77 ls (rl x []) h2 Q) := T_virtualR (as := [.int a0]) (r := []) m106 m2 c106_74 k7_274  rfl (by decide) rfl (by simp [wrd, Value.category]) (by simp [stk, Value.category]) rfl (by decide +kernel) ho
theorem c106_77 : cod 106 77 = some (.ireturn, 1) := cod_of b106 dX7_rivals_77
theorem t106_77 {d : Nat} {h : Hp} {Q : Pst} {x : Int32} {ls : List Value} : T d 106 77 ls [.int x] h Q ↔ Q (some (.int x)) h := T_iretR m106 c106_77 rfl
theorem c106_44 : cod 106 44 = some (.aload_n 0, 1) := cod_of b106 dX7_rivals_44
theorem t106_44 {d : Nat} {h : Hp} {Q : Pst} {l1 l2 l3 l4 : Value} {x : Nat} {st : List Value} : T d 106 44 [.ref x, l1, l2, l3, l4] st h Q ↔ T d 106 45 [.ref x, l1, l2, l3, l4] (.ref x :: st) h Q := T_aload_n c106_44 rfl
theorem c106_45 : cod 106 45 = some (.bipush (-2), 2) := cod_of b106 dX7_rivals_45
theorem t106_45 {d : Nat} {h : Hp} {Q : Pst} {ls : List Value} {st : List Value} : T d 106 45 ls st h Q ↔ T d 106 47 ls (.int (-2) :: st) h Q := T_bipushV c106_45 (by decide)
theorem c106_47 : cod 106 47 = some (.invokevirtual 66, 3) := cod_of b106 dX7_rivals_47
theorem t106_47 {d : Nat} {h : Hp} {Q : Pst} {a0 : Int32} {a : Nat} {ls : List Value} (ho : isO (h.2.2 a) 6) : T (d + 1) 106 47 ls [.int a0, .ref a] h Q ↔ T d 116 0 [.ref a, .int a0, un] [] h (fun x h2 => T (d + 1) 106 50 ls (rl x []) h2 Q) := T_virtualR (as := [.int a0]) (r := []) m106 m116 c106_47 k7_66  rfl (by decide) rfl (by simp [wrd, Value.category]) (by simp [stk, Value.category]) rfl (by decide +kernel) ho
theorem c106_50 : cod 106 50 = some (.pop, 1) := cod_of b106 dX7_rivals_50
theorem t106_50 {d : Nat} {h : Hp} {Q : Pst} {x : Int32} {ls : List Value} {st : List Value} : T d 106 50 ls (.int x :: st) h Q ↔ T d 106 51 ls st h Q := T_pop c106_50 rfl
theorem c106_51 : cod 106 51 = some (.bipush (-10), 2) := cod_of b106 dX7_rivals_51
theorem t106_51 {d : Nat} {h : Hp} {Q : Pst} {ls : List Value} {st : List Value} : T d 106 51 ls st h Q ↔ T d 106 53 ls (.int (-10) :: st) h Q := T_bipushV c106_51 (by decide)
theorem c106_53 : cod 106 53 = some (.ireturn, 1) := cod_of b106 dX7_rivals_53
theorem t106_53 {d : Nat} {h : Hp} {Q : Pst} {x : Int32} {ls : List Value} : T d 106 53 ls [.int x] h Q ↔ Q (some (.int x)) h := T_iretR m106 c106_53 rfl
theorem b107 : (mR 107).2.2.1 = cX7_rain := by rw [m107]
theorem c107_0 : cod 107 0 = some (.aload_n 0, 1) := cod_of b107 dX7_rain_0
theorem t107_0 {d : Nat} {h : Hp} {Q : Pst} {l1 l2 l3 l4 : Value} {x : Nat} {st : List Value} : T d 107 0 [.ref x, l1, l2, l3, l4] st h Q ↔ T d 107 1 [.ref x, l1, l2, l3, l4] (.ref x :: st) h Q := T_aload_n c107_0 rfl
theorem c107_1 : cod 107 1 = some (.getfield 10, 3) := cod_of b107 dX7_rain_1
theorem t107_1 {d : Nat} {h : Hp} {Q : Pst} {a : Nat} {ls : List Value} {st : List Value} : T d 107 1 ls (.ref a :: st) h Q ↔ gF (h.2.2 a) 6 0 (fun v => T d 107 4 ls (v :: st) h Q) := T_getfieldR m107 c107_1 f7_10
theorem c107_4 : cod 107 4 = some (.iload_n 1, 1) := cod_of b107 dX7_rain_4
theorem t107_4 {d : Nat} {h : Hp} {Q : Pst} {l0 l2 l3 l4 : Value} {x : Int32} {st : List Value} : T d 107 4 [l0, .int x, l2, l3, l4] st h Q ↔ T d 107 5 [l0, .int x, l2, l3, l4] (.int x :: st) h Q := T_iload_n c107_4 rfl
theorem c107_5 : cod 107 5 = some (.invokevirtual 116, 3) := cod_of b107 dX7_rain_5
theorem t107_5 {d : Nat} {h : Hp} {Q : Pst} {a0 : Int32} {a : Nat} {ls : List Value} (ho : isO (h.2.2 a) 5) : T (d + 1) 107 5 ls [.int a0, .ref a] h Q ↔ T d 55 0 [.ref a, .int a0] [] h (fun x h2 => T (d + 1) 107 8 ls (rl x []) h2 Q) := T_virtualR (as := [.int a0]) (r := []) m107 m55 c107_5 k7_116  rfl (by decide) rfl (by simp [wrd, Value.category]) (by simp [stk, Value.category]) rfl (by decide +kernel) ho
theorem c107_8 : cod 107 8 = some (.ifCond .eq 13, 3) := cod_of b107 dX7_rain_8
theorem t107_8 {d : Nat} {h : Hp} {Q : Pst} {x : Int32} {ls : List Value} {st : List Value} : T d 107 8 ls (.int x :: st) h Q ↔ (if x = 0 then T d 107 21 ls st h Q else T d 107 11 ls st h Q) := T_if_eq c107_8 (by decide)
theorem c107_11 : cod 107 11 = some (.iload_n 2, 1) := cod_of b107 dX7_rain_11
theorem t107_11 {d : Nat} {h : Hp} {Q : Pst} {l0 l1 l3 l4 : Value} {x : Int32} {st : List Value} : T d 107 11 [l0, l1, .int x, l3, l4] st h Q ↔ T d 107 12 [l0, l1, .int x, l3, l4] (.int x :: st) h Q := T_iload_n c107_11 rfl
theorem c107_12 : cod 107 12 = some (.iconst 0, 1) := cod_of b107 dX7_rain_12
theorem t107_12 {d : Nat} {h : Hp} {Q : Pst} {ls : List Value} {st : List Value} : T d 107 12 ls st h Q ↔ T d 107 13 ls (.int 0 :: st) h Q := T_iconstV c107_12 (by decide)
theorem c107_13 : cod 107 13 = some (.bipush 10, 2) := cod_of b107 dX7_rain_13
theorem t107_13 {d : Nat} {h : Hp} {Q : Pst} {ls : List Value} {st : List Value} : T d 107 13 ls st h Q ↔ T d 107 15 ls (.int 10 :: st) h Q := T_bipushV c107_13 (by decide)
theorem c107_15 : cod 107 15 = some (.invokestatic 62, 3) := cod_of b107 dX7_rain_15
theorem t107_15 {d : Nat} {h : Hp} {Q : Pst} {a0 a1 a2 : Int32} {ls : List Value} : T (d + 1) 107 15 ls [.int a2, .int a1, .int a0] h Q ↔ T d 118 0 [.int a0, .int a1, .int a2] [] h (fun x h2 => T (d + 1) 107 18 ls (rl x []) h2 Q) := T_staticR (as := [.int a0, .int a1, .int a2]) (r := []) m107 m118 c107_15 k7_62 (Or.inl rfl) rfl (by decide) rfl (by simp [wrd, Value.category]) (by simp [stk, Value.category]) rfl
theorem c107_18 : cod 107 18 = some (.ifCond .ne 10, 3) := cod_of b107 dX7_rain_18
theorem t107_18 {d : Nat} {h : Hp} {Q : Pst} {x : Int32} {ls : List Value} {st : List Value} : T d 107 18 ls (.int x :: st) h Q ↔ (if ¬ x = 0 then T d 107 28 ls st h Q else T d 107 21 ls st h Q) := T_if_ne c107_18 (by decide)
theorem c107_28 : cod 107 28 = some (.iconst 0, 1) := cod_of b107 dX7_rain_28
theorem t107_28 {d : Nat} {h : Hp} {Q : Pst} {ls : List Value} {st : List Value} : T d 107 28 ls st h Q ↔ T d 107 29 ls (.int 0 :: st) h Q := T_iconstV c107_28 (by decide)
theorem c107_29 : cod 107 29 = some (.istore_n 3, 1) := cod_of b107 dX7_rain_29
theorem t107_29 {d : Nat} {h : Hp} {Q : Pst} {l0 l1 l2 l3 l4 : Value} {x : Int32} {st : List Value} : T d 107 29 [l0, l1, l2, l3, l4] (.int x :: st) h Q ↔ T d 107 30 [l0, l1, kil l2, .int x, l4] st h Q := T_istore_n c107_29 (Nat.le_of_ble_eq_true rfl)
theorem c107_30 : cod 107 30 = some (.iconst 0, 1) := cod_of b107 dX7_rain_30
theorem t107_30 {d : Nat} {h : Hp} {Q : Pst} {ls : List Value} {st : List Value} : T d 107 30 ls st h Q ↔ T d 107 31 ls (.int 0 :: st) h Q := T_iconstV c107_30 (by decide)
theorem c107_31 : cod 107 31 = some (.istore 4, 2) := cod_of b107 dX7_rain_31
theorem t107_31 {d : Nat} {h : Hp} {Q : Pst} {l0 l1 l2 l3 l4 : Value} {x : Int32} {st : List Value} : T d 107 31 [l0, l1, l2, l3, l4] (.int x :: st) h Q ↔ T d 107 33 [l0, l1, l2, kil l3, .int x] st h Q := T_istore c107_31 (Nat.le_of_ble_eq_true rfl)
theorem c107_33 : cod 107 33 = some (.iload 4, 2) := cod_of b107 dX7_rain_33
theorem t107_33 {d : Nat} {h : Hp} {Q : Pst} {l0 l1 l2 l3 : Value} {x : Int32} {st : List Value} : T d 107 33 [l0, l1, l2, l3, .int x] st h Q ↔ T d 107 35 [l0, l1, l2, l3, .int x] (.int x :: st) h Q := T_iload c107_33 rfl
theorem c107_35 : cod 107 35 = some (.aload_n 0, 1) := cod_of b107 dX7_rain_35
theorem t107_35 {d : Nat} {h : Hp} {Q : Pst} {l1 l2 l3 l4 : Value} {x : Nat} {st : List Value} : T d 107 35 [.ref x, l1, l2, l3, l4] st h Q ↔ T d 107 36 [.ref x, l1, l2, l3, l4] (.ref x :: st) h Q := T_aload_n c107_35 rfl
theorem c107_36 : cod 107 36 = some (.getfield 10, 3) := cod_of b107 dX7_rain_36
theorem t107_36 {d : Nat} {h : Hp} {Q : Pst} {a : Nat} {ls : List Value} {st : List Value} : T d 107 36 ls (.ref a :: st) h Q ↔ gF (h.2.2 a) 6 0 (fun v => T d 107 39 ls (v :: st) h Q) := T_getfieldR m107 c107_36 f7_10
theorem c107_39 : cod 107 39 = some (.getfield 81, 3) := cod_of b107 dX7_rain_39
theorem t107_39 {d : Nat} {h : Hp} {Q : Pst} {a : Nat} {ls : List Value} {st : List Value} : T d 107 39 ls (.ref a :: st) h Q ↔ gF (h.2.2 a) 5 11 (fun v => T d 107 42 ls (v :: st) h Q) := T_getfieldR m107 c107_39 f7_81
theorem c107_42 : cod 107 42 = some (.if_icmp .ge 42, 3) := cod_of b107 dX7_rain_42
theorem t107_42 {d : Nat} {h : Hp} {Q : Pst} {x y : Int32} {ls : List Value} {st : List Value} : T d 107 42 ls (.int y :: .int x :: st) h Q ↔ (if y ≤ x then T d 107 84 ls st h Q else T d 107 45 ls st h Q) := T_icmp_ge c107_42 (by decide)
theorem c107_45 : cod 107 45 = some (.iload_n 3, 1) := cod_of b107 dX7_rain_45
theorem t107_45 {d : Nat} {h : Hp} {Q : Pst} {l0 l1 l2 l4 : Value} {x : Int32} {st : List Value} : T d 107 45 [l0, l1, l2, .int x, l4] st h Q ↔ T d 107 46 [l0, l1, l2, .int x, l4] (.int x :: st) h Q := T_iload_n c107_45 rfl
theorem c107_46 : cod 107 46 = some (.iload_n 2, 1) := cod_of b107 dX7_rain_46
theorem t107_46 {d : Nat} {h : Hp} {Q : Pst} {l0 l1 l3 l4 : Value} {x : Int32} {st : List Value} : T d 107 46 [l0, l1, .int x, l3, l4] st h Q ↔ T d 107 47 [l0, l1, .int x, l3, l4] (.int x :: st) h Q := T_iload_n c107_46 rfl
theorem c107_47 : cod 107 47 = some (.aload_n 0, 1) := cod_of b107 dX7_rain_47
theorem t107_47 {d : Nat} {h : Hp} {Q : Pst} {l1 l2 l3 l4 : Value} {x : Nat} {st : List Value} : T d 107 47 [.ref x, l1, l2, l3, l4] st h Q ↔ T d 107 48 [.ref x, l1, l2, l3, l4] (.ref x :: st) h Q := T_aload_n c107_47 rfl
theorem c107_48 : cod 107 48 = some (.getfield 10, 3) := cod_of b107 dX7_rain_48
theorem t107_48 {d : Nat} {h : Hp} {Q : Pst} {a : Nat} {ls : List Value} {st : List Value} : T d 107 48 ls (.ref a :: st) h Q ↔ gF (h.2.2 a) 6 0 (fun v => T d 107 51 ls (v :: st) h Q) := T_getfieldR m107 c107_48 f7_10
theorem c107_51 : cod 107 51 = some (.iload_n 1, 1) := cod_of b107 dX7_rain_51
theorem t107_51 {d : Nat} {h : Hp} {Q : Pst} {l0 l2 l3 l4 : Value} {x : Int32} {st : List Value} : T d 107 51 [l0, .int x, l2, l3, l4] st h Q ↔ T d 107 52 [l0, .int x, l2, l3, l4] (.int x :: st) h Q := T_iload_n c107_51 rfl
theorem c107_52 : cod 107 52 = some (.iload 4, 2) := cod_of b107 dX7_rain_52
theorem t107_52 {d : Nat} {h : Hp} {Q : Pst} {l0 l1 l2 l3 : Value} {x : Int32} {st : List Value} : T d 107 52 [l0, l1, l2, l3, .int x] st h Q ↔ T d 107 54 [l0, l1, l2, l3, .int x] (.int x :: st) h Q := T_iload c107_52 rfl
theorem c107_54 : cod 107 54 = some (.iconst 4, 1) := cod_of b107 dX7_rain_54
theorem t107_54 {d : Nat} {h : Hp} {Q : Pst} {ls : List Value} {st : List Value} : T d 107 54 ls st h Q ↔ T d 107 55 ls (.int 4 :: st) h Q := T_iconstV c107_54 (by decide)
theorem c107_55 : cod 107 55 = some (.invokevirtual 277, 3) := cod_of b107 dX7_rain_55
theorem t107_55 {d : Nat} {h : Hp} {Q : Pst} {a0 a1 a2 s0 s1 : Int32} {a : Nat} {ls : List Value} (ho : isO (h.2.2 a) 5) : T (d + 1) 107 55 ls [.int a2, .int a1, .int a0, .ref a, .int s0, .int s1] h Q ↔ T d 65 0 [.ref a, .int a0, .int a1, .int a2] [] h (fun x h2 => T (d + 1) 107 58 ls (rl x [.int s0, .int s1]) h2 Q) := T_virtualR (as := [.int a0, .int a1, .int a2]) (r := [.int s0, .int s1]) m107 m65 c107_55 k7_277  rfl (by decide) rfl (by simp [wrd, Value.category]) (by simp [stk, Value.category]) rfl (by decide +kernel) ho
theorem c107_58 : cod 107 58 = some (.imul, 1) := cod_of b107 dX7_rain_58
theorem t107_58 {d : Nat} {h : Hp} {Q : Pst} {x y : Int32} {ls : List Value} {st : List Value} : T d 107 58 ls (.int y :: .int x :: st) h Q ↔ T d 107 59 ls (.int (x * y) :: st) h Q := T_imul c107_58
theorem c107_59 : cod 107 59 = some (.bipush 10, 2) := cod_of b107 dX7_rain_59
theorem t107_59 {d : Nat} {h : Hp} {Q : Pst} {ls : List Value} {st : List Value} : T d 107 59 ls st h Q ↔ T d 107 61 ls (.int 10 :: st) h Q := T_bipushV c107_59 (by decide)
theorem c107_61 : cod 107 61 = some (.iload_n 2, 1) := cod_of b107 dX7_rain_61
theorem t107_61 {d : Nat} {h : Hp} {Q : Pst} {l0 l1 l3 l4 : Value} {x : Int32} {st : List Value} : T d 107 61 [l0, l1, .int x, l3, l4] st h Q ↔ T d 107 62 [l0, l1, .int x, l3, l4] (.int x :: st) h Q := T_iload_n c107_61 rfl
theorem c107_62 : cod 107 62 = some (.isub, 1) := cod_of b107 dX7_rain_62
theorem t107_62 {d : Nat} {h : Hp} {Q : Pst} {x y : Int32} {ls : List Value} {st : List Value} : T d 107 62 ls (.int y :: .int x :: st) h Q ↔ T d 107 63 ls (.int (x - y) :: st) h Q := T_isub c107_62
theorem c107_63 : cod 107 63 = some (.aload_n 0, 1) := cod_of b107 dX7_rain_63
theorem t107_63 {d : Nat} {h : Hp} {Q : Pst} {l1 l2 l3 l4 : Value} {x : Nat} {st : List Value} : T d 107 63 [.ref x, l1, l2, l3, l4] st h Q ↔ T d 107 64 [.ref x, l1, l2, l3, l4] (.ref x :: st) h Q := T_aload_n c107_63 rfl
theorem c107_64 : cod 107 64 = some (.getfield 10, 3) := cod_of b107 dX7_rain_64
theorem t107_64 {d : Nat} {h : Hp} {Q : Pst} {a : Nat} {ls : List Value} {st : List Value} : T d 107 64 ls (.ref a :: st) h Q ↔ gF (h.2.2 a) 6 0 (fun v => T d 107 67 ls (v :: st) h Q) := T_getfieldR m107 c107_64 f7_10
theorem c107_67 : cod 107 67 = some (.iload_n 1, 1) := cod_of b107 dX7_rain_67
theorem t107_67 {d : Nat} {h : Hp} {Q : Pst} {l0 l2 l3 l4 : Value} {x : Int32} {st : List Value} : T d 107 67 [l0, .int x, l2, l3, l4] st h Q ↔ T d 107 68 [l0, .int x, l2, l3, l4] (.int x :: st) h Q := T_iload_n c107_67 rfl
theorem c107_68 : cod 107 68 = some (.iload 4, 2) := cod_of b107 dX7_rain_68
theorem t107_68 {d : Nat} {h : Hp} {Q : Pst} {l0 l1 l2 l3 : Value} {x : Int32} {st : List Value} : T d 107 68 [l0, l1, l2, l3, .int x] st h Q ↔ T d 107 70 [l0, l1, l2, l3, .int x] (.int x :: st) h Q := T_iload c107_68 rfl
theorem c107_70 : cod 107 70 = some (.iconst 0, 1) := cod_of b107 dX7_rain_70
theorem t107_70 {d : Nat} {h : Hp} {Q : Pst} {ls : List Value} {st : List Value} : T d 107 70 ls st h Q ↔ T d 107 71 ls (.int 0 :: st) h Q := T_iconstV c107_70 (by decide)
theorem c107_71 : cod 107 71 = some (.invokevirtual 277, 3) := cod_of b107 dX7_rain_71
theorem t107_71 {d : Nat} {h : Hp} {Q : Pst} {a0 a1 a2 s0 s1 s2 : Int32} {a : Nat} {ls : List Value} (ho : isO (h.2.2 a) 5) : T (d + 1) 107 71 ls [.int a2, .int a1, .int a0, .ref a, .int s0, .int s1, .int s2] h Q ↔ T d 65 0 [.ref a, .int a0, .int a1, .int a2] [] h (fun x h2 => T (d + 1) 107 74 ls (rl x [.int s0, .int s1, .int s2]) h2 Q) := T_virtualR (as := [.int a0, .int a1, .int a2]) (r := [.int s0, .int s1, .int s2]) m107 m65 c107_71 k7_277  rfl (by decide) rfl (by simp [wrd, Value.category]) (by simp [stk, Value.category]) rfl (by decide +kernel) ho
theorem c107_74 : cod 107 74 = some (.imul, 1) := cod_of b107 dX7_rain_74
theorem t107_74 {d : Nat} {h : Hp} {Q : Pst} {x y : Int32} {ls : List Value} {st : List Value} : T d 107 74 ls (.int y :: .int x :: st) h Q ↔ T d 107 75 ls (.int (x * y) :: st) h Q := T_imul c107_74
theorem c107_75 : cod 107 75 = some (.iadd, 1) := cod_of b107 dX7_rain_75
theorem t107_75 {d : Nat} {h : Hp} {Q : Pst} {x y : Int32} {ls : List Value} {st : List Value} : T d 107 75 ls (.int y :: .int x :: st) h Q ↔ T d 107 76 ls (.int (x + y) :: st) h Q := T_iadd c107_75
theorem c107_76 : cod 107 76 = some (.iadd, 1) := cod_of b107 dX7_rain_76
theorem t107_76 {d : Nat} {h : Hp} {Q : Pst} {x y : Int32} {ls : List Value} {st : List Value} : T d 107 76 ls (.int y :: .int x :: st) h Q ↔ T d 107 77 ls (.int (x + y) :: st) h Q := T_iadd c107_76
theorem c107_77 : cod 107 77 = some (.istore_n 3, 1) := cod_of b107 dX7_rain_77
theorem t107_77 {d : Nat} {h : Hp} {Q : Pst} {l0 l1 l2 l3 l4 : Value} {x : Int32} {st : List Value} : T d 107 77 [l0, l1, l2, l3, l4] (.int x :: st) h Q ↔ T d 107 78 [l0, l1, kil l2, .int x, l4] st h Q := T_istore_n c107_77 (Nat.le_of_ble_eq_true rfl)
theorem c107_78 : cod 107 78 = some (.iinc 4 1, 3) := cod_of b107 dX7_rain_78
theorem t107_78 {d : Nat} {h : Hp} {Q : Pst} {l0 l1 l2 l3 : Value} {x : Int32} {st : List Value} : T d 107 78 [l0, l1, l2, l3, .int x] st h Q ↔ T d 107 81 [l0, l1, l2, kil l3, .int (x + 1)] st h Q := T_iincV c107_78 rfl (Nat.le_of_ble_eq_true rfl) (by decide) rfl
theorem c107_81 : cod 107 81 = some (.goto (-48), 3) := cod_of b107 dX7_rain_81
theorem t107_81 {d : Nat} {h : Hp} {Q : Pst} {ls : List Value} {st : List Value} : T d 107 81 ls st h Q ↔ T d 107 33 ls st h Q := T_goto c107_81 (by decide)
theorem c107_84 : cod 107 84 = some (.aload_n 0, 1) := cod_of b107 dX7_rain_84
theorem t107_84 {d : Nat} {h : Hp} {Q : Pst} {l1 l2 l3 l4 : Value} {x : Nat} {st : List Value} : T d 107 84 [.ref x, l1, l2, l3, l4] st h Q ↔ T d 107 85 [.ref x, l1, l2, l3, l4] (.ref x :: st) h Q := T_aload_n c107_84 rfl
theorem c107_85 : cod 107 85 = some (.iload_n 3, 1) := cod_of b107 dX7_rain_85
theorem t107_85 {d : Nat} {h : Hp} {Q : Pst} {l0 l1 l2 l4 : Value} {x : Int32} {st : List Value} : T d 107 85 [l0, l1, l2, .int x, l4] st h Q ↔ T d 107 86 [l0, l1, l2, .int x, l4] (.int x :: st) h Q := T_iload_n c107_85 rfl
theorem c107_86 : cod 107 86 = some (.invokevirtual 280, 3) := cod_of b107 dX7_rain_86
theorem t107_86 {d : Nat} {h : Hp} {Q : Pst} {a0 : Int32} {a : Nat} {ls : List Value} (ho : isO (h.2.2 a) 6) : T (d + 1) 107 86 ls [.int a0, .ref a] h Q ↔ T d 117 0 [.ref a, .int a0, un, un] [] h (fun x h2 => T (d + 1) 107 89 ls (rl x []) h2 Q) := T_virtualR (as := [.int a0]) (r := []) m107 m117 c107_86 k7_280  rfl (by decide) rfl (by simp [wrd, Value.category]) (by simp [stk, Value.category]) rfl (by decide +kernel) ho
theorem c107_89 : cod 107 89 = some (.iconst 1, 1) := cod_of b107 dX7_rain_89
theorem t107_89 {d : Nat} {h : Hp} {Q : Pst} {ls : List Value} {st : List Value} : T d 107 89 ls st h Q ↔ T d 107 90 ls (.int 1 :: st) h Q := T_iconstV c107_89 (by decide)
theorem c107_90 : cod 107 90 = some (.ireturn, 1) := cod_of b107 dX7_rain_90
theorem t107_90 {d : Nat} {h : Hp} {Q : Pst} {x : Int32} {ls : List Value} : T d 107 90 ls [.int x] h Q ↔ Q (some (.int x)) h := T_iretR m107 c107_90 rfl
theorem c107_21 : cod 107 21 = some (.aload_n 0, 1) := cod_of b107 dX7_rain_21
theorem t107_21 {d : Nat} {h : Hp} {Q : Pst} {l1 l2 l3 l4 : Value} {x : Nat} {st : List Value} : T d 107 21 [.ref x, l1, l2, l3, l4] st h Q ↔ T d 107 22 [.ref x, l1, l2, l3, l4] (.ref x :: st) h Q := T_aload_n c107_21 rfl
theorem c107_22 : cod 107 22 = some (.bipush (-2), 2) := cod_of b107 dX7_rain_22
theorem t107_22 {d : Nat} {h : Hp} {Q : Pst} {ls : List Value} {st : List Value} : T d 107 22 ls st h Q ↔ T d 107 24 ls (.int (-2) :: st) h Q := T_bipushV c107_22 (by decide)
theorem c107_24 : cod 107 24 = some (.invokevirtual 66, 3) := cod_of b107 dX7_rain_24
theorem t107_24 {d : Nat} {h : Hp} {Q : Pst} {a0 : Int32} {a : Nat} {ls : List Value} (ho : isO (h.2.2 a) 6) : T (d + 1) 107 24 ls [.int a0, .ref a] h Q ↔ T d 116 0 [.ref a, .int a0, un] [] h (fun x h2 => T (d + 1) 107 27 ls (rl x []) h2 Q) := T_virtualR (as := [.int a0]) (r := []) m107 m116 c107_24 k7_66  rfl (by decide) rfl (by simp [wrd, Value.category]) (by simp [stk, Value.category]) rfl (by decide +kernel) ho
theorem c107_27 : cod 107 27 = some (.ireturn, 1) := cod_of b107 dX7_rain_27
theorem t107_27 {d : Nat} {h : Hp} {Q : Pst} {x : Int32} {ls : List Value} : T d 107 27 ls [.int x] h Q ↔ Q (some (.int x)) h := T_iretR m107 c107_27 rfl
theorem b108 : (mR 108).2.2.1 = cX7_years := by rw [m108]
theorem c108_0 : cod 108 0 = some (.iload_n 1, 1) := cod_of b108 dX7_years_0
theorem t108_0 {d : Nat} {h : Hp} {Q : Pst} {l0 l2 l3 l4 l5 l6 l7 : Value} {x : Int32} {st : List Value} : T d 108 0 [l0, .int x, l2, l3, l4, l5, l6, l7] st h Q ↔ T d 108 1 [l0, .int x, l2, l3, l4, l5, l6, l7] (.int x :: st) h Q := T_iload_n c108_0 rfl
theorem c108_1 : cod 108 1 = some (.iconst 0, 1) := cod_of b108 dX7_years_1
theorem t108_1 {d : Nat} {h : Hp} {Q : Pst} {ls : List Value} {st : List Value} : T d 108 1 ls st h Q ↔ T d 108 2 ls (.int 0 :: st) h Q := T_iconstV c108_1 (by decide)
theorem c108_2 : cod 108 2 = some (.ldc_w 283, 3) := cod_of b108 dX7_years_2
theorem t108_2 {d : Nat} {h : Hp} {Q : Pst} {ls : List Value} {st : List Value} : T d 108 2 ls st h Q ↔ T d 108 5 ls (.int 999999 :: st) h Q := T_ldc_wR m108 c108_2 (by decide +kernel)
theorem c108_5 : cod 108 5 = some (.invokestatic 62, 3) := cod_of b108 dX7_years_5
theorem t108_5 {d : Nat} {h : Hp} {Q : Pst} {a0 a1 a2 : Int32} {ls : List Value} : T (d + 1) 108 5 ls [.int a2, .int a1, .int a0] h Q ↔ T d 118 0 [.int a0, .int a1, .int a2] [] h (fun x h2 => T (d + 1) 108 8 ls (rl x []) h2 Q) := T_staticR (as := [.int a0, .int a1, .int a2]) (r := []) m108 m118 c108_5 k7_62 (Or.inl rfl) rfl (by decide) rfl (by simp [wrd, Value.category]) (by simp [stk, Value.category]) rfl
theorem c108_8 : cod 108 8 = some (.ifCond .eq 13, 3) := cod_of b108 dX7_years_8
theorem t108_8 {d : Nat} {h : Hp} {Q : Pst} {x : Int32} {ls : List Value} {st : List Value} : T d 108 8 ls (.int x :: st) h Q ↔ (if x = 0 then T d 108 21 ls st h Q else T d 108 11 ls st h Q) := T_if_eq c108_8 (by decide)
theorem c108_11 : cod 108 11 = some (.iload_n 2, 1) := cod_of b108 dX7_years_11
theorem t108_11 {d : Nat} {h : Hp} {Q : Pst} {l0 l1 l3 l4 l5 l6 l7 : Value} {x : Int32} {st : List Value} : T d 108 11 [l0, l1, .int x, l3, l4, l5, l6, l7] st h Q ↔ T d 108 12 [l0, l1, .int x, l3, l4, l5, l6, l7] (.int x :: st) h Q := T_iload_n c108_11 rfl
theorem c108_12 : cod 108 12 = some (.iconst 0, 1) := cod_of b108 dX7_years_12
theorem t108_12 {d : Nat} {h : Hp} {Q : Pst} {ls : List Value} {st : List Value} : T d 108 12 ls st h Q ↔ T d 108 13 ls (.int 0 :: st) h Q := T_iconstV c108_12 (by decide)
theorem c108_13 : cod 108 13 = some (.bipush 60, 2) := cod_of b108 dX7_years_13
theorem t108_13 {d : Nat} {h : Hp} {Q : Pst} {ls : List Value} {st : List Value} : T d 108 13 ls st h Q ↔ T d 108 15 ls (.int 60 :: st) h Q := T_bipushV c108_13 (by decide)
theorem c108_15 : cod 108 15 = some (.invokestatic 62, 3) := cod_of b108 dX7_years_15
theorem t108_15 {d : Nat} {h : Hp} {Q : Pst} {a0 a1 a2 : Int32} {ls : List Value} : T (d + 1) 108 15 ls [.int a2, .int a1, .int a0] h Q ↔ T d 118 0 [.int a0, .int a1, .int a2] [] h (fun x h2 => T (d + 1) 108 18 ls (rl x []) h2 Q) := T_staticR (as := [.int a0, .int a1, .int a2]) (r := []) m108 m118 c108_15 k7_62 (Or.inl rfl) rfl (by decide) rfl (by simp [wrd, Value.category]) (by simp [stk, Value.category]) rfl
theorem c108_18 : cod 108 18 = some (.ifCond .ne 10, 3) := cod_of b108 dX7_years_18
theorem t108_18 {d : Nat} {h : Hp} {Q : Pst} {x : Int32} {ls : List Value} {st : List Value} : T d 108 18 ls (.int x :: st) h Q ↔ (if ¬ x = 0 then T d 108 28 ls st h Q else T d 108 21 ls st h Q) := T_if_ne c108_18 (by decide)
theorem c108_28 : cod 108 28 = some (.aload_n 0, 1) := cod_of b108 dX7_years_28
theorem t108_28 {d : Nat} {h : Hp} {Q : Pst} {l1 l2 l3 l4 l5 l6 l7 : Value} {x : Nat} {st : List Value} : T d 108 28 [.ref x, l1, l2, l3, l4, l5, l6, l7] st h Q ↔ T d 108 29 [.ref x, l1, l2, l3, l4, l5, l6, l7] (.ref x :: st) h Q := T_aload_n c108_28 rfl
theorem c108_29 : cod 108 29 = some (.getfield 16, 3) := cod_of b108 dX7_years_29
theorem t108_29 {d : Nat} {h : Hp} {Q : Pst} {a : Nat} {ls : List Value} {st : List Value} : T d 108 29 ls (.ref a :: st) h Q ↔ gF (h.2.2 a) 6 1 (fun v => T d 108 32 ls (v :: st) h Q) := T_getfieldR m108 c108_29 f7_16
theorem c108_32 : cod 108 32 = some (.aload_n 0, 1) := cod_of b108 dX7_years_32
theorem t108_32 {d : Nat} {h : Hp} {Q : Pst} {l1 l2 l3 l4 l5 l6 l7 : Value} {x : Nat} {st : List Value} : T d 108 32 [.ref x, l1, l2, l3, l4, l5, l6, l7] st h Q ↔ T d 108 33 [.ref x, l1, l2, l3, l4, l5, l6, l7] (.ref x :: st) h Q := T_aload_n c108_32 rfl
theorem c108_33 : cod 108 33 = some (.getfield 10, 3) := cod_of b108 dX7_years_33
theorem t108_33 {d : Nat} {h : Hp} {Q : Pst} {a : Nat} {ls : List Value} {st : List Value} : T d 108 33 ls (.ref a :: st) h Q ↔ gF (h.2.2 a) 6 0 (fun v => T d 108 36 ls (v :: st) h Q) := T_getfieldR m108 c108_33 f7_10
theorem c108_36 : cod 108 36 = some (.invokevirtual 102, 3) := cod_of b108 dX7_years_36
theorem t108_36 {d : Nat} {h : Hp} {Q : Pst} {a0 a : Nat} {ls : List Value} (ho : isO (h.2.2 a) 5) : T (d + 1) 108 36 ls [.ref a0, .ref a] h Q ↔ T d 54 0 [.ref a, .ref a0] [] h (fun x h2 => T (d + 1) 108 39 ls (rl x []) h2 Q) := T_virtualR (as := [.ref a0]) (r := []) m108 m54 c108_36 k7_102  rfl (by decide) rfl (by simp [wrd, Value.category]) (by simp [stk, Value.category]) rfl (by decide +kernel) ho
theorem c108_39 : cod 108 39 = some (.aload_n 0, 1) := cod_of b108 dX7_years_39
theorem t108_39 {d : Nat} {h : Hp} {Q : Pst} {l1 l2 l3 l4 l5 l6 l7 : Value} {x : Nat} {st : List Value} : T d 108 39 [.ref x, l1, l2, l3, l4, l5, l6, l7] st h Q ↔ T d 108 40 [.ref x, l1, l2, l3, l4, l5, l6, l7] (.ref x :: st) h Q := T_aload_n c108_39 rfl
theorem c108_40 : cod 108 40 = some (.getfield 16, 3) := cod_of b108 dX7_years_40
theorem t108_40 {d : Nat} {h : Hp} {Q : Pst} {a : Nat} {ls : List Value} {st : List Value} : T d 108 40 ls (.ref a :: st) h Q ↔ gF (h.2.2 a) 6 1 (fun v => T d 108 43 ls (v :: st) h Q) := T_getfieldR m108 c108_40 f7_16
theorem c108_43 : cod 108 43 = some (.iconst 0, 1) := cod_of b108 dX7_years_43
theorem t108_43 {d : Nat} {h : Hp} {Q : Pst} {ls : List Value} {st : List Value} : T d 108 43 ls st h Q ↔ T d 108 44 ls (.int 0 :: st) h Q := T_iconstV c108_43 (by decide)
theorem c108_44 : cod 108 44 = some (.putfield 162, 3) := cod_of b108 dX7_years_44
theorem t108_44 {d : Nat} {h : Hp} {Q : Pst} {a : Nat} {x : Int32} {ls : List Value} {st : List Value} : T d 108 44 ls (.int x :: .ref a :: st) h Q ↔ pF (h.2.2 a) 5 13 (.int x) (fun cell => T d 108 47 ls st (hup h a cell) Q) := T_putfieldR m108 c108_44 f7_162 (by decide +kernel)
theorem c108_47 : cod 108 47 = some (.iload_n 1, 1) := cod_of b108 dX7_years_47
theorem t108_47 {d : Nat} {h : Hp} {Q : Pst} {l0 l2 l3 l4 l5 l6 l7 : Value} {x : Int32} {st : List Value} : T d 108 47 [l0, .int x, l2, l3, l4, l5, l6, l7] st h Q ↔ T d 108 48 [l0, .int x, l2, l3, l4, l5, l6, l7] (.int x :: st) h Q := T_iload_n c108_47 rfl
theorem c108_48 : cod 108 48 = some (.i2l, 1) := cod_of b108 dX7_years_48
theorem t108_48 {d : Nat} {h : Hp} {Q : Pst} {x : Int32} {ls : List Value} {st : List Value} : T d 108 48 ls (.int x :: st) h Q ↔ T d 108 49 ls (.long x.toInt64 :: st) h Q := T_i2l c108_48
theorem c108_49 : cod 108 49 = some (.lstore_n 3, 1) := cod_of b108 dX7_years_49
theorem t108_49 {d : Nat} {h : Hp} {Q : Pst} {l0 l1 l2 l3 l4 l5 l6 l7 : Value} {x : Int64} {st : List Value} : T d 108 49 [l0, l1, l2, l3, l4, l5, l6, l7] (.long x :: st) h Q ↔ T d 108 50 [l0, l1, kil l2, .long x, un, l5, l6, l7] st h Q := T_lstore_n c108_49 (Nat.le_of_ble_eq_true rfl)
theorem c108_50 : cod 108 50 = some (.iconst 0, 1) := cod_of b108 dX7_years_50
theorem t108_50 {d : Nat} {h : Hp} {Q : Pst} {ls : List Value} {st : List Value} : T d 108 50 ls st h Q ↔ T d 108 51 ls (.int 0 :: st) h Q := T_iconstV c108_50 (by decide)
theorem c108_51 : cod 108 51 = some (.istore 5, 2) := cod_of b108 dX7_years_51
theorem t108_51 {d : Nat} {h : Hp} {Q : Pst} {l0 l1 l2 l3 l4 l5 l6 l7 : Value} {x : Int32} {st : List Value} : T d 108 51 [l0, l1, l2, l3, l4, l5, l6, l7] (.int x :: st) h Q ↔ T d 108 53 [l0, l1, l2, l3, kil l4, .int x, l6, l7] st h Q := T_istore c108_51 (Nat.le_of_ble_eq_true rfl)
theorem c108_53 : cod 108 53 = some (.iload 5, 2) := cod_of b108 dX7_years_53
theorem t108_53 {d : Nat} {h : Hp} {Q : Pst} {l0 l1 l2 l3 l4 l6 l7 : Value} {x : Int32} {st : List Value} : T d 108 53 [l0, l1, l2, l3, l4, .int x, l6, l7] st h Q ↔ T d 108 55 [l0, l1, l2, l3, l4, .int x, l6, l7] (.int x :: st) h Q := T_iload c108_53 rfl
theorem c108_55 : cod 108 55 = some (.iload_n 2, 1) := cod_of b108 dX7_years_55
theorem t108_55 {d : Nat} {h : Hp} {Q : Pst} {l0 l1 l3 l4 l5 l6 l7 : Value} {x : Int32} {st : List Value} : T d 108 55 [l0, l1, .int x, l3, l4, l5, l6, l7] st h Q ↔ T d 108 56 [l0, l1, .int x, l3, l4, l5, l6, l7] (.int x :: st) h Q := T_iload_n c108_55 rfl
theorem c108_56 : cod 108 56 = some (.if_icmp .ge 97, 3) := cod_of b108 dX7_years_56
theorem t108_56 {d : Nat} {h : Hp} {Q : Pst} {x y : Int32} {ls : List Value} {st : List Value} : T d 108 56 ls (.int y :: .int x :: st) h Q ↔ (if y ≤ x then T d 108 153 ls st h Q else T d 108 59 ls st h Q) := T_icmp_ge c108_56 (by decide)
theorem c108_59 : cod 108 59 = some (.lload_n 3, 1) := cod_of b108 dX7_years_59
theorem t108_59 {d : Nat} {h : Hp} {Q : Pst} {l0 l1 l2 l4 l5 l6 l7 : Value} {x : Int64} {st : List Value} : T d 108 59 [l0, l1, l2, .long x, l4, l5, l6, l7] st h Q ↔ T d 108 60 [l0, l1, l2, .long x, l4, l5, l6, l7] (.long x :: st) h Q := T_lload_n c108_59 rfl
theorem c108_60 : cod 108 60 = some (.ldc2_w 284, 3) := cod_of b108 dX7_years_60
theorem t108_60 {d : Nat} {h : Hp} {Q : Pst} {ls : List Value} {st : List Value} : T d 108 60 ls st h Q ↔ T d 108 63 ls (.long 1103515245 :: st) h Q := T_ldc2_wR m108 c108_60 (by decide +kernel)
theorem c108_63 : cod 108 63 = some (.lmul, 1) := cod_of b108 dX7_years_63
theorem t108_63 {d : Nat} {h : Hp} {Q : Pst} {x y : Int64} {ls : List Value} {st : List Value} : T d 108 63 ls (.long y :: .long x :: st) h Q ↔ T d 108 64 ls (.long (x * y) :: st) h Q := T_lmul c108_63
theorem c108_64 : cod 108 64 = some (.ldc2_w 286, 3) := cod_of b108 dX7_years_64
theorem t108_64 {d : Nat} {h : Hp} {Q : Pst} {ls : List Value} {st : List Value} : T d 108 64 ls st h Q ↔ T d 108 67 ls (.long 12345 :: st) h Q := T_ldc2_wR m108 c108_64 (by decide +kernel)
theorem c108_67 : cod 108 67 = some (.ladd, 1) := cod_of b108 dX7_years_67
theorem t108_67 {d : Nat} {h : Hp} {Q : Pst} {x y : Int64} {ls : List Value} {st : List Value} : T d 108 67 ls (.long y :: .long x :: st) h Q ↔ T d 108 68 ls (.long (x + y) :: st) h Q := T_ladd c108_67
theorem c108_68 : cod 108 68 = some (.ldc2_w 288, 3) := cod_of b108 dX7_years_68
theorem t108_68 {d : Nat} {h : Hp} {Q : Pst} {ls : List Value} {st : List Value} : T d 108 68 ls st h Q ↔ T d 108 71 ls (.long 2147483648 :: st) h Q := T_ldc2_wR m108 c108_68 (by decide +kernel)
theorem c108_71 : cod 108 71 = some (.lrem, 1) := cod_of b108 dX7_years_71
theorem t108_71 {d : Nat} {h : Hp} {Q : Pst} {x y : Int64} {ls : List Value} {st : List Value} : T d 108 71 ls (.long y :: .long x :: st) h Q ↔ (¬ y = 0 ∧ T d 108 72 ls (.long (x - x / y * y) :: st) h Q) := T_lrem c108_71
theorem c108_72 : cod 108 72 = some (.lstore_n 3, 1) := cod_of b108 dX7_years_72
theorem t108_72 {d : Nat} {h : Hp} {Q : Pst} {l0 l1 l2 l3 l4 l5 l6 l7 : Value} {x : Int64} {st : List Value} : T d 108 72 [l0, l1, l2, l3, l4, l5, l6, l7] (.long x :: st) h Q ↔ T d 108 73 [l0, l1, kil l2, .long x, un, l5, l6, l7] st h Q := T_lstore_n c108_72 (Nat.le_of_ble_eq_true rfl)
theorem c108_73 : cod 108 73 = some (.lload_n 3, 1) := cod_of b108 dX7_years_73
theorem t108_73 {d : Nat} {h : Hp} {Q : Pst} {l0 l1 l2 l4 l5 l6 l7 : Value} {x : Int64} {st : List Value} : T d 108 73 [l0, l1, l2, .long x, l4, l5, l6, l7] st h Q ↔ T d 108 74 [l0, l1, l2, .long x, l4, l5, l6, l7] (.long x :: st) h Q := T_lload_n c108_73 rfl
theorem c108_74 : cod 108 74 = some (.ldc2_w 290, 3) := cod_of b108 dX7_years_74
theorem t108_74 {d : Nat} {h : Hp} {Q : Pst} {ls : List Value} {st : List Value} : T d 108 74 ls st h Q ↔ T d 108 77 ls (.long 65536 :: st) h Q := T_ldc2_wR m108 c108_74 (by decide +kernel)
theorem c108_77 : cod 108 77 = some (.ldiv, 1) := cod_of b108 dX7_years_77
theorem t108_77 {d : Nat} {h : Hp} {Q : Pst} {x y : Int64} {ls : List Value} {st : List Value} : T d 108 77 ls (.long y :: .long x :: st) h Q ↔ (¬ y = 0 ∧ T d 108 78 ls (.long (x / y) :: st) h Q) := T_ldiv c108_77
theorem c108_78 : cod 108 78 = some (.ldc2_w 292, 3) := cod_of b108 dX7_years_78
theorem t108_78 {d : Nat} {h : Hp} {Q : Pst} {ls : List Value} {st : List Value} : T d 108 78 ls st h Q ↔ T d 108 81 ls (.long 6 :: st) h Q := T_ldc2_wR m108 c108_78 (by decide +kernel)
theorem c108_81 : cod 108 81 = some (.lrem, 1) := cod_of b108 dX7_years_81
theorem t108_81 {d : Nat} {h : Hp} {Q : Pst} {x y : Int64} {ls : List Value} {st : List Value} : T d 108 81 ls (.long y :: .long x :: st) h Q ↔ (¬ y = 0 ∧ T d 108 82 ls (.long (x - x / y * y) :: st) h Q) := T_lrem c108_81
theorem c108_82 : cod 108 82 = some (.l2i, 1) := cod_of b108 dX7_years_82
theorem t108_82 {d : Nat} {h : Hp} {Q : Pst} {x : Int64} {ls : List Value} {st : List Value} : T d 108 82 ls (.long x :: st) h Q ↔ T d 108 83 ls (.int x.toInt32 :: st) h Q := T_l2i c108_82
theorem c108_83 : cod 108 83 = some (.istore 6, 2) := cod_of b108 dX7_years_83
theorem t108_83 {d : Nat} {h : Hp} {Q : Pst} {l0 l1 l2 l3 l4 l5 l6 l7 : Value} {x : Int32} {st : List Value} : T d 108 83 [l0, l1, l2, l3, l4, l5, l6, l7] (.int x :: st) h Q ↔ T d 108 85 [l0, l1, l2, l3, l4, kil l5, .int x, l7] st h Q := T_istore c108_83 (Nat.le_of_ble_eq_true rfl)
theorem c108_85 : cod 108 85 = some (.lload_n 3, 1) := cod_of b108 dX7_years_85
theorem t108_85 {d : Nat} {h : Hp} {Q : Pst} {l0 l1 l2 l4 l5 l6 l7 : Value} {x : Int64} {st : List Value} : T d 108 85 [l0, l1, l2, .long x, l4, l5, l6, l7] st h Q ↔ T d 108 86 [l0, l1, l2, .long x, l4, l5, l6, l7] (.long x :: st) h Q := T_lload_n c108_85 rfl
theorem c108_86 : cod 108 86 = some (.ldc2_w 294, 3) := cod_of b108 dX7_years_86
theorem t108_86 {d : Nat} {h : Hp} {Q : Pst} {ls : List Value} {st : List Value} : T d 108 86 ls st h Q ↔ T d 108 89 ls (.long 1048576 :: st) h Q := T_ldc2_wR m108 c108_86 (by decide +kernel)
theorem c108_89 : cod 108 89 = some (.ldiv, 1) := cod_of b108 dX7_years_89
theorem t108_89 {d : Nat} {h : Hp} {Q : Pst} {x y : Int64} {ls : List Value} {st : List Value} : T d 108 89 ls (.long y :: .long x :: st) h Q ↔ (¬ y = 0 ∧ T d 108 90 ls (.long (x / y) :: st) h Q) := T_ldiv c108_89
theorem c108_90 : cod 108 90 = some (.ldc2_w 296, 3) := cod_of b108 dX7_years_90
theorem t108_90 {d : Nat} {h : Hp} {Q : Pst} {ls : List Value} {st : List Value} : T d 108 90 ls st h Q ↔ T d 108 93 ls (.long 4 :: st) h Q := T_ldc2_wR m108 c108_90 (by decide +kernel)
theorem c108_93 : cod 108 93 = some (.lrem, 1) := cod_of b108 dX7_years_93
theorem t108_93 {d : Nat} {h : Hp} {Q : Pst} {x y : Int64} {ls : List Value} {st : List Value} : T d 108 93 ls (.long y :: .long x :: st) h Q ↔ (¬ y = 0 ∧ T d 108 94 ls (.long (x - x / y * y) :: st) h Q) := T_lrem c108_93
theorem c108_94 : cod 108 94 = some (.l2i, 1) := cod_of b108 dX7_years_94
theorem t108_94 {d : Nat} {h : Hp} {Q : Pst} {x : Int64} {ls : List Value} {st : List Value} : T d 108 94 ls (.long x :: st) h Q ↔ T d 108 95 ls (.int x.toInt32 :: st) h Q := T_l2i c108_94
theorem c108_95 : cod 108 95 = some (.istore 7, 2) := cod_of b108 dX7_years_95
theorem t108_95 {d : Nat} {h : Hp} {Q : Pst} {l0 l1 l2 l3 l4 l5 l6 l7 : Value} {x : Int32} {st : List Value} : T d 108 95 [l0, l1, l2, l3, l4, l5, l6, l7] (.int x :: st) h Q ↔ T d 108 97 [l0, l1, l2, l3, l4, l5, kil l6, .int x] st h Q := T_istore c108_95 (Nat.le_of_ble_eq_true rfl)
theorem c108_97 : cod 108 97 = some (.aload_n 0, 1) := cod_of b108 dX7_years_97
theorem t108_97 {d : Nat} {h : Hp} {Q : Pst} {l1 l2 l3 l4 l5 l6 l7 : Value} {x : Nat} {st : List Value} : T d 108 97 [.ref x, l1, l2, l3, l4, l5, l6, l7] st h Q ↔ T d 108 98 [.ref x, l1, l2, l3, l4, l5, l6, l7] (.ref x :: st) h Q := T_aload_n c108_97 rfl
theorem c108_98 : cod 108 98 = some (.getfield 16, 3) := cod_of b108 dX7_years_98
theorem t108_98 {d : Nat} {h : Hp} {Q : Pst} {a : Nat} {ls : List Value} {st : List Value} : T d 108 98 ls (.ref a :: st) h Q ↔ gF (h.2.2 a) 6 1 (fun v => T d 108 101 ls (v :: st) h Q) := T_getfieldR m108 c108_98 f7_16
theorem c108_101 : cod 108 101 = some (.iload 6, 2) := cod_of b108 dX7_years_101
theorem t108_101 {d : Nat} {h : Hp} {Q : Pst} {l0 l1 l2 l3 l4 l5 l7 : Value} {x : Int32} {st : List Value} : T d 108 101 [l0, l1, l2, l3, l4, l5, .int x, l7] st h Q ↔ T d 108 103 [l0, l1, l2, l3, l4, l5, .int x, l7] (.int x :: st) h Q := T_iload c108_101 rfl
theorem c108_103 : cod 108 103 = some (.invokevirtual 116, 3) := cod_of b108 dX7_years_103
theorem t108_103 {d : Nat} {h : Hp} {Q : Pst} {a0 : Int32} {a : Nat} {ls : List Value} (ho : isO (h.2.2 a) 5) : T (d + 1) 108 103 ls [.int a0, .ref a] h Q ↔ T d 55 0 [.ref a, .int a0] [] h (fun x h2 => T (d + 1) 108 106 ls (rl x []) h2 Q) := T_virtualR (as := [.int a0]) (r := []) m108 m55 c108_103 k7_116  rfl (by decide) rfl (by simp [wrd, Value.category]) (by simp [stk, Value.category]) rfl (by decide +kernel) ho
theorem c108_106 : cod 108 106 = some (.ifCond .eq 33, 3) := cod_of b108 dX7_years_106
theorem t108_106 {d : Nat} {h : Hp} {Q : Pst} {x : Int32} {ls : List Value} {st : List Value} : T d 108 106 ls (.int x :: st) h Q ↔ (if x = 0 then T d 108 139 ls st h Q else T d 108 109 ls st h Q) := T_if_eq c108_106 (by decide)
theorem c108_109 : cod 108 109 = some (.aload_n 0, 1) := cod_of b108 dX7_years_109
theorem t108_109 {d : Nat} {h : Hp} {Q : Pst} {l1 l2 l3 l4 l5 l6 l7 : Value} {x : Nat} {st : List Value} : T d 108 109 [.ref x, l1, l2, l3, l4, l5, l6, l7] st h Q ↔ T d 108 110 [.ref x, l1, l2, l3, l4, l5, l6, l7] (.ref x :: st) h Q := T_aload_n c108_109 rfl
theorem c108_110 : cod 108 110 = some (.getfield 16, 3) := cod_of b108 dX7_years_110
theorem t108_110 {d : Nat} {h : Hp} {Q : Pst} {a : Nat} {ls : List Value} {st : List Value} : T d 108 110 ls (.ref a :: st) h Q ↔ gF (h.2.2 a) 6 1 (fun v => T d 108 113 ls (v :: st) h Q) := T_getfieldR m108 c108_110 f7_16
theorem c108_113 : cod 108 113 = some (.getfield 123, 3) := cod_of b108 dX7_years_113
theorem t108_113 {d : Nat} {h : Hp} {Q : Pst} {a : Nat} {ls : List Value} {st : List Value} : T d 108 113 ls (.ref a :: st) h Q ↔ gF (h.2.2 a) 5 2 (fun v => T d 108 116 ls (v :: st) h Q) := T_getfieldR m108 c108_113 f7_123
theorem c108_116 : cod 108 116 = some (.iload 6, 2) := cod_of b108 dX7_years_116
theorem t108_116 {d : Nat} {h : Hp} {Q : Pst} {l0 l1 l2 l3 l4 l5 l7 : Value} {x : Int32} {st : List Value} : T d 108 116 [l0, l1, l2, l3, l4, l5, .int x, l7] st h Q ↔ T d 108 118 [l0, l1, l2, l3, l4, l5, .int x, l7] (.int x :: st) h Q := T_iload c108_116 rfl
theorem c108_118 : cod 108 118 = some (.aload_n 0, 1) := cod_of b108 dX7_years_118
theorem t108_118 {d : Nat} {h : Hp} {Q : Pst} {l1 l2 l3 l4 l5 l6 l7 : Value} {x : Nat} {st : List Value} : T d 108 118 [.ref x, l1, l2, l3, l4, l5, l6, l7] st h Q ↔ T d 108 119 [.ref x, l1, l2, l3, l4, l5, l6, l7] (.ref x :: st) h Q := T_aload_n c108_118 rfl
theorem c108_119 : cod 108 119 = some (.getfield 16, 3) := cod_of b108 dX7_years_119
theorem t108_119 {d : Nat} {h : Hp} {Q : Pst} {a : Nat} {ls : List Value} {st : List Value} : T d 108 119 ls (.ref a :: st) h Q ↔ gF (h.2.2 a) 6 1 (fun v => T d 108 122 ls (v :: st) h Q) := T_getfieldR m108 c108_119 f7_16
theorem c108_122 : cod 108 122 = some (.iload 7, 2) := cod_of b108 dX7_years_122
theorem t108_122 {d : Nat} {h : Hp} {Q : Pst} {l0 l1 l2 l3 l4 l5 l6 : Value} {x : Int32} {st : List Value} : T d 108 122 [l0, l1, l2, l3, l4, l5, l6, .int x] st h Q ↔ T d 108 124 [l0, l1, l2, l3, l4, l5, l6, .int x] (.int x :: st) h Q := T_iload c108_122 rfl
theorem c108_124 : cod 108 124 = some (.invokevirtual 120, 3) := cod_of b108 dX7_years_124
theorem t108_124 {d : Nat} {h : Hp} {Q : Pst} {a0 s0 : Int32} {s1 a : Nat} {ls : List Value} (ho : isO (h.2.2 a) 5) : T (d + 1) 108 124 ls [.int a0, .ref a, .int s0, .ref s1] h Q ↔ T d 56 0 [.ref a, .int a0] [] h (fun x h2 => T (d + 1) 108 127 ls (rl x [.int s0, .ref s1]) h2 Q) := T_virtualR (as := [.int a0]) (r := [.int s0, .ref s1]) m108 m56 c108_124 k7_120  rfl (by decide) rfl (by simp [wrd, Value.category]) (by simp [stk, Value.category]) rfl (by decide +kernel) ho
theorem c108_127 : cod 108 127 = some (.ifCond .eq 8, 3) := cod_of b108 dX7_years_127
theorem t108_127 {d : Nat} {h : Hp} {Q : Pst} {x : Int32} {ls : List Value} {st : List Value} : T d 108 127 ls (.int x :: st) h Q ↔ (if x = 0 then T d 108 135 ls st h Q else T d 108 130 ls st h Q) := T_if_eq c108_127 (by decide)
theorem c108_130 : cod 108 130 = some (.iload 7, 2) := cod_of b108 dX7_years_130
theorem t108_130 {d : Nat} {h : Hp} {Q : Pst} {l0 l1 l2 l3 l4 l5 l6 : Value} {x : Int32} {st : List Value} : T d 108 130 [l0, l1, l2, l3, l4, l5, l6, .int x] st h Q ↔ T d 108 132 [l0, l1, l2, l3, l4, l5, l6, .int x] (.int x :: st) h Q := T_iload c108_130 rfl
theorem c108_132 : cod 108 132 = some (.goto 4, 3) := cod_of b108 dX7_years_132
theorem t108_132 {d : Nat} {h : Hp} {Q : Pst} {ls : List Value} {st : List Value} : T d 108 132 ls st h Q ↔ T d 108 136 ls st h Q := T_goto c108_132 (by decide)
theorem c108_136 : cod 108 136 = some (.invokestatic 133, 3) := cod_of b108 dX7_years_136
theorem t108_136 {d : Nat} {h : Hp} {Q : Pst} {a0 : Nat} {a1 a2 : Int32} {ls : List Value} : T (d + 1) 108 136 ls [.int a2, .int a1, .ref a0] h Q ↔ T d 123 0 [.ref a0, .int a1, .int a2] [] h (fun x h2 => T (d + 1) 108 139 ls (rl x []) h2 Q) := T_staticR (as := [.ref a0, .int a1, .int a2]) (r := []) m108 m123 c108_136 k7_133 (Or.inl rfl) rfl (by decide) rfl (by simp [wrd, Value.category]) (by simp [stk, Value.category]) rfl
theorem c108_135 : cod 108 135 = some (.iconst (-1), 1) := cod_of b108 dX7_years_135
theorem t108_135 {d : Nat} {h : Hp} {Q : Pst} {ls : List Value} {st : List Value} : T d 108 135 ls st h Q ↔ T d 108 136 ls (.int (-1) :: st) h Q := T_iconstV c108_135 (by decide)
theorem c108_139 : cod 108 139 = some (.aload_n 0, 1) := cod_of b108 dX7_years_139
theorem t108_139 {d : Nat} {h : Hp} {Q : Pst} {l1 l2 l3 l4 l5 l6 l7 : Value} {x : Nat} {st : List Value} : T d 108 139 [.ref x, l1, l2, l3, l4, l5, l6, l7] st h Q ↔ T d 108 140 [.ref x, l1, l2, l3, l4, l5, l6, l7] (.ref x :: st) h Q := T_aload_n c108_139 rfl
theorem c108_140 : cod 108 140 = some (.getfield 16, 3) := cod_of b108 dX7_years_140
theorem t108_140 {d : Nat} {h : Hp} {Q : Pst} {a : Nat} {ls : List Value} {st : List Value} : T d 108 140 ls (.ref a :: st) h Q ↔ gF (h.2.2 a) 6 1 (fun v => T d 108 143 ls (v :: st) h Q) := T_getfieldR m108 c108_140 f7_16
theorem c108_143 : cod 108 143 = some (.iconst 1, 1) := cod_of b108 dX7_years_143
theorem t108_143 {d : Nat} {h : Hp} {Q : Pst} {ls : List Value} {st : List Value} : T d 108 143 ls st h Q ↔ T d 108 144 ls (.int 1 :: st) h Q := T_iconstV c108_143 (by decide)
theorem c108_144 : cod 108 144 = some (.invokevirtual 143, 3) := cod_of b108 dX7_years_144
theorem t108_144 {d : Nat} {h : Hp} {Q : Pst} {a0 : Int32} {a : Nat} {ls : List Value} (ho : isO (h.2.2 a) 5) : T (d + 1) 108 144 ls [.int a0, .ref a] h Q ↔ T d 71 0 [.ref a, .int a0, un, un] [] h (fun x h2 => T (d + 1) 108 147 ls (rl x []) h2 Q) := T_virtualR (as := [.int a0]) (r := []) m108 m71 c108_144 k7_143  rfl (by decide) rfl (by simp [wrd, Value.category]) (by simp [stk, Value.category]) rfl (by decide +kernel) ho
theorem c108_147 : cod 108 147 = some (.iinc 5 1, 3) := cod_of b108 dX7_years_147
theorem t108_147 {d : Nat} {h : Hp} {Q : Pst} {l0 l1 l2 l3 l4 l6 l7 : Value} {x : Int32} {st : List Value} : T d 108 147 [l0, l1, l2, l3, l4, .int x, l6, l7] st h Q ↔ T d 108 150 [l0, l1, l2, l3, kil l4, .int (x + 1), l6, l7] st h Q := T_iincV c108_147 rfl (Nat.le_of_ble_eq_true rfl) (by decide) rfl
theorem c108_150 : cod 108 150 = some (.goto (-97), 3) := cod_of b108 dX7_years_150
theorem t108_150 {d : Nat} {h : Hp} {Q : Pst} {ls : List Value} {st : List Value} : T d 108 150 ls st h Q ↔ T d 108 53 ls st h Q := T_goto c108_150 (by decide)
theorem c108_153 : cod 108 153 = some (.aload_n 0, 1) := cod_of b108 dX7_years_153
theorem t108_153 {d : Nat} {h : Hp} {Q : Pst} {l1 l2 l3 l4 l5 l6 l7 : Value} {x : Nat} {st : List Value} : T d 108 153 [.ref x, l1, l2, l3, l4, l5, l6, l7] st h Q ↔ T d 108 154 [.ref x, l1, l2, l3, l4, l5, l6, l7] (.ref x :: st) h Q := T_aload_n c108_153 rfl
theorem c108_154 : cod 108 154 = some (.getfield 16, 3) := cod_of b108 dX7_years_154
theorem t108_154 {d : Nat} {h : Hp} {Q : Pst} {a : Nat} {ls : List Value} {st : List Value} : T d 108 154 ls (.ref a :: st) h Q ↔ gF (h.2.2 a) 6 1 (fun v => T d 108 157 ls (v :: st) h Q) := T_getfieldR m108 c108_154 f7_16
theorem c108_157 : cod 108 157 = some (.invokevirtual 146, 3) := cod_of b108 dX7_years_157
theorem t108_157 {d : Nat} {h : Hp} {Q : Pst} {a : Nat} {ls : List Value} (ho : isO (h.2.2 a) 5) : T (d + 1) 108 157 ls [.ref a] h Q ↔ T d 60 0 [.ref a, un, un] [] h (fun x h2 => T (d + 1) 108 160 ls (rl x []) h2 Q) := T_virtualR (as := []) (r := []) m108 m60 c108_157 k7_146  rfl (by decide) rfl (by simp [wrd, Value.category]) (by simp [stk, Value.category]) rfl (by decide +kernel) ho
theorem c108_160 : cod 108 160 = some (.ireturn, 1) := cod_of b108 dX7_years_160
theorem t108_160 {d : Nat} {h : Hp} {Q : Pst} {x : Int32} {ls : List Value} : T d 108 160 ls [.int x] h Q ↔ Q (some (.int x)) h := T_iretR m108 c108_160 rfl
theorem c108_21 : cod 108 21 = some (.aload_n 0, 1) := cod_of b108 dX7_years_21
theorem t108_21 {d : Nat} {h : Hp} {Q : Pst} {l1 l2 l3 l4 l5 l6 l7 : Value} {x : Nat} {st : List Value} : T d 108 21 [.ref x, l1, l2, l3, l4, l5, l6, l7] st h Q ↔ T d 108 22 [.ref x, l1, l2, l3, l4, l5, l6, l7] (.ref x :: st) h Q := T_aload_n c108_21 rfl
theorem c108_22 : cod 108 22 = some (.bipush (-2), 2) := cod_of b108 dX7_years_22
theorem t108_22 {d : Nat} {h : Hp} {Q : Pst} {ls : List Value} {st : List Value} : T d 108 22 ls st h Q ↔ T d 108 24 ls (.int (-2) :: st) h Q := T_bipushV c108_22 (by decide)
theorem c108_24 : cod 108 24 = some (.invokevirtual 66, 3) := cod_of b108 dX7_years_24
theorem t108_24 {d : Nat} {h : Hp} {Q : Pst} {a0 : Int32} {a : Nat} {ls : List Value} (ho : isO (h.2.2 a) 6) : T (d + 1) 108 24 ls [.int a0, .ref a] h Q ↔ T d 116 0 [.ref a, .int a0, un] [] h (fun x h2 => T (d + 1) 108 27 ls (rl x []) h2 Q) := T_virtualR (as := [.int a0]) (r := []) m108 m116 c108_24 k7_66  rfl (by decide) rfl (by simp [wrd, Value.category]) (by simp [stk, Value.category]) rfl (by decide +kernel) ho
theorem c108_27 : cod 108 27 = some (.ireturn, 1) := cod_of b108 dX7_years_27
theorem t108_27 {d : Nat} {h : Hp} {Q : Pst} {x : Int32} {ls : List Value} : T d 108 27 ls [.int x] h Q ↔ Q (some (.int x)) h := T_iretR m108 c108_27 rfl
theorem b109 : (mR 109).2.2.1 = cX7_part := by rw [m109]
theorem c109_0 : cod 109 0 = some (.iload_n 1, 1) := cod_of b109 dX7_part_0
theorem t109_0 {d : Nat} {h : Hp} {Q : Pst} {l0 : Value} {x : Int32} {st : List Value} : T d 109 0 [l0, .int x] st h Q ↔ T d 109 1 [l0, .int x] (.int x :: st) h Q := T_iload_n c109_0 rfl
theorem c109_1 : cod 109 1 = some (.iconst 0, 1) := cod_of b109 dX7_part_1
theorem t109_1 {d : Nat} {h : Hp} {Q : Pst} {ls : List Value} {st : List Value} : T d 109 1 ls st h Q ↔ T d 109 2 ls (.int 0 :: st) h Q := T_iconstV c109_1 (by decide)
theorem c109_2 : cod 109 2 = some (.iconst 1, 1) := cod_of b109 dX7_part_2
theorem t109_2 {d : Nat} {h : Hp} {Q : Pst} {ls : List Value} {st : List Value} : T d 109 2 ls st h Q ↔ T d 109 3 ls (.int 1 :: st) h Q := T_iconstV c109_2 (by decide)
theorem c109_3 : cod 109 3 = some (.invokestatic 62, 3) := cod_of b109 dX7_part_3
theorem t109_3 {d : Nat} {h : Hp} {Q : Pst} {a0 a1 a2 : Int32} {ls : List Value} : T (d + 1) 109 3 ls [.int a2, .int a1, .int a0] h Q ↔ T d 118 0 [.int a0, .int a1, .int a2] [] h (fun x h2 => T (d + 1) 109 6 ls (rl x []) h2 Q) := T_staticR (as := [.int a0, .int a1, .int a2]) (r := []) m109 m118 c109_3 k7_62 (Or.inl rfl) rfl (by decide) rfl (by simp [wrd, Value.category]) (by simp [stk, Value.category]) rfl
theorem c109_6 : cod 109 6 = some (.ifCond .ne 11, 3) := cod_of b109 dX7_part_6
theorem t109_6 {d : Nat} {h : Hp} {Q : Pst} {x : Int32} {ls : List Value} {st : List Value} : T d 109 6 ls (.int x :: st) h Q ↔ (if ¬ x = 0 then T d 109 17 ls st h Q else T d 109 9 ls st h Q) := T_if_ne c109_6 (by decide)
theorem c109_9 : cod 109 9 = some (.aload_n 0, 1) := cod_of b109 dX7_part_9
theorem t109_9 {d : Nat} {h : Hp} {Q : Pst} {l1 : Value} {x : Nat} {st : List Value} : T d 109 9 [.ref x, l1] st h Q ↔ T d 109 10 [.ref x, l1] (.ref x :: st) h Q := T_aload_n c109_9 rfl
theorem c109_10 : cod 109 10 = some (.bipush (-2), 2) := cod_of b109 dX7_part_10
theorem t109_10 {d : Nat} {h : Hp} {Q : Pst} {ls : List Value} {st : List Value} : T d 109 10 ls st h Q ↔ T d 109 12 ls (.int (-2) :: st) h Q := T_bipushV c109_10 (by decide)
theorem c109_12 : cod 109 12 = some (.invokevirtual 66, 3) := cod_of b109 dX7_part_12
theorem t109_12 {d : Nat} {h : Hp} {Q : Pst} {a0 : Int32} {a : Nat} {ls : List Value} (ho : isO (h.2.2 a) 6) : T (d + 1) 109 12 ls [.int a0, .ref a] h Q ↔ T d 116 0 [.ref a, .int a0, un] [] h (fun x h2 => T (d + 1) 109 15 ls (rl x []) h2 Q) := T_virtualR (as := [.int a0]) (r := []) m109 m116 c109_12 k7_66  rfl (by decide) rfl (by simp [wrd, Value.category]) (by simp [stk, Value.category]) rfl (by decide +kernel) ho
theorem c109_15 : cod 109 15 = some (.i2l, 1) := cod_of b109 dX7_part_15
theorem t109_15 {d : Nat} {h : Hp} {Q : Pst} {x : Int32} {ls : List Value} {st : List Value} : T d 109 15 ls (.int x :: st) h Q ↔ T d 109 16 ls (.long x.toInt64 :: st) h Q := T_i2l c109_15
theorem c109_16 : cod 109 16 = some (.lreturn, 1) := cod_of b109 dX7_part_16
theorem t109_16 {d : Nat} {h : Hp} {Q : Pst} {x : Int64} {ls : List Value} : T d 109 16 ls [.long x] h Q ↔ Q (some (.long x)) h := T_lretR m109 c109_16 rfl
theorem c109_17 : cod 109 17 = some (.iload_n 1, 1) := cod_of b109 dX7_part_17
theorem t109_17 {d : Nat} {h : Hp} {Q : Pst} {l0 : Value} {x : Int32} {st : List Value} : T d 109 17 [l0, .int x] st h Q ↔ T d 109 18 [l0, .int x] (.int x :: st) h Q := T_iload_n c109_17 rfl
theorem c109_18 : cod 109 18 = some (.ifCond .ne 11, 3) := cod_of b109 dX7_part_18
theorem t109_18 {d : Nat} {h : Hp} {Q : Pst} {x : Int32} {ls : List Value} {st : List Value} : T d 109 18 ls (.int x :: st) h Q ↔ (if ¬ x = 0 then T d 109 29 ls st h Q else T d 109 21 ls st h Q) := T_if_ne c109_18 (by decide)
theorem c109_21 : cod 109 21 = some (.aload_n 0, 1) := cod_of b109 dX7_part_21
theorem t109_21 {d : Nat} {h : Hp} {Q : Pst} {l1 : Value} {x : Nat} {st : List Value} : T d 109 21 [.ref x, l1] st h Q ↔ T d 109 22 [.ref x, l1] (.ref x :: st) h Q := T_aload_n c109_21 rfl
theorem c109_22 : cod 109 22 = some (.getfield 55, 3) := cod_of b109 dX7_part_22
theorem t109_22 {d : Nat} {h : Hp} {Q : Pst} {a : Nat} {ls : List Value} {st : List Value} : T d 109 22 ls (.ref a :: st) h Q ↔ gF (h.2.2 a) 6 8 (fun v => T d 109 25 ls (v :: st) h Q) := T_getfieldR m109 c109_22 f7_55
theorem c109_25 : cod 109 25 = some (.i2l, 1) := cod_of b109 dX7_part_25
theorem t109_25 {d : Nat} {h : Hp} {Q : Pst} {x : Int32} {ls : List Value} {st : List Value} : T d 109 25 ls (.int x :: st) h Q ↔ T d 109 26 ls (.long x.toInt64 :: st) h Q := T_i2l c109_25
theorem c109_26 : cod 109 26 = some (.goto 8, 3) := cod_of b109 dX7_part_26
theorem t109_26 {d : Nat} {h : Hp} {Q : Pst} {ls : List Value} {st : List Value} : T d 109 26 ls st h Q ↔ T d 109 34 ls st h Q := T_goto c109_26 (by decide)
theorem c109_34 : cod 109 34 = some (.lreturn, 1) := cod_of b109 dX7_part_34
theorem t109_34 {d : Nat} {h : Hp} {Q : Pst} {x : Int64} {ls : List Value} : T d 109 34 ls [.long x] h Q ↔ Q (some (.long x)) h := T_lretR m109 c109_34 rfl
theorem c109_29 : cod 109 29 = some (.aload_n 0, 1) := cod_of b109 dX7_part_29
theorem t109_29 {d : Nat} {h : Hp} {Q : Pst} {l1 : Value} {x : Nat} {st : List Value} : T d 109 29 [.ref x, l1] st h Q ↔ T d 109 30 [.ref x, l1] (.ref x :: st) h Q := T_aload_n c109_29 rfl
theorem c109_30 : cod 109 30 = some (.getfield 59, 3) := cod_of b109 dX7_part_30
theorem t109_30 {d : Nat} {h : Hp} {Q : Pst} {a : Nat} {ls : List Value} {st : List Value} : T d 109 30 ls (.ref a :: st) h Q ↔ gF (h.2.2 a) 6 9 (fun v => T d 109 33 ls (v :: st) h Q) := T_getfieldR m109 c109_30 f7_59
theorem c109_33 : cod 109 33 = some (.i2l, 1) := cod_of b109 dX7_part_33
theorem t109_33 {d : Nat} {h : Hp} {Q : Pst} {x : Int32} {ls : List Value} {st : List Value} : T d 109 33 ls (.int x :: st) h Q ↔ T d 109 34 ls (.long x.toInt64 :: st) h Q := T_i2l c109_33
theorem b110 : (mR 110).2.2.1 = cX7_image := by rw [m110]
theorem c110_0 : cod 110 0 = some (.iload_n 1, 1) := cod_of b110 dX7_image_0
theorem t110_0 {d : Nat} {h : Hp} {Q : Pst} {l0 : Value} {x : Int32} {st : List Value} : T d 110 0 [l0, .int x] st h Q ↔ T d 110 1 [l0, .int x] (.int x :: st) h Q := T_iload_n c110_0 rfl
theorem c110_1 : cod 110 1 = some (.iconst 0, 1) := cod_of b110 dX7_image_1
theorem t110_1 {d : Nat} {h : Hp} {Q : Pst} {ls : List Value} {st : List Value} : T d 110 1 ls st h Q ↔ T d 110 2 ls (.int 0 :: st) h Q := T_iconstV c110_1 (by decide)
theorem c110_2 : cod 110 2 = some (.aload_n 0, 1) := cod_of b110 dX7_image_2
theorem t110_2 {d : Nat} {h : Hp} {Q : Pst} {l1 : Value} {x : Nat} {st : List Value} : T d 110 2 [.ref x, l1] st h Q ↔ T d 110 3 [.ref x, l1] (.ref x :: st) h Q := T_aload_n c110_2 rfl
theorem c110_3 : cod 110 3 = some (.getfield 19, 3) := cod_of b110 dX7_image_3
theorem t110_3 {d : Nat} {h : Hp} {Q : Pst} {a : Nat} {ls : List Value} {st : List Value} : T d 110 3 ls (.ref a :: st) h Q ↔ gF (h.2.2 a) 6 2 (fun v => T d 110 6 ls (v :: st) h Q) := T_getfieldR m110 c110_3 f7_19
theorem c110_6 : cod 110 6 = some (.arraylength, 1) := cod_of b110 dX7_image_6
theorem t110_6 {d : Nat} {h : Hp} {Q : Pst} {a : Nat} {ls : List Value} {st : List Value} : T d 110 6 ls (.ref a :: st) h Q ↔ cN (h.2.2 a) (fun n => T d 110 7 ls (.int (Int32.ofNat n) :: st) h Q) := T_alen c110_6
theorem c110_7 : cod 110 7 = some (.iconst 1, 1) := cod_of b110 dX7_image_7
theorem t110_7 {d : Nat} {h : Hp} {Q : Pst} {ls : List Value} {st : List Value} : T d 110 7 ls st h Q ↔ T d 110 8 ls (.int 1 :: st) h Q := T_iconstV c110_7 (by decide)
theorem c110_8 : cod 110 8 = some (.isub, 1) := cod_of b110 dX7_image_8
theorem t110_8 {d : Nat} {h : Hp} {Q : Pst} {x y : Int32} {ls : List Value} {st : List Value} : T d 110 8 ls (.int y :: .int x :: st) h Q ↔ T d 110 9 ls (.int (x - y) :: st) h Q := T_isub c110_8
theorem c110_9 : cod 110 9 = some (.invokestatic 62, 3) := cod_of b110 dX7_image_9
theorem t110_9 {d : Nat} {h : Hp} {Q : Pst} {a0 a1 a2 : Int32} {ls : List Value} : T (d + 1) 110 9 ls [.int a2, .int a1, .int a0] h Q ↔ T d 118 0 [.int a0, .int a1, .int a2] [] h (fun x h2 => T (d + 1) 110 12 ls (rl x []) h2 Q) := T_staticR (as := [.int a0, .int a1, .int a2]) (r := []) m110 m118 c110_9 k7_62 (Or.inl rfl) rfl (by decide) rfl (by simp [wrd, Value.category]) (by simp [stk, Value.category]) rfl
theorem c110_12 : cod 110 12 = some (.ifCond .ne 10, 3) := cod_of b110 dX7_image_12
theorem t110_12 {d : Nat} {h : Hp} {Q : Pst} {x : Int32} {ls : List Value} {st : List Value} : T d 110 12 ls (.int x :: st) h Q ↔ (if ¬ x = 0 then T d 110 22 ls st h Q else T d 110 15 ls st h Q) := T_if_ne c110_12 (by decide)
theorem c110_15 : cod 110 15 = some (.aload_n 0, 1) := cod_of b110 dX7_image_15
theorem t110_15 {d : Nat} {h : Hp} {Q : Pst} {l1 : Value} {x : Nat} {st : List Value} : T d 110 15 [.ref x, l1] st h Q ↔ T d 110 16 [.ref x, l1] (.ref x :: st) h Q := T_aload_n c110_15 rfl
theorem c110_16 : cod 110 16 = some (.bipush (-2), 2) := cod_of b110 dX7_image_16
theorem t110_16 {d : Nat} {h : Hp} {Q : Pst} {ls : List Value} {st : List Value} : T d 110 16 ls st h Q ↔ T d 110 18 ls (.int (-2) :: st) h Q := T_bipushV c110_16 (by decide)
theorem c110_18 : cod 110 18 = some (.invokevirtual 66, 3) := cod_of b110 dX7_image_18
theorem t110_18 {d : Nat} {h : Hp} {Q : Pst} {a0 : Int32} {a : Nat} {ls : List Value} (ho : isO (h.2.2 a) 6) : T (d + 1) 110 18 ls [.int a0, .ref a] h Q ↔ T d 116 0 [.ref a, .int a0, un] [] h (fun x h2 => T (d + 1) 110 21 ls (rl x []) h2 Q) := T_virtualR (as := [.int a0]) (r := []) m110 m116 c110_18 k7_66  rfl (by decide) rfl (by simp [wrd, Value.category]) (by simp [stk, Value.category]) rfl (by decide +kernel) ho
theorem c110_21 : cod 110 21 = some (.ireturn, 1) := cod_of b110 dX7_image_21
theorem t110_21 {d : Nat} {h : Hp} {Q : Pst} {x : Int32} {ls : List Value} : T d 110 21 ls [.int x] h Q ↔ Q (some (.int x)) h := T_iretR m110 c110_21 rfl
theorem c110_22 : cod 110 22 = some (.aload_n 0, 1) := cod_of b110 dX7_image_22
theorem t110_22 {d : Nat} {h : Hp} {Q : Pst} {l1 : Value} {x : Nat} {st : List Value} : T d 110 22 [.ref x, l1] st h Q ↔ T d 110 23 [.ref x, l1] (.ref x :: st) h Q := T_aload_n c110_22 rfl
theorem c110_23 : cod 110 23 = some (.getfield 19, 3) := cod_of b110 dX7_image_23
theorem t110_23 {d : Nat} {h : Hp} {Q : Pst} {a : Nat} {ls : List Value} {st : List Value} : T d 110 23 ls (.ref a :: st) h Q ↔ gF (h.2.2 a) 6 2 (fun v => T d 110 26 ls (v :: st) h Q) := T_getfieldR m110 c110_23 f7_19
theorem c110_26 : cod 110 26 = some (.iload_n 1, 1) := cod_of b110 dX7_image_26
theorem t110_26 {d : Nat} {h : Hp} {Q : Pst} {l0 : Value} {x : Int32} {st : List Value} : T d 110 26 [l0, .int x] st h Q ↔ T d 110 27 [l0, .int x] (.int x :: st) h Q := T_iload_n c110_26 rfl
theorem c110_27 : cod 110 27 = some (.aaload, 1) := cod_of b110 dX7_image_27
theorem t110_27 {d : Nat} {h : Hp} {Q : Pst} {a : Nat} {i : Int32} {ls : List Value} {st : List Value} : T d 110 27 ls (.int i :: .ref a :: st) h Q ↔ qL (h.2.2 a) i (fun x => T d 110 28 ls (va_rf x :: st) h Q) := T_aaload c110_27
theorem c110_28 : cod 110 28 = some (.ifnonnull 16, 3) := cod_of b110 dX7_image_28
theorem t110_28 {d : Nat} {h : Hp} {Q : Pst} {x : Nat} {ls : List Value} {st : List Value} : T d 110 28 ls (.ref x :: st) h Q ↔ T d 110 44 ls st h Q := T_ifnonnull c110_28 (by decide)
theorem t110_28N {d : Nat} {h : Hp} {Q : Pst} {ls st : List Value} : T d 110 28 ls (.null :: st) h Q ↔ T d 110 31 ls st h Q := T_ifnonnullN c110_28
theorem c110_31 : cod 110 31 = some (.aload_n 0, 1) := cod_of b110 dX7_image_31
theorem t110_31 {d : Nat} {h : Hp} {Q : Pst} {l1 : Value} {x : Nat} {st : List Value} : T d 110 31 [.ref x, l1] st h Q ↔ T d 110 32 [.ref x, l1] (.ref x :: st) h Q := T_aload_n c110_31 rfl
theorem c110_32 : cod 110 32 = some (.getfield 19, 3) := cod_of b110 dX7_image_32
theorem t110_32 {d : Nat} {h : Hp} {Q : Pst} {a : Nat} {ls : List Value} {st : List Value} : T d 110 32 ls (.ref a :: st) h Q ↔ gF (h.2.2 a) 6 2 (fun v => T d 110 35 ls (v :: st) h Q) := T_getfieldR m110 c110_32 f7_19
theorem c110_35 : cod 110 35 = some (.iload_n 1, 1) := cod_of b110 dX7_image_35
theorem t110_35 {d : Nat} {h : Hp} {Q : Pst} {l0 : Value} {x : Int32} {st : List Value} : T d 110 35 [l0, .int x] st h Q ↔ T d 110 36 [l0, .int x] (.int x :: st) h Q := T_iload_n c110_35 rfl
theorem c110_36 : cod 110 36 = some (.new 7, 3) := cod_of b110 dX7_image_36
theorem t110_36 {d : Nat} {h : Hp} {Q : Pst} {ls : List Value} {st : List Value} : T d 110 36 ls st h Q ↔ T d 110 39 ls (.ref h.1 :: st) (hnew h 14 (oO 5 (dfl 5))) Q := T_newR m110 c110_36 (by decide +kernel) (by decide)
theorem c110_39 : cod 110 39 = some (.dup, 1) := cod_of b110 dX7_image_39
theorem t110_39 {d : Nat} {h : Hp} {Q : Pst} {x : Nat} {ls : List Value} {st : List Value} : T d 110 39 ls (.ref x :: st) h Q ↔ T d 110 40 ls (.ref x :: .ref x :: st) h Q := T_dup c110_39 rfl
theorem c110_40 : cod 110 40 = some (.invokespecial 9, 3) := cod_of b110 dX7_image_40
theorem t110_40 {d : Nat} {h : Hp} {Q : Pst} {s0 s2 a : Nat} {s1 : Int32} {ls : List Value} : T (d + 1) 110 40 ls [.ref a, .ref s0, .int s1, .ref s2] h Q ↔ T d 52 0 [.ref a] [] h (fun x h2 => T (d + 1) 110 43 ls (rl x [.ref s0, .int s1, .ref s2]) h2 Q) := T_specialR (as := []) (r := [.ref s0, .int s1, .ref s2]) m110 m52 c110_40 k7_9 (Or.inr rfl) rfl (by decide) rfl (by simp [wrd, Value.category]) (by simp [stk, Value.category]) rfl
theorem c110_43 : cod 110 43 = some (.aastore, 1) := cod_of b110 dX7_image_43
theorem t110_43 {d : Nat} {h : Hp} {Q : Pst} {a x : Nat} {i : Int32} {ls : List Value} {st : List Value} : T d 110 43 ls (.ref x :: .int i :: .ref a :: st) h Q ↔ qS (h.2.2 a) (h.2.2 x) i x (fun cell => T d 110 44 ls st (hup h a cell) Q) := T_aastore c110_43
theorem c110_44 : cod 110 44 = some (.aload_n 0, 1) := cod_of b110 dX7_image_44
theorem t110_44 {d : Nat} {h : Hp} {Q : Pst} {l1 : Value} {x : Nat} {st : List Value} : T d 110 44 [.ref x, l1] st h Q ↔ T d 110 45 [.ref x, l1] (.ref x :: st) h Q := T_aload_n c110_44 rfl
theorem c110_45 : cod 110 45 = some (.getfield 19, 3) := cod_of b110 dX7_image_45
theorem t110_45 {d : Nat} {h : Hp} {Q : Pst} {a : Nat} {ls : List Value} {st : List Value} : T d 110 45 ls (.ref a :: st) h Q ↔ gF (h.2.2 a) 6 2 (fun v => T d 110 48 ls (v :: st) h Q) := T_getfieldR m110 c110_45 f7_19
theorem c110_48 : cod 110 48 = some (.iload_n 1, 1) := cod_of b110 dX7_image_48
theorem t110_48 {d : Nat} {h : Hp} {Q : Pst} {l0 : Value} {x : Int32} {st : List Value} : T d 110 48 [l0, .int x] st h Q ↔ T d 110 49 [l0, .int x] (.int x :: st) h Q := T_iload_n c110_48 rfl
theorem c110_49 : cod 110 49 = some (.aaload, 1) := cod_of b110 dX7_image_49
theorem t110_49 {d : Nat} {h : Hp} {Q : Pst} {a : Nat} {i : Int32} {ls : List Value} {st : List Value} : T d 110 49 ls (.int i :: .ref a :: st) h Q ↔ qL (h.2.2 a) i (fun x => T d 110 50 ls (va_rf x :: st) h Q) := T_aaload c110_49
theorem c110_50 : cod 110 50 = some (.aload_n 0, 1) := cod_of b110 dX7_image_50
theorem t110_50 {d : Nat} {h : Hp} {Q : Pst} {l1 : Value} {x : Nat} {st : List Value} : T d 110 50 [.ref x, l1] st h Q ↔ T d 110 51 [.ref x, l1] (.ref x :: st) h Q := T_aload_n c110_50 rfl
theorem c110_51 : cod 110 51 = some (.getfield 10, 3) := cod_of b110 dX7_image_51
theorem t110_51 {d : Nat} {h : Hp} {Q : Pst} {a : Nat} {ls : List Value} {st : List Value} : T d 110 51 ls (.ref a :: st) h Q ↔ gF (h.2.2 a) 6 0 (fun v => T d 110 54 ls (v :: st) h Q) := T_getfieldR m110 c110_51 f7_10
theorem c110_54 : cod 110 54 = some (.invokevirtual 102, 3) := cod_of b110 dX7_image_54
theorem t110_54 {d : Nat} {h : Hp} {Q : Pst} {a0 a : Nat} {ls : List Value} (ho : isO (h.2.2 a) 5) : T (d + 1) 110 54 ls [.ref a0, .ref a] h Q ↔ T d 54 0 [.ref a, .ref a0] [] h (fun x h2 => T (d + 1) 110 57 ls (rl x []) h2 Q) := T_virtualR (as := [.ref a0]) (r := []) m110 m54 c110_54 k7_102  rfl (by decide) rfl (by simp [wrd, Value.category]) (by simp [stk, Value.category]) rfl (by decide +kernel) ho
theorem c110_57 : cod 110 57 = some (.iconst 1, 1) := cod_of b110 dX7_image_57
theorem t110_57 {d : Nat} {h : Hp} {Q : Pst} {ls : List Value} {st : List Value} : T d 110 57 ls st h Q ↔ T d 110 58 ls (.int 1 :: st) h Q := T_iconstV c110_57 (by decide)
theorem c110_58 : cod 110 58 = some (.ireturn, 1) := cod_of b110 dX7_image_58
theorem t110_58 {d : Nat} {h : Hp} {Q : Pst} {x : Int32} {ls : List Value} : T d 110 58 ls [.int x] h Q ↔ Q (some (.int x)) h := T_iretR m110 c110_58 rfl
theorem b111 : (mR 111).2.2.1 = cX7_from := by rw [m111]
theorem c111_0 : cod 111 0 = some (.iload_n 1, 1) := cod_of b111 dX7_from_0
theorem t111_0 {d : Nat} {h : Hp} {Q : Pst} {l0 : Value} {x : Int32} {st : List Value} : T d 111 0 [l0, .int x] st h Q ↔ T d 111 1 [l0, .int x] (.int x :: st) h Q := T_iload_n c111_0 rfl
theorem c111_1 : cod 111 1 = some (.iconst 0, 1) := cod_of b111 dX7_from_1
theorem t111_1 {d : Nat} {h : Hp} {Q : Pst} {ls : List Value} {st : List Value} : T d 111 1 ls st h Q ↔ T d 111 2 ls (.int 0 :: st) h Q := T_iconstV c111_1 (by decide)
theorem c111_2 : cod 111 2 = some (.aload_n 0, 1) := cod_of b111 dX7_from_2
theorem t111_2 {d : Nat} {h : Hp} {Q : Pst} {l1 : Value} {x : Nat} {st : List Value} : T d 111 2 [.ref x, l1] st h Q ↔ T d 111 3 [.ref x, l1] (.ref x :: st) h Q := T_aload_n c111_2 rfl
theorem c111_3 : cod 111 3 = some (.getfield 19, 3) := cod_of b111 dX7_from_3
theorem t111_3 {d : Nat} {h : Hp} {Q : Pst} {a : Nat} {ls : List Value} {st : List Value} : T d 111 3 ls (.ref a :: st) h Q ↔ gF (h.2.2 a) 6 2 (fun v => T d 111 6 ls (v :: st) h Q) := T_getfieldR m111 c111_3 f7_19
theorem c111_6 : cod 111 6 = some (.arraylength, 1) := cod_of b111 dX7_from_6
theorem t111_6 {d : Nat} {h : Hp} {Q : Pst} {a : Nat} {ls : List Value} {st : List Value} : T d 111 6 ls (.ref a :: st) h Q ↔ cN (h.2.2 a) (fun n => T d 111 7 ls (.int (Int32.ofNat n) :: st) h Q) := T_alen c111_6
theorem c111_7 : cod 111 7 = some (.iconst 1, 1) := cod_of b111 dX7_from_7
theorem t111_7 {d : Nat} {h : Hp} {Q : Pst} {ls : List Value} {st : List Value} : T d 111 7 ls st h Q ↔ T d 111 8 ls (.int 1 :: st) h Q := T_iconstV c111_7 (by decide)
theorem c111_8 : cod 111 8 = some (.isub, 1) := cod_of b111 dX7_from_8
theorem t111_8 {d : Nat} {h : Hp} {Q : Pst} {x y : Int32} {ls : List Value} {st : List Value} : T d 111 8 ls (.int y :: .int x :: st) h Q ↔ T d 111 9 ls (.int (x - y) :: st) h Q := T_isub c111_8
theorem c111_9 : cod 111 9 = some (.invokestatic 62, 3) := cod_of b111 dX7_from_9
theorem t111_9 {d : Nat} {h : Hp} {Q : Pst} {a0 a1 a2 : Int32} {ls : List Value} : T (d + 1) 111 9 ls [.int a2, .int a1, .int a0] h Q ↔ T d 118 0 [.int a0, .int a1, .int a2] [] h (fun x h2 => T (d + 1) 111 12 ls (rl x []) h2 Q) := T_staticR (as := [.int a0, .int a1, .int a2]) (r := []) m111 m118 c111_9 k7_62 (Or.inl rfl) rfl (by decide) rfl (by simp [wrd, Value.category]) (by simp [stk, Value.category]) rfl
theorem c111_12 : cod 111 12 = some (.ifCond .ne 10, 3) := cod_of b111 dX7_from_12
theorem t111_12 {d : Nat} {h : Hp} {Q : Pst} {x : Int32} {ls : List Value} {st : List Value} : T d 111 12 ls (.int x :: st) h Q ↔ (if ¬ x = 0 then T d 111 22 ls st h Q else T d 111 15 ls st h Q) := T_if_ne c111_12 (by decide)
theorem c111_15 : cod 111 15 = some (.aload_n 0, 1) := cod_of b111 dX7_from_15
theorem t111_15 {d : Nat} {h : Hp} {Q : Pst} {l1 : Value} {x : Nat} {st : List Value} : T d 111 15 [.ref x, l1] st h Q ↔ T d 111 16 [.ref x, l1] (.ref x :: st) h Q := T_aload_n c111_15 rfl
theorem c111_16 : cod 111 16 = some (.bipush (-2), 2) := cod_of b111 dX7_from_16
theorem t111_16 {d : Nat} {h : Hp} {Q : Pst} {ls : List Value} {st : List Value} : T d 111 16 ls st h Q ↔ T d 111 18 ls (.int (-2) :: st) h Q := T_bipushV c111_16 (by decide)
theorem c111_18 : cod 111 18 = some (.invokevirtual 66, 3) := cod_of b111 dX7_from_18
theorem t111_18 {d : Nat} {h : Hp} {Q : Pst} {a0 : Int32} {a : Nat} {ls : List Value} (ho : isO (h.2.2 a) 6) : T (d + 1) 111 18 ls [.int a0, .ref a] h Q ↔ T d 116 0 [.ref a, .int a0, un] [] h (fun x h2 => T (d + 1) 111 21 ls (rl x []) h2 Q) := T_virtualR (as := [.int a0]) (r := []) m111 m116 c111_18 k7_66  rfl (by decide) rfl (by simp [wrd, Value.category]) (by simp [stk, Value.category]) rfl (by decide +kernel) ho
theorem c111_21 : cod 111 21 = some (.ireturn, 1) := cod_of b111 dX7_from_21
theorem t111_21 {d : Nat} {h : Hp} {Q : Pst} {x : Int32} {ls : List Value} : T d 111 21 ls [.int x] h Q ↔ Q (some (.int x)) h := T_iretR m111 c111_21 rfl
theorem c111_22 : cod 111 22 = some (.aload_n 0, 1) := cod_of b111 dX7_from_22
theorem t111_22 {d : Nat} {h : Hp} {Q : Pst} {l1 : Value} {x : Nat} {st : List Value} : T d 111 22 [.ref x, l1] st h Q ↔ T d 111 23 [.ref x, l1] (.ref x :: st) h Q := T_aload_n c111_22 rfl
theorem c111_23 : cod 111 23 = some (.getfield 19, 3) := cod_of b111 dX7_from_23
theorem t111_23 {d : Nat} {h : Hp} {Q : Pst} {a : Nat} {ls : List Value} {st : List Value} : T d 111 23 ls (.ref a :: st) h Q ↔ gF (h.2.2 a) 6 2 (fun v => T d 111 26 ls (v :: st) h Q) := T_getfieldR m111 c111_23 f7_19
theorem c111_26 : cod 111 26 = some (.iload_n 1, 1) := cod_of b111 dX7_from_26
theorem t111_26 {d : Nat} {h : Hp} {Q : Pst} {l0 : Value} {x : Int32} {st : List Value} : T d 111 26 [l0, .int x] st h Q ↔ T d 111 27 [l0, .int x] (.int x :: st) h Q := T_iload_n c111_26 rfl
theorem c111_27 : cod 111 27 = some (.aaload, 1) := cod_of b111 dX7_from_27
theorem t111_27 {d : Nat} {h : Hp} {Q : Pst} {a : Nat} {i : Int32} {ls : List Value} {st : List Value} : T d 111 27 ls (.int i :: .ref a :: st) h Q ↔ qL (h.2.2 a) i (fun x => T d 111 28 ls (va_rf x :: st) h Q) := T_aaload c111_27
theorem c111_28 : cod 111 28 = some (.ifnonnull 10, 3) := cod_of b111 dX7_from_28
theorem t111_28 {d : Nat} {h : Hp} {Q : Pst} {x : Nat} {ls : List Value} {st : List Value} : T d 111 28 ls (.ref x :: st) h Q ↔ T d 111 38 ls st h Q := T_ifnonnull c111_28 (by decide)
theorem t111_28N {d : Nat} {h : Hp} {Q : Pst} {ls st : List Value} : T d 111 28 ls (.null :: st) h Q ↔ T d 111 31 ls st h Q := T_ifnonnullN c111_28
theorem c111_31 : cod 111 31 = some (.aload_n 0, 1) := cod_of b111 dX7_from_31
theorem t111_31 {d : Nat} {h : Hp} {Q : Pst} {l1 : Value} {x : Nat} {st : List Value} : T d 111 31 [.ref x, l1] st h Q ↔ T d 111 32 [.ref x, l1] (.ref x :: st) h Q := T_aload_n c111_31 rfl
theorem c111_32 : cod 111 32 = some (.bipush (-3), 2) := cod_of b111 dX7_from_32
theorem t111_32 {d : Nat} {h : Hp} {Q : Pst} {ls : List Value} {st : List Value} : T d 111 32 ls st h Q ↔ T d 111 34 ls (.int (-3) :: st) h Q := T_bipushV c111_32 (by decide)
theorem c111_34 : cod 111 34 = some (.invokevirtual 66, 3) := cod_of b111 dX7_from_34
theorem t111_34 {d : Nat} {h : Hp} {Q : Pst} {a0 : Int32} {a : Nat} {ls : List Value} (ho : isO (h.2.2 a) 6) : T (d + 1) 111 34 ls [.int a0, .ref a] h Q ↔ T d 116 0 [.ref a, .int a0, un] [] h (fun x h2 => T (d + 1) 111 37 ls (rl x []) h2 Q) := T_virtualR (as := [.int a0]) (r := []) m111 m116 c111_34 k7_66  rfl (by decide) rfl (by simp [wrd, Value.category]) (by simp [stk, Value.category]) rfl (by decide +kernel) ho
theorem c111_37 : cod 111 37 = some (.ireturn, 1) := cod_of b111 dX7_from_37
theorem t111_37 {d : Nat} {h : Hp} {Q : Pst} {x : Int32} {ls : List Value} : T d 111 37 ls [.int x] h Q ↔ Q (some (.int x)) h := T_iretR m111 c111_37 rfl
theorem c111_38 : cod 111 38 = some (.aload_n 0, 1) := cod_of b111 dX7_from_38
theorem t111_38 {d : Nat} {h : Hp} {Q : Pst} {l1 : Value} {x : Nat} {st : List Value} : T d 111 38 [.ref x, l1] st h Q ↔ T d 111 39 [.ref x, l1] (.ref x :: st) h Q := T_aload_n c111_38 rfl
theorem c111_39 : cod 111 39 = some (.getfield 10, 3) := cod_of b111 dX7_from_39
theorem t111_39 {d : Nat} {h : Hp} {Q : Pst} {a : Nat} {ls : List Value} {st : List Value} : T d 111 39 ls (.ref a :: st) h Q ↔ gF (h.2.2 a) 6 0 (fun v => T d 111 42 ls (v :: st) h Q) := T_getfieldR m111 c111_39 f7_10
theorem c111_42 : cod 111 42 = some (.aload_n 0, 1) := cod_of b111 dX7_from_42
theorem t111_42 {d : Nat} {h : Hp} {Q : Pst} {l1 : Value} {x : Nat} {st : List Value} : T d 111 42 [.ref x, l1] st h Q ↔ T d 111 43 [.ref x, l1] (.ref x :: st) h Q := T_aload_n c111_42 rfl
theorem c111_43 : cod 111 43 = some (.getfield 19, 3) := cod_of b111 dX7_from_43
theorem t111_43 {d : Nat} {h : Hp} {Q : Pst} {a : Nat} {ls : List Value} {st : List Value} : T d 111 43 ls (.ref a :: st) h Q ↔ gF (h.2.2 a) 6 2 (fun v => T d 111 46 ls (v :: st) h Q) := T_getfieldR m111 c111_43 f7_19
theorem c111_46 : cod 111 46 = some (.iload_n 1, 1) := cod_of b111 dX7_from_46
theorem t111_46 {d : Nat} {h : Hp} {Q : Pst} {l0 : Value} {x : Int32} {st : List Value} : T d 111 46 [l0, .int x] st h Q ↔ T d 111 47 [l0, .int x] (.int x :: st) h Q := T_iload_n c111_46 rfl
theorem c111_47 : cod 111 47 = some (.aaload, 1) := cod_of b111 dX7_from_47
theorem t111_47 {d : Nat} {h : Hp} {Q : Pst} {a : Nat} {i : Int32} {ls : List Value} {st : List Value} : T d 111 47 ls (.int i :: .ref a :: st) h Q ↔ qL (h.2.2 a) i (fun x => T d 111 48 ls (va_rf x :: st) h Q) := T_aaload c111_47
theorem c111_48 : cod 111 48 = some (.invokevirtual 102, 3) := cod_of b111 dX7_from_48
theorem t111_48 {d : Nat} {h : Hp} {Q : Pst} {a0 a : Nat} {ls : List Value} (ho : isO (h.2.2 a) 5) : T (d + 1) 111 48 ls [.ref a0, .ref a] h Q ↔ T d 54 0 [.ref a, .ref a0] [] h (fun x h2 => T (d + 1) 111 51 ls (rl x []) h2 Q) := T_virtualR (as := [.ref a0]) (r := []) m111 m54 c111_48 k7_102  rfl (by decide) rfl (by simp [wrd, Value.category]) (by simp [stk, Value.category]) rfl (by decide +kernel) ho
theorem c111_51 : cod 111 51 = some (.iconst 1, 1) := cod_of b111 dX7_from_51
theorem t111_51 {d : Nat} {h : Hp} {Q : Pst} {ls : List Value} {st : List Value} : T d 111 51 ls st h Q ↔ T d 111 52 ls (.int 1 :: st) h Q := T_iconstV c111_51 (by decide)
theorem c111_52 : cod 111 52 = some (.ireturn, 1) := cod_of b111 dX7_from_52
theorem t111_52 {d : Nat} {h : Hp} {Q : Pst} {x : Int32} {ls : List Value} : T d 111 52 ls [.int x] h Q ↔ Q (some (.int x)) h := T_iretR m111 c111_52 rfl
theorem b112 : (mR 112).2.2.1 = cX7_status := by rw [m112]
theorem c112_0 : cod 112 0 = some (.iload_n 1, 1) := cod_of b112 dX7_status_0
theorem t112_0 {d : Nat} {h : Hp} {Q : Pst} {l0 : Value} {x : Int32} {st : List Value} : T d 112 0 [l0, .int x] st h Q ↔ T d 112 1 [l0, .int x] (.int x :: st) h Q := T_iload_n c112_0 rfl
theorem c112_1 : cod 112 1 = some (.iconst 0, 1) := cod_of b112 dX7_status_1
theorem t112_1 {d : Nat} {h : Hp} {Q : Pst} {ls : List Value} {st : List Value} : T d 112 1 ls st h Q ↔ T d 112 2 ls (.int 0 :: st) h Q := T_iconstV c112_1 (by decide)
theorem c112_2 : cod 112 2 = some (.iconst 2, 1) := cod_of b112 dX7_status_2
theorem t112_2 {d : Nat} {h : Hp} {Q : Pst} {ls : List Value} {st : List Value} : T d 112 2 ls st h Q ↔ T d 112 3 ls (.int 2 :: st) h Q := T_iconstV c112_2 (by decide)
theorem c112_3 : cod 112 3 = some (.invokestatic 62, 3) := cod_of b112 dX7_status_3
theorem t112_3 {d : Nat} {h : Hp} {Q : Pst} {a0 a1 a2 : Int32} {ls : List Value} : T (d + 1) 112 3 ls [.int a2, .int a1, .int a0] h Q ↔ T d 118 0 [.int a0, .int a1, .int a2] [] h (fun x h2 => T (d + 1) 112 6 ls (rl x []) h2 Q) := T_staticR (as := [.int a0, .int a1, .int a2]) (r := []) m112 m118 c112_3 k7_62 (Or.inl rfl) rfl (by decide) rfl (by simp [wrd, Value.category]) (by simp [stk, Value.category]) rfl
theorem c112_6 : cod 112 6 = some (.ifCond .ne 12, 3) := cod_of b112 dX7_status_6
theorem t112_6 {d : Nat} {h : Hp} {Q : Pst} {x : Int32} {ls : List Value} {st : List Value} : T d 112 6 ls (.int x :: st) h Q ↔ (if ¬ x = 0 then T d 112 18 ls st h Q else T d 112 9 ls st h Q) := T_if_ne c112_6 (by decide)
theorem c112_9 : cod 112 9 = some (.aload_n 0, 1) := cod_of b112 dX7_status_9
theorem t112_9 {d : Nat} {h : Hp} {Q : Pst} {l1 : Value} {x : Nat} {st : List Value} : T d 112 9 [.ref x, l1] st h Q ↔ T d 112 10 [.ref x, l1] (.ref x :: st) h Q := T_aload_n c112_9 rfl
theorem c112_10 : cod 112 10 = some (.bipush (-2), 2) := cod_of b112 dX7_status_10
theorem t112_10 {d : Nat} {h : Hp} {Q : Pst} {ls : List Value} {st : List Value} : T d 112 10 ls st h Q ↔ T d 112 12 ls (.int (-2) :: st) h Q := T_bipushV c112_10 (by decide)
theorem c112_12 : cod 112 12 = some (.invokevirtual 66, 3) := cod_of b112 dX7_status_12
theorem t112_12 {d : Nat} {h : Hp} {Q : Pst} {a0 : Int32} {a : Nat} {ls : List Value} (ho : isO (h.2.2 a) 6) : T (d + 1) 112 12 ls [.int a0, .ref a] h Q ↔ T d 116 0 [.ref a, .int a0, un] [] h (fun x h2 => T (d + 1) 112 15 ls (rl x []) h2 Q) := T_virtualR (as := [.int a0]) (r := []) m112 m116 c112_12 k7_66  rfl (by decide) rfl (by simp [wrd, Value.category]) (by simp [stk, Value.category]) rfl (by decide +kernel) ho
theorem c112_15 : cod 112 15 = some (.pop, 1) := cod_of b112 dX7_status_15
theorem t112_15 {d : Nat} {h : Hp} {Q : Pst} {x : Int32} {ls : List Value} {st : List Value} : T d 112 15 ls (.int x :: st) h Q ↔ T d 112 16 ls st h Q := T_pop c112_15 rfl
theorem c112_16 : cod 112 16 = some (.iconst (-1), 1) := cod_of b112 dX7_status_16
theorem t112_16 {d : Nat} {h : Hp} {Q : Pst} {ls : List Value} {st : List Value} : T d 112 16 ls st h Q ↔ T d 112 17 ls (.int (-1) :: st) h Q := T_iconstV c112_16 (by decide)
theorem c112_17 : cod 112 17 = some (.ireturn, 1) := cod_of b112 dX7_status_17
theorem t112_17 {d : Nat} {h : Hp} {Q : Pst} {x : Int32} {ls : List Value} : T d 112 17 ls [.int x] h Q ↔ Q (some (.int x)) h := T_iretR m112 c112_17 rfl
theorem c112_18 : cod 112 18 = some (.aload_n 0, 1) := cod_of b112 dX7_status_18
theorem t112_18 {d : Nat} {h : Hp} {Q : Pst} {l1 : Value} {x : Nat} {st : List Value} : T d 112 18 [.ref x, l1] st h Q ↔ T d 112 19 [.ref x, l1] (.ref x :: st) h Q := T_aload_n c112_18 rfl
theorem c112_19 : cod 112 19 = some (.getfield 51, 3) := cod_of b112 dX7_status_19
theorem t112_19 {d : Nat} {h : Hp} {Q : Pst} {a : Nat} {ls : List Value} {st : List Value} : T d 112 19 ls (.ref a :: st) h Q ↔ gF (h.2.2 a) 6 7 (fun v => T d 112 22 ls (v :: st) h Q) := T_getfieldR m112 c112_19 f7_51
theorem c112_22 : cod 112 22 = some (.iload_n 1, 1) := cod_of b112 dX7_status_22
theorem t112_22 {d : Nat} {h : Hp} {Q : Pst} {l0 : Value} {x : Int32} {st : List Value} : T d 112 22 [l0, .int x] st h Q ↔ T d 112 23 [l0, .int x] (.int x :: st) h Q := T_iload_n c112_22 rfl
theorem c112_23 : cod 112 23 = some (.invokestatic 126, 3) := cod_of b112 dX7_status_23
theorem t112_23 {d : Nat} {h : Hp} {Q : Pst} {a0 : Nat} {a1 : Int32} {ls : List Value} : T (d + 1) 112 23 ls [.int a1, .ref a0] h Q ↔ T d 122 0 [.ref a0, .int a1] [] h (fun x h2 => T (d + 1) 112 26 ls (rl x []) h2 Q) := T_staticR (as := [.ref a0, .int a1]) (r := []) m112 m122 c112_23 k7_126 (Or.inl rfl) rfl (by decide) rfl (by simp [wrd, Value.category]) (by simp [stk, Value.category]) rfl
theorem c112_26 : cod 112 26 = some (.ireturn, 1) := cod_of b112 dX7_status_26
theorem t112_26 {d : Nat} {h : Hp} {Q : Pst} {x : Int32} {ls : List Value} : T d 112 26 ls [.int x] h Q ↔ Q (some (.int x)) h := T_iretR m112 c112_26 rfl
theorem b113 : (mR 113).2.2.1 = cX7_count := by rw [m113]
theorem c113_0 : cod 113 0 = some (.iload_n 1, 1) := cod_of b113 dX7_count_0
theorem t113_0 {d : Nat} {h : Hp} {Q : Pst} {l0 : Value} {x : Int32} {st : List Value} : T d 113 0 [l0, .int x] st h Q ↔ T d 113 1 [l0, .int x] (.int x :: st) h Q := T_iload_n c113_0 rfl
theorem c113_1 : cod 113 1 = some (.iconst 0, 1) := cod_of b113 dX7_count_1
theorem t113_1 {d : Nat} {h : Hp} {Q : Pst} {ls : List Value} {st : List Value} : T d 113 1 ls st h Q ↔ T d 113 2 ls (.int 0 :: st) h Q := T_iconstV c113_1 (by decide)
theorem c113_2 : cod 113 2 = some (.bipush 10, 2) := cod_of b113 dX7_count_2
theorem t113_2 {d : Nat} {h : Hp} {Q : Pst} {ls : List Value} {st : List Value} : T d 113 2 ls st h Q ↔ T d 113 4 ls (.int 10 :: st) h Q := T_bipushV c113_2 (by decide)
theorem c113_4 : cod 113 4 = some (.invokestatic 62, 3) := cod_of b113 dX7_count_4
theorem t113_4 {d : Nat} {h : Hp} {Q : Pst} {a0 a1 a2 : Int32} {ls : List Value} : T (d + 1) 113 4 ls [.int a2, .int a1, .int a0] h Q ↔ T d 118 0 [.int a0, .int a1, .int a2] [] h (fun x h2 => T (d + 1) 113 7 ls (rl x []) h2 Q) := T_staticR (as := [.int a0, .int a1, .int a2]) (r := []) m113 m118 c113_4 k7_62 (Or.inl rfl) rfl (by decide) rfl (by simp [wrd, Value.category]) (by simp [stk, Value.category]) rfl
theorem c113_7 : cod 113 7 = some (.ifCond .eq 11, 3) := cod_of b113 dX7_count_7
theorem t113_7 {d : Nat} {h : Hp} {Q : Pst} {x : Int32} {ls : List Value} {st : List Value} : T d 113 7 ls (.int x :: st) h Q ↔ (if x = 0 then T d 113 18 ls st h Q else T d 113 10 ls st h Q) := T_if_eq c113_7 (by decide)
theorem c113_10 : cod 113 10 = some (.aload_n 0, 1) := cod_of b113 dX7_count_10
theorem t113_10 {d : Nat} {h : Hp} {Q : Pst} {l1 : Value} {x : Nat} {st : List Value} : T d 113 10 [.ref x, l1] st h Q ↔ T d 113 11 [.ref x, l1] (.ref x :: st) h Q := T_aload_n c113_10 rfl
theorem c113_11 : cod 113 11 = some (.iload_n 1, 1) := cod_of b113 dX7_count_11
theorem t113_11 {d : Nat} {h : Hp} {Q : Pst} {l0 : Value} {x : Int32} {st : List Value} : T d 113 11 [l0, .int x] st h Q ↔ T d 113 12 [l0, .int x] (.int x :: st) h Q := T_iload_n c113_11 rfl
theorem c113_12 : cod 113 12 = some (.invokevirtual 298, 3) := cod_of b113 dX7_count_12
theorem t113_12 {d : Nat} {h : Hp} {Q : Pst} {a0 : Int32} {a : Nat} {ls : List Value} (ho : isO (h.2.2 a) 6) : T (d + 1) 113 12 ls [.int a0, .ref a] h Q ↔ T d 115 0 [.ref a, .int a0] [] h (fun x h2 => T (d + 1) 113 15 ls (rl x []) h2 Q) := T_virtualR (as := [.int a0]) (r := []) m113 m115 c113_12 k7_298  rfl (by decide) rfl (by simp [wrd, Value.category]) (by simp [stk, Value.category]) rfl (by decide +kernel) ho
theorem c113_15 : cod 113 15 = some (.goto 9, 3) := cod_of b113 dX7_count_15
theorem t113_15 {d : Nat} {h : Hp} {Q : Pst} {ls : List Value} {st : List Value} : T d 113 15 ls st h Q ↔ T d 113 24 ls st h Q := T_goto c113_15 (by decide)
theorem c113_24 : cod 113 24 = some (.ireturn, 1) := cod_of b113 dX7_count_24
theorem t113_24 {d : Nat} {h : Hp} {Q : Pst} {x : Int32} {ls : List Value} : T d 113 24 ls [.int x] h Q ↔ Q (some (.int x)) h := T_iretR m113 c113_24 rfl
theorem c113_18 : cod 113 18 = some (.aload_n 0, 1) := cod_of b113 dX7_count_18
theorem t113_18 {d : Nat} {h : Hp} {Q : Pst} {l1 : Value} {x : Nat} {st : List Value} : T d 113 18 [.ref x, l1] st h Q ↔ T d 113 19 [.ref x, l1] (.ref x :: st) h Q := T_aload_n c113_18 rfl
theorem c113_19 : cod 113 19 = some (.bipush (-2), 2) := cod_of b113 dX7_count_19
theorem t113_19 {d : Nat} {h : Hp} {Q : Pst} {ls : List Value} {st : List Value} : T d 113 19 ls st h Q ↔ T d 113 21 ls (.int (-2) :: st) h Q := T_bipushV c113_19 (by decide)
theorem c113_21 : cod 113 21 = some (.invokevirtual 66, 3) := cod_of b113 dX7_count_21
theorem t113_21 {d : Nat} {h : Hp} {Q : Pst} {a0 : Int32} {a : Nat} {ls : List Value} (ho : isO (h.2.2 a) 6) : T (d + 1) 113 21 ls [.int a0, .ref a] h Q ↔ T d 116 0 [.ref a, .int a0, un] [] h (fun x h2 => T (d + 1) 113 24 ls (rl x []) h2 Q) := T_virtualR (as := [.int a0]) (r := []) m113 m116 c113_21 k7_66  rfl (by decide) rfl (by simp [wrd, Value.category]) (by simp [stk, Value.category]) rfl (by decide +kernel) ho
theorem b114 : (mR 114).2.2.1 = cX7_digest := by rw [m114]
theorem c114_0 : cod 114 0 = some (.ldc2_w 301, 3) := cod_of b114 dX7_digest_0
theorem t114_0 {d : Nat} {h : Hp} {Q : Pst} {ls : List Value} {st : List Value} : T d 114 0 ls st h Q ↔ T d 114 3 ls (.long 1627 :: st) h Q := T_ldc2_wR m114 c114_0 (by decide +kernel)
theorem c114_3 : cod 114 3 = some (.lstore_n 1, 1) := cod_of b114 dX7_digest_3
theorem t114_3 {d : Nat} {h : Hp} {Q : Pst} {l0 l1 l2 l3 : Value} {x : Int64} {st : List Value} : T d 114 3 [l0, l1, l2, l3] (.long x :: st) h Q ↔ T d 114 4 [kil l0, .long x, un, l3] st h Q := T_lstore_n c114_3 (Nat.le_of_ble_eq_true rfl)
theorem c114_4 : cod 114 4 = some (.iconst 0, 1) := cod_of b114 dX7_digest_4
theorem t114_4 {d : Nat} {h : Hp} {Q : Pst} {ls : List Value} {st : List Value} : T d 114 4 ls st h Q ↔ T d 114 5 ls (.int 0 :: st) h Q := T_iconstV c114_4 (by decide)
theorem c114_5 : cod 114 5 = some (.istore_n 3, 1) := cod_of b114 dX7_digest_5
theorem t114_5 {d : Nat} {h : Hp} {Q : Pst} {l0 l1 l2 l3 : Value} {x : Int32} {st : List Value} : T d 114 5 [l0, l1, l2, l3] (.int x :: st) h Q ↔ T d 114 6 [l0, l1, kil l2, .int x] st h Q := T_istore_n c114_5 (Nat.le_of_ble_eq_true rfl)
theorem c114_6 : cod 114 6 = some (.iload_n 3, 1) := cod_of b114 dX7_digest_6
theorem t114_6 {d : Nat} {h : Hp} {Q : Pst} {l0 l1 l2 : Value} {x : Int32} {st : List Value} : T d 114 6 [l0, l1, l2, .int x] st h Q ↔ T d 114 7 [l0, l1, l2, .int x] (.int x :: st) h Q := T_iload_n c114_6 rfl
theorem c114_7 : cod 114 7 = some (.bipush 10, 2) := cod_of b114 dX7_digest_7
theorem t114_7 {d : Nat} {h : Hp} {Q : Pst} {ls : List Value} {st : List Value} : T d 114 7 ls st h Q ↔ T d 114 9 ls (.int 10 :: st) h Q := T_bipushV c114_7 (by decide)
theorem c114_9 : cod 114 9 = some (.if_icmp .gt 22, 3) := cod_of b114 dX7_digest_9
theorem t114_9 {d : Nat} {h : Hp} {Q : Pst} {x y : Int32} {ls : List Value} {st : List Value} : T d 114 9 ls (.int y :: .int x :: st) h Q ↔ (if y < x then T d 114 31 ls st h Q else T d 114 12 ls st h Q) := T_icmp_gt c114_9 (by decide)
theorem c114_12 : cod 114 12 = some (.ldc2_w 303, 3) := cod_of b114 dX7_digest_12
theorem t114_12 {d : Nat} {h : Hp} {Q : Pst} {ls : List Value} {st : List Value} : T d 114 12 ls st h Q ↔ T d 114 15 ls (.long 31 :: st) h Q := T_ldc2_wR m114 c114_12 (by decide +kernel)
theorem c114_15 : cod 114 15 = some (.lload_n 1, 1) := cod_of b114 dX7_digest_15
theorem t114_15 {d : Nat} {h : Hp} {Q : Pst} {l0 l2 l3 : Value} {x : Int64} {st : List Value} : T d 114 15 [l0, .long x, l2, l3] st h Q ↔ T d 114 16 [l0, .long x, l2, l3] (.long x :: st) h Q := T_lload_n c114_15 rfl
theorem c114_16 : cod 114 16 = some (.lmul, 1) := cod_of b114 dX7_digest_16
theorem t114_16 {d : Nat} {h : Hp} {Q : Pst} {x y : Int64} {ls : List Value} {st : List Value} : T d 114 16 ls (.long y :: .long x :: st) h Q ↔ T d 114 17 ls (.long (x * y) :: st) h Q := T_lmul c114_16
theorem c114_17 : cod 114 17 = some (.aload_n 0, 1) := cod_of b114 dX7_digest_17
theorem t114_17 {d : Nat} {h : Hp} {Q : Pst} {l1 l2 l3 : Value} {x : Nat} {st : List Value} : T d 114 17 [.ref x, l1, l2, l3] st h Q ↔ T d 114 18 [.ref x, l1, l2, l3] (.ref x :: st) h Q := T_aload_n c114_17 rfl
theorem c114_18 : cod 114 18 = some (.iload_n 3, 1) := cod_of b114 dX7_digest_18
theorem t114_18 {d : Nat} {h : Hp} {Q : Pst} {l0 l1 l2 : Value} {x : Int32} {st : List Value} : T d 114 18 [l0, l1, l2, .int x] st h Q ↔ T d 114 19 [l0, l1, l2, .int x] (.int x :: st) h Q := T_iload_n c114_18 rfl
theorem c114_19 : cod 114 19 = some (.invokevirtual 298, 3) := cod_of b114 dX7_digest_19
theorem t114_19 {d : Nat} {h : Hp} {Q : Pst} {a0 : Int32} {s0 : Int64} {a : Nat} {ls : List Value} (ho : isO (h.2.2 a) 6) : T (d + 1) 114 19 ls [.int a0, .ref a, .long s0] h Q ↔ T d 115 0 [.ref a, .int a0] [] h (fun x h2 => T (d + 1) 114 22 ls (rl x [.long s0]) h2 Q) := T_virtualR (as := [.int a0]) (r := [.long s0]) m114 m115 c114_19 k7_298  rfl (by decide) rfl (by simp [wrd, Value.category]) (by simp [stk, Value.category]) rfl (by decide +kernel) ho
theorem c114_22 : cod 114 22 = some (.i2l, 1) := cod_of b114 dX7_digest_22
theorem t114_22 {d : Nat} {h : Hp} {Q : Pst} {x : Int32} {ls : List Value} {st : List Value} : T d 114 22 ls (.int x :: st) h Q ↔ T d 114 23 ls (.long x.toInt64 :: st) h Q := T_i2l c114_22
theorem c114_23 : cod 114 23 = some (.ladd, 1) := cod_of b114 dX7_digest_23
theorem t114_23 {d : Nat} {h : Hp} {Q : Pst} {x y : Int64} {ls : List Value} {st : List Value} : T d 114 23 ls (.long y :: .long x :: st) h Q ↔ T d 114 24 ls (.long (x + y) :: st) h Q := T_ladd c114_23
theorem c114_24 : cod 114 24 = some (.lstore_n 1, 1) := cod_of b114 dX7_digest_24
theorem t114_24 {d : Nat} {h : Hp} {Q : Pst} {l0 l1 l2 l3 : Value} {x : Int64} {st : List Value} : T d 114 24 [l0, l1, l2, l3] (.long x :: st) h Q ↔ T d 114 25 [kil l0, .long x, un, l3] st h Q := T_lstore_n c114_24 (Nat.le_of_ble_eq_true rfl)
theorem c114_25 : cod 114 25 = some (.iinc 3 1, 3) := cod_of b114 dX7_digest_25
theorem t114_25 {d : Nat} {h : Hp} {Q : Pst} {l0 l1 l2 : Value} {x : Int32} {st : List Value} : T d 114 25 [l0, l1, l2, .int x] st h Q ↔ T d 114 28 [l0, l1, kil l2, .int (x + 1)] st h Q := T_iincV c114_25 rfl (Nat.le_of_ble_eq_true rfl) (by decide) rfl
theorem c114_28 : cod 114 28 = some (.goto (-22), 3) := cod_of b114 dX7_digest_28
theorem t114_28 {d : Nat} {h : Hp} {Q : Pst} {ls : List Value} {st : List Value} : T d 114 28 ls st h Q ↔ T d 114 6 ls st h Q := T_goto c114_28 (by decide)
theorem c114_31 : cod 114 31 = some (.iconst 0, 1) := cod_of b114 dX7_digest_31
theorem t114_31 {d : Nat} {h : Hp} {Q : Pst} {ls : List Value} {st : List Value} : T d 114 31 ls st h Q ↔ T d 114 32 ls (.int 0 :: st) h Q := T_iconstV c114_31 (by decide)
theorem c114_32 : cod 114 32 = some (.istore_n 3, 1) := cod_of b114 dX7_digest_32
theorem t114_32 {d : Nat} {h : Hp} {Q : Pst} {l0 l1 l2 l3 : Value} {x : Int32} {st : List Value} : T d 114 32 [l0, l1, l2, l3] (.int x :: st) h Q ↔ T d 114 33 [l0, l1, kil l2, .int x] st h Q := T_istore_n c114_32 (Nat.le_of_ble_eq_true rfl)
theorem c114_33 : cod 114 33 = some (.iload_n 3, 1) := cod_of b114 dX7_digest_33
theorem t114_33 {d : Nat} {h : Hp} {Q : Pst} {l0 l1 l2 : Value} {x : Int32} {st : List Value} : T d 114 33 [l0, l1, l2, .int x] st h Q ↔ T d 114 34 [l0, l1, l2, .int x] (.int x :: st) h Q := T_iload_n c114_33 rfl
theorem c114_34 : cod 114 34 = some (.aload_n 0, 1) := cod_of b114 dX7_digest_34
theorem t114_34 {d : Nat} {h : Hp} {Q : Pst} {l1 l2 l3 : Value} {x : Nat} {st : List Value} : T d 114 34 [.ref x, l1, l2, l3] st h Q ↔ T d 114 35 [.ref x, l1, l2, l3] (.ref x :: st) h Q := T_aload_n c114_34 rfl
theorem c114_35 : cod 114 35 = some (.getfield 10, 3) := cod_of b114 dX7_digest_35
theorem t114_35 {d : Nat} {h : Hp} {Q : Pst} {a : Nat} {ls : List Value} {st : List Value} : T d 114 35 ls (.ref a :: st) h Q ↔ gF (h.2.2 a) 6 0 (fun v => T d 114 38 ls (v :: st) h Q) := T_getfieldR m114 c114_35 f7_10
theorem c114_38 : cod 114 38 = some (.getfield 70, 3) := cod_of b114 dX7_digest_38
theorem t114_38 {d : Nat} {h : Hp} {Q : Pst} {a : Nat} {ls : List Value} {st : List Value} : T d 114 38 ls (.ref a :: st) h Q ↔ gF (h.2.2 a) 5 10 (fun v => T d 114 41 ls (v :: st) h Q) := T_getfieldR m114 c114_38 f7_70
theorem c114_41 : cod 114 41 = some (.if_icmp .ge 66, 3) := cod_of b114 dX7_digest_41
theorem t114_41 {d : Nat} {h : Hp} {Q : Pst} {x y : Int32} {ls : List Value} {st : List Value} : T d 114 41 ls (.int y :: .int x :: st) h Q ↔ (if y ≤ x then T d 114 107 ls st h Q else T d 114 44 ls st h Q) := T_icmp_ge c114_41 (by decide)
theorem c114_44 : cod 114 44 = some (.ldc2_w 303, 3) := cod_of b114 dX7_digest_44
theorem t114_44 {d : Nat} {h : Hp} {Q : Pst} {ls : List Value} {st : List Value} : T d 114 44 ls st h Q ↔ T d 114 47 ls (.long 31 :: st) h Q := T_ldc2_wR m114 c114_44 (by decide +kernel)
theorem c114_47 : cod 114 47 = some (.lload_n 1, 1) := cod_of b114 dX7_digest_47
theorem t114_47 {d : Nat} {h : Hp} {Q : Pst} {l0 l2 l3 : Value} {x : Int64} {st : List Value} : T d 114 47 [l0, .long x, l2, l3] st h Q ↔ T d 114 48 [l0, .long x, l2, l3] (.long x :: st) h Q := T_lload_n c114_47 rfl
theorem c114_48 : cod 114 48 = some (.lmul, 1) := cod_of b114 dX7_digest_48
theorem t114_48 {d : Nat} {h : Hp} {Q : Pst} {x y : Int64} {ls : List Value} {st : List Value} : T d 114 48 ls (.long y :: .long x :: st) h Q ↔ T d 114 49 ls (.long (x * y) :: st) h Q := T_lmul c114_48
theorem c114_49 : cod 114 49 = some (.aload_n 0, 1) := cod_of b114 dX7_digest_49
theorem t114_49 {d : Nat} {h : Hp} {Q : Pst} {l1 l2 l3 : Value} {x : Nat} {st : List Value} : T d 114 49 [.ref x, l1, l2, l3] st h Q ↔ T d 114 50 [.ref x, l1, l2, l3] (.ref x :: st) h Q := T_aload_n c114_49 rfl
theorem c114_50 : cod 114 50 = some (.getfield 10, 3) := cod_of b114 dX7_digest_50
theorem t114_50 {d : Nat} {h : Hp} {Q : Pst} {a : Nat} {ls : List Value} {st : List Value} : T d 114 50 ls (.ref a :: st) h Q ↔ gF (h.2.2 a) 6 0 (fun v => T d 114 53 ls (v :: st) h Q) := T_getfieldR m114 c114_50 f7_10
theorem c114_53 : cod 114 53 = some (.getfield 165, 3) := cod_of b114 dX7_digest_53
theorem t114_53 {d : Nat} {h : Hp} {Q : Pst} {a : Nat} {ls : List Value} {st : List Value} : T d 114 53 ls (.ref a :: st) h Q ↔ gF (h.2.2 a) 5 0 (fun v => T d 114 56 ls (v :: st) h Q) := T_getfieldR m114 c114_53 f7_165
theorem c114_56 : cod 114 56 = some (.iload_n 3, 1) := cod_of b114 dX7_digest_56
theorem t114_56 {d : Nat} {h : Hp} {Q : Pst} {l0 l1 l2 : Value} {x : Int32} {st : List Value} : T d 114 56 [l0, l1, l2, .int x] st h Q ↔ T d 114 57 [l0, l1, l2, .int x] (.int x :: st) h Q := T_iload_n c114_56 rfl
theorem c114_57 : cod 114 57 = some (.invokestatic 126, 3) := cod_of b114 dX7_digest_57
theorem t114_57 {d : Nat} {h : Hp} {Q : Pst} {a0 : Nat} {a1 : Int32} {s0 : Int64} {ls : List Value} : T (d + 1) 114 57 ls [.int a1, .ref a0, .long s0] h Q ↔ T d 122 0 [.ref a0, .int a1] [] h (fun x h2 => T (d + 1) 114 60 ls (rl x [.long s0]) h2 Q) := T_staticR (as := [.ref a0, .int a1]) (r := [.long s0]) m114 m122 c114_57 k7_126 (Or.inl rfl) rfl (by decide) rfl (by simp [wrd, Value.category]) (by simp [stk, Value.category]) rfl
theorem c114_60 : cod 114 60 = some (.i2l, 1) := cod_of b114 dX7_digest_60
theorem t114_60 {d : Nat} {h : Hp} {Q : Pst} {x : Int32} {ls : List Value} {st : List Value} : T d 114 60 ls (.int x :: st) h Q ↔ T d 114 61 ls (.long x.toInt64 :: st) h Q := T_i2l c114_60
theorem c114_61 : cod 114 61 = some (.ladd, 1) := cod_of b114 dX7_digest_61
theorem t114_61 {d : Nat} {h : Hp} {Q : Pst} {x y : Int64} {ls : List Value} {st : List Value} : T d 114 61 ls (.long y :: .long x :: st) h Q ↔ T d 114 62 ls (.long (x + y) :: st) h Q := T_ladd c114_61
theorem c114_62 : cod 114 62 = some (.lstore_n 1, 1) := cod_of b114 dX7_digest_62
theorem t114_62 {d : Nat} {h : Hp} {Q : Pst} {l0 l1 l2 l3 : Value} {x : Int64} {st : List Value} : T d 114 62 [l0, l1, l2, l3] (.long x :: st) h Q ↔ T d 114 63 [kil l0, .long x, un, l3] st h Q := T_lstore_n c114_62 (Nat.le_of_ble_eq_true rfl)
theorem c114_63 : cod 114 63 = some (.ldc2_w 303, 3) := cod_of b114 dX7_digest_63
theorem t114_63 {d : Nat} {h : Hp} {Q : Pst} {ls : List Value} {st : List Value} : T d 114 63 ls st h Q ↔ T d 114 66 ls (.long 31 :: st) h Q := T_ldc2_wR m114 c114_63 (by decide +kernel)
theorem c114_66 : cod 114 66 = some (.lload_n 1, 1) := cod_of b114 dX7_digest_66
theorem t114_66 {d : Nat} {h : Hp} {Q : Pst} {l0 l2 l3 : Value} {x : Int64} {st : List Value} : T d 114 66 [l0, .long x, l2, l3] st h Q ↔ T d 114 67 [l0, .long x, l2, l3] (.long x :: st) h Q := T_lload_n c114_66 rfl
theorem c114_67 : cod 114 67 = some (.lmul, 1) := cod_of b114 dX7_digest_67
theorem t114_67 {d : Nat} {h : Hp} {Q : Pst} {x y : Int64} {ls : List Value} {st : List Value} : T d 114 67 ls (.long y :: .long x :: st) h Q ↔ T d 114 68 ls (.long (x * y) :: st) h Q := T_lmul c114_67
theorem c114_68 : cod 114 68 = some (.aload_n 0, 1) := cod_of b114 dX7_digest_68
theorem t114_68 {d : Nat} {h : Hp} {Q : Pst} {l1 l2 l3 : Value} {x : Nat} {st : List Value} : T d 114 68 [.ref x, l1, l2, l3] st h Q ↔ T d 114 69 [.ref x, l1, l2, l3] (.ref x :: st) h Q := T_aload_n c114_68 rfl
theorem c114_69 : cod 114 69 = some (.getfield 10, 3) := cod_of b114 dX7_digest_69
theorem t114_69 {d : Nat} {h : Hp} {Q : Pst} {a : Nat} {ls : List Value} {st : List Value} : T d 114 69 ls (.ref a :: st) h Q ↔ gF (h.2.2 a) 6 0 (fun v => T d 114 72 ls (v :: st) h Q) := T_getfieldR m114 c114_69 f7_10
theorem c114_72 : cod 114 72 = some (.getfield 168, 3) := cod_of b114 dX7_digest_72
theorem t114_72 {d : Nat} {h : Hp} {Q : Pst} {a : Nat} {ls : List Value} {st : List Value} : T d 114 72 ls (.ref a :: st) h Q ↔ gF (h.2.2 a) 5 1 (fun v => T d 114 75 ls (v :: st) h Q) := T_getfieldR m114 c114_72 f7_168
theorem c114_75 : cod 114 75 = some (.iload_n 3, 1) := cod_of b114 dX7_digest_75
theorem t114_75 {d : Nat} {h : Hp} {Q : Pst} {l0 l1 l2 : Value} {x : Int32} {st : List Value} : T d 114 75 [l0, l1, l2, .int x] st h Q ↔ T d 114 76 [l0, l1, l2, .int x] (.int x :: st) h Q := T_iload_n c114_75 rfl
theorem c114_76 : cod 114 76 = some (.invokestatic 126, 3) := cod_of b114 dX7_digest_76
theorem t114_76 {d : Nat} {h : Hp} {Q : Pst} {a0 : Nat} {a1 : Int32} {s0 : Int64} {ls : List Value} : T (d + 1) 114 76 ls [.int a1, .ref a0, .long s0] h Q ↔ T d 122 0 [.ref a0, .int a1] [] h (fun x h2 => T (d + 1) 114 79 ls (rl x [.long s0]) h2 Q) := T_staticR (as := [.ref a0, .int a1]) (r := [.long s0]) m114 m122 c114_76 k7_126 (Or.inl rfl) rfl (by decide) rfl (by simp [wrd, Value.category]) (by simp [stk, Value.category]) rfl
theorem c114_79 : cod 114 79 = some (.i2l, 1) := cod_of b114 dX7_digest_79
theorem t114_79 {d : Nat} {h : Hp} {Q : Pst} {x : Int32} {ls : List Value} {st : List Value} : T d 114 79 ls (.int x :: st) h Q ↔ T d 114 80 ls (.long x.toInt64 :: st) h Q := T_i2l c114_79
theorem c114_80 : cod 114 80 = some (.ladd, 1) := cod_of b114 dX7_digest_80
theorem t114_80 {d : Nat} {h : Hp} {Q : Pst} {x y : Int64} {ls : List Value} {st : List Value} : T d 114 80 ls (.long y :: .long x :: st) h Q ↔ T d 114 81 ls (.long (x + y) :: st) h Q := T_ladd c114_80
theorem c114_81 : cod 114 81 = some (.lstore_n 1, 1) := cod_of b114 dX7_digest_81
theorem t114_81 {d : Nat} {h : Hp} {Q : Pst} {l0 l1 l2 l3 : Value} {x : Int64} {st : List Value} : T d 114 81 [l0, l1, l2, l3] (.long x :: st) h Q ↔ T d 114 82 [kil l0, .long x, un, l3] st h Q := T_lstore_n c114_81 (Nat.le_of_ble_eq_true rfl)
theorem c114_82 : cod 114 82 = some (.ldc2_w 303, 3) := cod_of b114 dX7_digest_82
theorem t114_82 {d : Nat} {h : Hp} {Q : Pst} {ls : List Value} {st : List Value} : T d 114 82 ls st h Q ↔ T d 114 85 ls (.long 31 :: st) h Q := T_ldc2_wR m114 c114_82 (by decide +kernel)
theorem c114_85 : cod 114 85 = some (.lload_n 1, 1) := cod_of b114 dX7_digest_85
theorem t114_85 {d : Nat} {h : Hp} {Q : Pst} {l0 l2 l3 : Value} {x : Int64} {st : List Value} : T d 114 85 [l0, .long x, l2, l3] st h Q ↔ T d 114 86 [l0, .long x, l2, l3] (.long x :: st) h Q := T_lload_n c114_85 rfl
theorem c114_86 : cod 114 86 = some (.lmul, 1) := cod_of b114 dX7_digest_86
theorem t114_86 {d : Nat} {h : Hp} {Q : Pst} {x y : Int64} {ls : List Value} {st : List Value} : T d 114 86 ls (.long y :: .long x :: st) h Q ↔ T d 114 87 ls (.long (x * y) :: st) h Q := T_lmul c114_86
theorem c114_87 : cod 114 87 = some (.aload_n 0, 1) := cod_of b114 dX7_digest_87
theorem t114_87 {d : Nat} {h : Hp} {Q : Pst} {l1 l2 l3 : Value} {x : Nat} {st : List Value} : T d 114 87 [.ref x, l1, l2, l3] st h Q ↔ T d 114 88 [.ref x, l1, l2, l3] (.ref x :: st) h Q := T_aload_n c114_87 rfl
theorem c114_88 : cod 114 88 = some (.getfield 10, 3) := cod_of b114 dX7_digest_88
theorem t114_88 {d : Nat} {h : Hp} {Q : Pst} {a : Nat} {ls : List Value} {st : List Value} : T d 114 88 ls (.ref a :: st) h Q ↔ gF (h.2.2 a) 6 0 (fun v => T d 114 91 ls (v :: st) h Q) := T_getfieldR m114 c114_88 f7_10
theorem c114_91 : cod 114 91 = some (.getfield 123, 3) := cod_of b114 dX7_digest_91
theorem t114_91 {d : Nat} {h : Hp} {Q : Pst} {a : Nat} {ls : List Value} {st : List Value} : T d 114 91 ls (.ref a :: st) h Q ↔ gF (h.2.2 a) 5 2 (fun v => T d 114 94 ls (v :: st) h Q) := T_getfieldR m114 c114_91 f7_123
theorem c114_94 : cod 114 94 = some (.iload_n 3, 1) := cod_of b114 dX7_digest_94
theorem t114_94 {d : Nat} {h : Hp} {Q : Pst} {l0 l1 l2 : Value} {x : Int32} {st : List Value} : T d 114 94 [l0, l1, l2, .int x] st h Q ↔ T d 114 95 [l0, l1, l2, .int x] (.int x :: st) h Q := T_iload_n c114_94 rfl
theorem c114_95 : cod 114 95 = some (.invokestatic 126, 3) := cod_of b114 dX7_digest_95
theorem t114_95 {d : Nat} {h : Hp} {Q : Pst} {a0 : Nat} {a1 : Int32} {s0 : Int64} {ls : List Value} : T (d + 1) 114 95 ls [.int a1, .ref a0, .long s0] h Q ↔ T d 122 0 [.ref a0, .int a1] [] h (fun x h2 => T (d + 1) 114 98 ls (rl x [.long s0]) h2 Q) := T_staticR (as := [.ref a0, .int a1]) (r := [.long s0]) m114 m122 c114_95 k7_126 (Or.inl rfl) rfl (by decide) rfl (by simp [wrd, Value.category]) (by simp [stk, Value.category]) rfl
theorem c114_98 : cod 114 98 = some (.i2l, 1) := cod_of b114 dX7_digest_98
theorem t114_98 {d : Nat} {h : Hp} {Q : Pst} {x : Int32} {ls : List Value} {st : List Value} : T d 114 98 ls (.int x :: st) h Q ↔ T d 114 99 ls (.long x.toInt64 :: st) h Q := T_i2l c114_98
theorem c114_99 : cod 114 99 = some (.ladd, 1) := cod_of b114 dX7_digest_99
theorem t114_99 {d : Nat} {h : Hp} {Q : Pst} {x y : Int64} {ls : List Value} {st : List Value} : T d 114 99 ls (.long y :: .long x :: st) h Q ↔ T d 114 100 ls (.long (x + y) :: st) h Q := T_ladd c114_99
theorem c114_100 : cod 114 100 = some (.lstore_n 1, 1) := cod_of b114 dX7_digest_100
theorem t114_100 {d : Nat} {h : Hp} {Q : Pst} {l0 l1 l2 l3 : Value} {x : Int64} {st : List Value} : T d 114 100 [l0, l1, l2, l3] (.long x :: st) h Q ↔ T d 114 101 [kil l0, .long x, un, l3] st h Q := T_lstore_n c114_100 (Nat.le_of_ble_eq_true rfl)
theorem c114_101 : cod 114 101 = some (.iinc 3 1, 3) := cod_of b114 dX7_digest_101
theorem t114_101 {d : Nat} {h : Hp} {Q : Pst} {l0 l1 l2 : Value} {x : Int32} {st : List Value} : T d 114 101 [l0, l1, l2, .int x] st h Q ↔ T d 114 104 [l0, l1, kil l2, .int (x + 1)] st h Q := T_iincV c114_101 rfl (Nat.le_of_ble_eq_true rfl) (by decide) rfl
theorem c114_104 : cod 114 104 = some (.goto (-71), 3) := cod_of b114 dX7_digest_104
theorem t114_104 {d : Nat} {h : Hp} {Q : Pst} {ls : List Value} {st : List Value} : T d 114 104 ls st h Q ↔ T d 114 33 ls st h Q := T_goto c114_104 (by decide)
theorem c114_107 : cod 114 107 = some (.iconst 0, 1) := cod_of b114 dX7_digest_107
theorem t114_107 {d : Nat} {h : Hp} {Q : Pst} {ls : List Value} {st : List Value} : T d 114 107 ls st h Q ↔ T d 114 108 ls (.int 0 :: st) h Q := T_iconstV c114_107 (by decide)
theorem c114_108 : cod 114 108 = some (.istore_n 3, 1) := cod_of b114 dX7_digest_108
theorem t114_108 {d : Nat} {h : Hp} {Q : Pst} {l0 l1 l2 l3 : Value} {x : Int32} {st : List Value} : T d 114 108 [l0, l1, l2, l3] (.int x :: st) h Q ↔ T d 114 109 [l0, l1, kil l2, .int x] st h Q := T_istore_n c114_108 (Nat.le_of_ble_eq_true rfl)
theorem c114_109 : cod 114 109 = some (.iload_n 3, 1) := cod_of b114 dX7_digest_109
theorem t114_109 {d : Nat} {h : Hp} {Q : Pst} {l0 l1 l2 : Value} {x : Int32} {st : List Value} : T d 114 109 [l0, l1, l2, .int x] st h Q ↔ T d 114 110 [l0, l1, l2, .int x] (.int x :: st) h Q := T_iload_n c114_109 rfl
theorem c114_110 : cod 114 110 = some (.aload_n 0, 1) := cod_of b114 dX7_digest_110
theorem t114_110 {d : Nat} {h : Hp} {Q : Pst} {l1 l2 l3 : Value} {x : Nat} {st : List Value} : T d 114 110 [.ref x, l1, l2, l3] st h Q ↔ T d 114 111 [.ref x, l1, l2, l3] (.ref x :: st) h Q := T_aload_n c114_110 rfl
theorem c114_111 : cod 114 111 = some (.getfield 10, 3) := cod_of b114 dX7_digest_111
theorem t114_111 {d : Nat} {h : Hp} {Q : Pst} {a : Nat} {ls : List Value} {st : List Value} : T d 114 111 ls (.ref a :: st) h Q ↔ gF (h.2.2 a) 6 0 (fun v => T d 114 114 ls (v :: st) h Q) := T_getfieldR m114 c114_111 f7_10
theorem c114_114 : cod 114 114 = some (.getfield 81, 3) := cod_of b114 dX7_digest_114
theorem t114_114 {d : Nat} {h : Hp} {Q : Pst} {a : Nat} {ls : List Value} {st : List Value} : T d 114 114 ls (.ref a :: st) h Q ↔ gF (h.2.2 a) 5 11 (fun v => T d 114 117 ls (v :: st) h Q) := T_getfieldR m114 c114_114 f7_81
theorem c114_117 : cod 114 117 = some (.if_icmp .ge 66, 3) := cod_of b114 dX7_digest_117
theorem t114_117 {d : Nat} {h : Hp} {Q : Pst} {x y : Int32} {ls : List Value} {st : List Value} : T d 114 117 ls (.int y :: .int x :: st) h Q ↔ (if y ≤ x then T d 114 183 ls st h Q else T d 114 120 ls st h Q) := T_icmp_ge c114_117 (by decide)
theorem c114_120 : cod 114 120 = some (.ldc2_w 303, 3) := cod_of b114 dX7_digest_120
theorem t114_120 {d : Nat} {h : Hp} {Q : Pst} {ls : List Value} {st : List Value} : T d 114 120 ls st h Q ↔ T d 114 123 ls (.long 31 :: st) h Q := T_ldc2_wR m114 c114_120 (by decide +kernel)
theorem c114_123 : cod 114 123 = some (.lload_n 1, 1) := cod_of b114 dX7_digest_123
theorem t114_123 {d : Nat} {h : Hp} {Q : Pst} {l0 l2 l3 : Value} {x : Int64} {st : List Value} : T d 114 123 [l0, .long x, l2, l3] st h Q ↔ T d 114 124 [l0, .long x, l2, l3] (.long x :: st) h Q := T_lload_n c114_123 rfl
theorem c114_124 : cod 114 124 = some (.lmul, 1) := cod_of b114 dX7_digest_124
theorem t114_124 {d : Nat} {h : Hp} {Q : Pst} {x y : Int64} {ls : List Value} {st : List Value} : T d 114 124 ls (.long y :: .long x :: st) h Q ↔ T d 114 125 ls (.long (x * y) :: st) h Q := T_lmul c114_124
theorem c114_125 : cod 114 125 = some (.aload_n 0, 1) := cod_of b114 dX7_digest_125
theorem t114_125 {d : Nat} {h : Hp} {Q : Pst} {l1 l2 l3 : Value} {x : Nat} {st : List Value} : T d 114 125 [.ref x, l1, l2, l3] st h Q ↔ T d 114 126 [.ref x, l1, l2, l3] (.ref x :: st) h Q := T_aload_n c114_125 rfl
theorem c114_126 : cod 114 126 = some (.getfield 10, 3) := cod_of b114 dX7_digest_126
theorem t114_126 {d : Nat} {h : Hp} {Q : Pst} {a : Nat} {ls : List Value} {st : List Value} : T d 114 126 ls (.ref a :: st) h Q ↔ gF (h.2.2 a) 6 0 (fun v => T d 114 129 ls (v :: st) h Q) := T_getfieldR m114 c114_126 f7_10
theorem c114_129 : cod 114 129 = some (.getfield 171, 3) := cod_of b114 dX7_digest_129
theorem t114_129 {d : Nat} {h : Hp} {Q : Pst} {a : Nat} {ls : List Value} {st : List Value} : T d 114 129 ls (.ref a :: st) h Q ↔ gF (h.2.2 a) 5 3 (fun v => T d 114 132 ls (v :: st) h Q) := T_getfieldR m114 c114_129 f7_171
theorem c114_132 : cod 114 132 = some (.iload_n 3, 1) := cod_of b114 dX7_digest_132
theorem t114_132 {d : Nat} {h : Hp} {Q : Pst} {l0 l1 l2 : Value} {x : Int32} {st : List Value} : T d 114 132 [l0, l1, l2, .int x] st h Q ↔ T d 114 133 [l0, l1, l2, .int x] (.int x :: st) h Q := T_iload_n c114_132 rfl
theorem c114_133 : cod 114 133 = some (.invokestatic 126, 3) := cod_of b114 dX7_digest_133
theorem t114_133 {d : Nat} {h : Hp} {Q : Pst} {a0 : Nat} {a1 : Int32} {s0 : Int64} {ls : List Value} : T (d + 1) 114 133 ls [.int a1, .ref a0, .long s0] h Q ↔ T d 122 0 [.ref a0, .int a1] [] h (fun x h2 => T (d + 1) 114 136 ls (rl x [.long s0]) h2 Q) := T_staticR (as := [.ref a0, .int a1]) (r := [.long s0]) m114 m122 c114_133 k7_126 (Or.inl rfl) rfl (by decide) rfl (by simp [wrd, Value.category]) (by simp [stk, Value.category]) rfl
theorem c114_136 : cod 114 136 = some (.i2l, 1) := cod_of b114 dX7_digest_136
theorem t114_136 {d : Nat} {h : Hp} {Q : Pst} {x : Int32} {ls : List Value} {st : List Value} : T d 114 136 ls (.int x :: st) h Q ↔ T d 114 137 ls (.long x.toInt64 :: st) h Q := T_i2l c114_136
theorem c114_137 : cod 114 137 = some (.ladd, 1) := cod_of b114 dX7_digest_137
theorem t114_137 {d : Nat} {h : Hp} {Q : Pst} {x y : Int64} {ls : List Value} {st : List Value} : T d 114 137 ls (.long y :: .long x :: st) h Q ↔ T d 114 138 ls (.long (x + y) :: st) h Q := T_ladd c114_137
theorem c114_138 : cod 114 138 = some (.lstore_n 1, 1) := cod_of b114 dX7_digest_138
theorem t114_138 {d : Nat} {h : Hp} {Q : Pst} {l0 l1 l2 l3 : Value} {x : Int64} {st : List Value} : T d 114 138 [l0, l1, l2, l3] (.long x :: st) h Q ↔ T d 114 139 [kil l0, .long x, un, l3] st h Q := T_lstore_n c114_138 (Nat.le_of_ble_eq_true rfl)
theorem c114_139 : cod 114 139 = some (.ldc2_w 303, 3) := cod_of b114 dX7_digest_139
theorem t114_139 {d : Nat} {h : Hp} {Q : Pst} {ls : List Value} {st : List Value} : T d 114 139 ls st h Q ↔ T d 114 142 ls (.long 31 :: st) h Q := T_ldc2_wR m114 c114_139 (by decide +kernel)
theorem c114_142 : cod 114 142 = some (.lload_n 1, 1) := cod_of b114 dX7_digest_142
theorem t114_142 {d : Nat} {h : Hp} {Q : Pst} {l0 l2 l3 : Value} {x : Int64} {st : List Value} : T d 114 142 [l0, .long x, l2, l3] st h Q ↔ T d 114 143 [l0, .long x, l2, l3] (.long x :: st) h Q := T_lload_n c114_142 rfl
theorem c114_143 : cod 114 143 = some (.lmul, 1) := cod_of b114 dX7_digest_143
theorem t114_143 {d : Nat} {h : Hp} {Q : Pst} {x y : Int64} {ls : List Value} {st : List Value} : T d 114 143 ls (.long y :: .long x :: st) h Q ↔ T d 114 144 ls (.long (x * y) :: st) h Q := T_lmul c114_143
theorem c114_144 : cod 114 144 = some (.aload_n 0, 1) := cod_of b114 dX7_digest_144
theorem t114_144 {d : Nat} {h : Hp} {Q : Pst} {l1 l2 l3 : Value} {x : Nat} {st : List Value} : T d 114 144 [.ref x, l1, l2, l3] st h Q ↔ T d 114 145 [.ref x, l1, l2, l3] (.ref x :: st) h Q := T_aload_n c114_144 rfl
theorem c114_145 : cod 114 145 = some (.getfield 10, 3) := cod_of b114 dX7_digest_145
theorem t114_145 {d : Nat} {h : Hp} {Q : Pst} {a : Nat} {ls : List Value} {st : List Value} : T d 114 145 ls (.ref a :: st) h Q ↔ gF (h.2.2 a) 6 0 (fun v => T d 114 148 ls (v :: st) h Q) := T_getfieldR m114 c114_145 f7_10
theorem c114_148 : cod 114 148 = some (.getfield 174, 3) := cod_of b114 dX7_digest_148
theorem t114_148 {d : Nat} {h : Hp} {Q : Pst} {a : Nat} {ls : List Value} {st : List Value} : T d 114 148 ls (.ref a :: st) h Q ↔ gF (h.2.2 a) 5 4 (fun v => T d 114 151 ls (v :: st) h Q) := T_getfieldR m114 c114_148 f7_174
theorem c114_151 : cod 114 151 = some (.iload_n 3, 1) := cod_of b114 dX7_digest_151
theorem t114_151 {d : Nat} {h : Hp} {Q : Pst} {l0 l1 l2 : Value} {x : Int32} {st : List Value} : T d 114 151 [l0, l1, l2, .int x] st h Q ↔ T d 114 152 [l0, l1, l2, .int x] (.int x :: st) h Q := T_iload_n c114_151 rfl
theorem c114_152 : cod 114 152 = some (.invokestatic 126, 3) := cod_of b114 dX7_digest_152
theorem t114_152 {d : Nat} {h : Hp} {Q : Pst} {a0 : Nat} {a1 : Int32} {s0 : Int64} {ls : List Value} : T (d + 1) 114 152 ls [.int a1, .ref a0, .long s0] h Q ↔ T d 122 0 [.ref a0, .int a1] [] h (fun x h2 => T (d + 1) 114 155 ls (rl x [.long s0]) h2 Q) := T_staticR (as := [.ref a0, .int a1]) (r := [.long s0]) m114 m122 c114_152 k7_126 (Or.inl rfl) rfl (by decide) rfl (by simp [wrd, Value.category]) (by simp [stk, Value.category]) rfl
theorem c114_155 : cod 114 155 = some (.i2l, 1) := cod_of b114 dX7_digest_155
theorem t114_155 {d : Nat} {h : Hp} {Q : Pst} {x : Int32} {ls : List Value} {st : List Value} : T d 114 155 ls (.int x :: st) h Q ↔ T d 114 156 ls (.long x.toInt64 :: st) h Q := T_i2l c114_155
theorem c114_156 : cod 114 156 = some (.ladd, 1) := cod_of b114 dX7_digest_156
theorem t114_156 {d : Nat} {h : Hp} {Q : Pst} {x y : Int64} {ls : List Value} {st : List Value} : T d 114 156 ls (.long y :: .long x :: st) h Q ↔ T d 114 157 ls (.long (x + y) :: st) h Q := T_ladd c114_156
theorem c114_157 : cod 114 157 = some (.lstore_n 1, 1) := cod_of b114 dX7_digest_157
theorem t114_157 {d : Nat} {h : Hp} {Q : Pst} {l0 l1 l2 l3 : Value} {x : Int64} {st : List Value} : T d 114 157 [l0, l1, l2, l3] (.long x :: st) h Q ↔ T d 114 158 [kil l0, .long x, un, l3] st h Q := T_lstore_n c114_157 (Nat.le_of_ble_eq_true rfl)
theorem c114_158 : cod 114 158 = some (.ldc2_w 303, 3) := cod_of b114 dX7_digest_158
theorem t114_158 {d : Nat} {h : Hp} {Q : Pst} {ls : List Value} {st : List Value} : T d 114 158 ls st h Q ↔ T d 114 161 ls (.long 31 :: st) h Q := T_ldc2_wR m114 c114_158 (by decide +kernel)
theorem c114_161 : cod 114 161 = some (.lload_n 1, 1) := cod_of b114 dX7_digest_161
theorem t114_161 {d : Nat} {h : Hp} {Q : Pst} {l0 l2 l3 : Value} {x : Int64} {st : List Value} : T d 114 161 [l0, .long x, l2, l3] st h Q ↔ T d 114 162 [l0, .long x, l2, l3] (.long x :: st) h Q := T_lload_n c114_161 rfl
theorem c114_162 : cod 114 162 = some (.lmul, 1) := cod_of b114 dX7_digest_162
theorem t114_162 {d : Nat} {h : Hp} {Q : Pst} {x y : Int64} {ls : List Value} {st : List Value} : T d 114 162 ls (.long y :: .long x :: st) h Q ↔ T d 114 163 ls (.long (x * y) :: st) h Q := T_lmul c114_162
theorem c114_163 : cod 114 163 = some (.aload_n 0, 1) := cod_of b114 dX7_digest_163
theorem t114_163 {d : Nat} {h : Hp} {Q : Pst} {l1 l2 l3 : Value} {x : Nat} {st : List Value} : T d 114 163 [.ref x, l1, l2, l3] st h Q ↔ T d 114 164 [.ref x, l1, l2, l3] (.ref x :: st) h Q := T_aload_n c114_163 rfl
theorem c114_164 : cod 114 164 = some (.getfield 10, 3) := cod_of b114 dX7_digest_164
theorem t114_164 {d : Nat} {h : Hp} {Q : Pst} {a : Nat} {ls : List Value} {st : List Value} : T d 114 164 ls (.ref a :: st) h Q ↔ gF (h.2.2 a) 6 0 (fun v => T d 114 167 ls (v :: st) h Q) := T_getfieldR m114 c114_164 f7_10
theorem c114_167 : cod 114 167 = some (.getfield 177, 3) := cod_of b114 dX7_digest_167
theorem t114_167 {d : Nat} {h : Hp} {Q : Pst} {a : Nat} {ls : List Value} {st : List Value} : T d 114 167 ls (.ref a :: st) h Q ↔ gF (h.2.2 a) 5 5 (fun v => T d 114 170 ls (v :: st) h Q) := T_getfieldR m114 c114_167 f7_177
theorem c114_170 : cod 114 170 = some (.iload_n 3, 1) := cod_of b114 dX7_digest_170
theorem t114_170 {d : Nat} {h : Hp} {Q : Pst} {l0 l1 l2 : Value} {x : Int32} {st : List Value} : T d 114 170 [l0, l1, l2, .int x] st h Q ↔ T d 114 171 [l0, l1, l2, .int x] (.int x :: st) h Q := T_iload_n c114_170 rfl
theorem c114_171 : cod 114 171 = some (.invokestatic 126, 3) := cod_of b114 dX7_digest_171
theorem t114_171 {d : Nat} {h : Hp} {Q : Pst} {a0 : Nat} {a1 : Int32} {s0 : Int64} {ls : List Value} : T (d + 1) 114 171 ls [.int a1, .ref a0, .long s0] h Q ↔ T d 122 0 [.ref a0, .int a1] [] h (fun x h2 => T (d + 1) 114 174 ls (rl x [.long s0]) h2 Q) := T_staticR (as := [.ref a0, .int a1]) (r := [.long s0]) m114 m122 c114_171 k7_126 (Or.inl rfl) rfl (by decide) rfl (by simp [wrd, Value.category]) (by simp [stk, Value.category]) rfl
theorem c114_174 : cod 114 174 = some (.i2l, 1) := cod_of b114 dX7_digest_174
theorem t114_174 {d : Nat} {h : Hp} {Q : Pst} {x : Int32} {ls : List Value} {st : List Value} : T d 114 174 ls (.int x :: st) h Q ↔ T d 114 175 ls (.long x.toInt64 :: st) h Q := T_i2l c114_174
theorem c114_175 : cod 114 175 = some (.ladd, 1) := cod_of b114 dX7_digest_175
theorem t114_175 {d : Nat} {h : Hp} {Q : Pst} {x y : Int64} {ls : List Value} {st : List Value} : T d 114 175 ls (.long y :: .long x :: st) h Q ↔ T d 114 176 ls (.long (x + y) :: st) h Q := T_ladd c114_175
theorem c114_176 : cod 114 176 = some (.lstore_n 1, 1) := cod_of b114 dX7_digest_176
theorem t114_176 {d : Nat} {h : Hp} {Q : Pst} {l0 l1 l2 l3 : Value} {x : Int64} {st : List Value} : T d 114 176 [l0, l1, l2, l3] (.long x :: st) h Q ↔ T d 114 177 [kil l0, .long x, un, l3] st h Q := T_lstore_n c114_176 (Nat.le_of_ble_eq_true rfl)
theorem c114_177 : cod 114 177 = some (.iinc 3 1, 3) := cod_of b114 dX7_digest_177
theorem t114_177 {d : Nat} {h : Hp} {Q : Pst} {l0 l1 l2 : Value} {x : Int32} {st : List Value} : T d 114 177 [l0, l1, l2, .int x] st h Q ↔ T d 114 180 [l0, l1, kil l2, .int (x + 1)] st h Q := T_iincV c114_177 rfl (Nat.le_of_ble_eq_true rfl) (by decide) rfl
theorem c114_180 : cod 114 180 = some (.goto (-71), 3) := cod_of b114 dX7_digest_180
theorem t114_180 {d : Nat} {h : Hp} {Q : Pst} {ls : List Value} {st : List Value} : T d 114 180 ls st h Q ↔ T d 114 109 ls st h Q := T_goto c114_180 (by decide)
theorem c114_183 : cod 114 183 = some (.aload_n 0, 1) := cod_of b114 dX7_digest_183
theorem t114_183 {d : Nat} {h : Hp} {Q : Pst} {l1 l2 l3 : Value} {x : Nat} {st : List Value} : T d 114 183 [.ref x, l1, l2, l3] st h Q ↔ T d 114 184 [.ref x, l1, l2, l3] (.ref x :: st) h Q := T_aload_n c114_183 rfl
theorem c114_184 : cod 114 184 = some (.getfield 10, 3) := cod_of b114 dX7_digest_184
theorem t114_184 {d : Nat} {h : Hp} {Q : Pst} {a : Nat} {ls : List Value} {st : List Value} : T d 114 184 ls (.ref a :: st) h Q ↔ gF (h.2.2 a) 6 0 (fun v => T d 114 187 ls (v :: st) h Q) := T_getfieldR m114 c114_184 f7_10
theorem c114_187 : cod 114 187 = some (.getfield 218, 3) := cod_of b114 dX7_digest_187
theorem t114_187 {d : Nat} {h : Hp} {Q : Pst} {a : Nat} {ls : List Value} {st : List Value} : T d 114 187 ls (.ref a :: st) h Q ↔ gF (h.2.2 a) 5 6 (fun v => T d 114 190 ls (v :: st) h Q) := T_getfieldR m114 c114_187 f7_218
theorem c114_190 : cod 114 190 = some (.lload_n 1, 1) := cod_of b114 dX7_digest_190
theorem t114_190 {d : Nat} {h : Hp} {Q : Pst} {l0 l2 l3 : Value} {x : Int64} {st : List Value} : T d 114 190 [l0, .long x, l2, l3] st h Q ↔ T d 114 191 [l0, .long x, l2, l3] (.long x :: st) h Q := T_lload_n c114_190 rfl
theorem c114_191 : cod 114 191 = some (.invokevirtual 305, 3) := cod_of b114 dX7_digest_191
theorem t114_191 {d : Nat} {h : Hp} {Q : Pst} {a0 : Int64} {a : Nat} {ls : List Value} (ho : isO (h.2.2 a) 3) : T (d + 1) 114 191 ls [.long a0, .ref a] h Q ↔ T d 44 0 [.ref a, .long a0, un, un, un, un] [] h (fun x h2 => T (d + 1) 114 194 ls (rl x []) h2 Q) := T_virtualR (as := [.long a0]) (r := []) m114 m44 c114_191 k7_305  rfl (by decide) rfl (by simp [wrd, Value.category]) (by simp [stk, Value.category]) rfl (by decide +kernel) ho
theorem c114_194 : cod 114 194 = some (.lstore_n 1, 1) := cod_of b114 dX7_digest_194
theorem t114_194 {d : Nat} {h : Hp} {Q : Pst} {l0 l1 l2 l3 : Value} {x : Int64} {st : List Value} : T d 114 194 [l0, l1, l2, l3] (.long x :: st) h Q ↔ T d 114 195 [kil l0, .long x, un, l3] st h Q := T_lstore_n c114_194 (Nat.le_of_ble_eq_true rfl)
theorem c114_195 : cod 114 195 = some (.aload_n 0, 1) := cod_of b114 dX7_digest_195
theorem t114_195 {d : Nat} {h : Hp} {Q : Pst} {l1 l2 l3 : Value} {x : Nat} {st : List Value} : T d 114 195 [.ref x, l1, l2, l3] st h Q ↔ T d 114 196 [.ref x, l1, l2, l3] (.ref x :: st) h Q := T_aload_n c114_195 rfl
theorem c114_196 : cod 114 196 = some (.getfield 10, 3) := cod_of b114 dX7_digest_196
theorem t114_196 {d : Nat} {h : Hp} {Q : Pst} {a : Nat} {ls : List Value} {st : List Value} : T d 114 196 ls (.ref a :: st) h Q ↔ gF (h.2.2 a) 6 0 (fun v => T d 114 199 ls (v :: st) h Q) := T_getfieldR m114 c114_196 f7_10
theorem c114_199 : cod 114 199 = some (.getfield 245, 3) := cod_of b114 dX7_digest_199
theorem t114_199 {d : Nat} {h : Hp} {Q : Pst} {a : Nat} {ls : List Value} {st : List Value} : T d 114 199 ls (.ref a :: st) h Q ↔ gF (h.2.2 a) 5 7 (fun v => T d 114 202 ls (v :: st) h Q) := T_getfieldR m114 c114_199 f7_245
theorem c114_202 : cod 114 202 = some (.lload_n 1, 1) := cod_of b114 dX7_digest_202
theorem t114_202 {d : Nat} {h : Hp} {Q : Pst} {l0 l2 l3 : Value} {x : Int64} {st : List Value} : T d 114 202 [l0, .long x, l2, l3] st h Q ↔ T d 114 203 [l0, .long x, l2, l3] (.long x :: st) h Q := T_lload_n c114_202 rfl
theorem c114_203 : cod 114 203 = some (.invokevirtual 305, 3) := cod_of b114 dX7_digest_203
theorem t114_203 {d : Nat} {h : Hp} {Q : Pst} {a0 : Int64} {a : Nat} {ls : List Value} (ho : isO (h.2.2 a) 3) : T (d + 1) 114 203 ls [.long a0, .ref a] h Q ↔ T d 44 0 [.ref a, .long a0, un, un, un, un] [] h (fun x h2 => T (d + 1) 114 206 ls (rl x []) h2 Q) := T_virtualR (as := [.long a0]) (r := []) m114 m44 c114_203 k7_305  rfl (by decide) rfl (by simp [wrd, Value.category]) (by simp [stk, Value.category]) rfl (by decide +kernel) ho
theorem c114_206 : cod 114 206 = some (.lstore_n 1, 1) := cod_of b114 dX7_digest_206
theorem t114_206 {d : Nat} {h : Hp} {Q : Pst} {l0 l1 l2 l3 : Value} {x : Int64} {st : List Value} : T d 114 206 [l0, l1, l2, l3] (.long x :: st) h Q ↔ T d 114 207 [kil l0, .long x, un, l3] st h Q := T_lstore_n c114_206 (Nat.le_of_ble_eq_true rfl)
theorem c114_207 : cod 114 207 = some (.aload_n 0, 1) := cod_of b114 dX7_digest_207
theorem t114_207 {d : Nat} {h : Hp} {Q : Pst} {l1 l2 l3 : Value} {x : Nat} {st : List Value} : T d 114 207 [.ref x, l1, l2, l3] st h Q ↔ T d 114 208 [.ref x, l1, l2, l3] (.ref x :: st) h Q := T_aload_n c114_207 rfl
theorem c114_208 : cod 114 208 = some (.getfield 10, 3) := cod_of b114 dX7_digest_208
theorem t114_208 {d : Nat} {h : Hp} {Q : Pst} {a : Nat} {ls : List Value} {st : List Value} : T d 114 208 ls (.ref a :: st) h Q ↔ gF (h.2.2 a) 6 0 (fun v => T d 114 211 ls (v :: st) h Q) := T_getfieldR m114 c114_208 f7_10
theorem c114_211 : cod 114 211 = some (.getfield 248, 3) := cod_of b114 dX7_digest_211
theorem t114_211 {d : Nat} {h : Hp} {Q : Pst} {a : Nat} {ls : List Value} {st : List Value} : T d 114 211 ls (.ref a :: st) h Q ↔ gF (h.2.2 a) 5 8 (fun v => T d 114 214 ls (v :: st) h Q) := T_getfieldR m114 c114_211 f7_248
theorem c114_214 : cod 114 214 = some (.lload_n 1, 1) := cod_of b114 dX7_digest_214
theorem t114_214 {d : Nat} {h : Hp} {Q : Pst} {l0 l2 l3 : Value} {x : Int64} {st : List Value} : T d 114 214 [l0, .long x, l2, l3] st h Q ↔ T d 114 215 [l0, .long x, l2, l3] (.long x :: st) h Q := T_lload_n c114_214 rfl
theorem c114_215 : cod 114 215 = some (.invokevirtual 305, 3) := cod_of b114 dX7_digest_215
theorem t114_215 {d : Nat} {h : Hp} {Q : Pst} {a0 : Int64} {a : Nat} {ls : List Value} (ho : isO (h.2.2 a) 3) : T (d + 1) 114 215 ls [.long a0, .ref a] h Q ↔ T d 44 0 [.ref a, .long a0, un, un, un, un] [] h (fun x h2 => T (d + 1) 114 218 ls (rl x []) h2 Q) := T_virtualR (as := [.long a0]) (r := []) m114 m44 c114_215 k7_305  rfl (by decide) rfl (by simp [wrd, Value.category]) (by simp [stk, Value.category]) rfl (by decide +kernel) ho
theorem c114_218 : cod 114 218 = some (.lstore_n 1, 1) := cod_of b114 dX7_digest_218
theorem t114_218 {d : Nat} {h : Hp} {Q : Pst} {l0 l1 l2 l3 : Value} {x : Int64} {st : List Value} : T d 114 218 [l0, l1, l2, l3] (.long x :: st) h Q ↔ T d 114 219 [kil l0, .long x, un, l3] st h Q := T_lstore_n c114_218 (Nat.le_of_ble_eq_true rfl)
theorem c114_219 : cod 114 219 = some (.ldc2_w 303, 3) := cod_of b114 dX7_digest_219
theorem t114_219 {d : Nat} {h : Hp} {Q : Pst} {ls : List Value} {st : List Value} : T d 114 219 ls st h Q ↔ T d 114 222 ls (.long 31 :: st) h Q := T_ldc2_wR m114 c114_219 (by decide +kernel)
theorem c114_222 : cod 114 222 = some (.ldc2_w 303, 3) := cod_of b114 dX7_digest_222
theorem t114_222 {d : Nat} {h : Hp} {Q : Pst} {ls : List Value} {st : List Value} : T d 114 222 ls st h Q ↔ T d 114 225 ls (.long 31 :: st) h Q := T_ldc2_wR m114 c114_222 (by decide +kernel)
theorem c114_225 : cod 114 225 = some (.lload_n 1, 1) := cod_of b114 dX7_digest_225
theorem t114_225 {d : Nat} {h : Hp} {Q : Pst} {l0 l2 l3 : Value} {x : Int64} {st : List Value} : T d 114 225 [l0, .long x, l2, l3] st h Q ↔ T d 114 226 [l0, .long x, l2, l3] (.long x :: st) h Q := T_lload_n c114_225 rfl
theorem c114_226 : cod 114 226 = some (.lmul, 1) := cod_of b114 dX7_digest_226
theorem t114_226 {d : Nat} {h : Hp} {Q : Pst} {x y : Int64} {ls : List Value} {st : List Value} : T d 114 226 ls (.long y :: .long x :: st) h Q ↔ T d 114 227 ls (.long (x * y) :: st) h Q := T_lmul c114_226
theorem c114_227 : cod 114 227 = some (.aload_n 0, 1) := cod_of b114 dX7_digest_227
theorem t114_227 {d : Nat} {h : Hp} {Q : Pst} {l1 l2 l3 : Value} {x : Nat} {st : List Value} : T d 114 227 [.ref x, l1, l2, l3] st h Q ↔ T d 114 228 [.ref x, l1, l2, l3] (.ref x :: st) h Q := T_aload_n c114_227 rfl
theorem c114_228 : cod 114 228 = some (.getfield 55, 3) := cod_of b114 dX7_digest_228
theorem t114_228 {d : Nat} {h : Hp} {Q : Pst} {a : Nat} {ls : List Value} {st : List Value} : T d 114 228 ls (.ref a :: st) h Q ↔ gF (h.2.2 a) 6 8 (fun v => T d 114 231 ls (v :: st) h Q) := T_getfieldR m114 c114_228 f7_55
theorem c114_231 : cod 114 231 = some (.i2l, 1) := cod_of b114 dX7_digest_231
theorem t114_231 {d : Nat} {h : Hp} {Q : Pst} {x : Int32} {ls : List Value} {st : List Value} : T d 114 231 ls (.int x :: st) h Q ↔ T d 114 232 ls (.long x.toInt64 :: st) h Q := T_i2l c114_231
theorem c114_232 : cod 114 232 = some (.ladd, 1) := cod_of b114 dX7_digest_232
theorem t114_232 {d : Nat} {h : Hp} {Q : Pst} {x y : Int64} {ls : List Value} {st : List Value} : T d 114 232 ls (.long y :: .long x :: st) h Q ↔ T d 114 233 ls (.long (x + y) :: st) h Q := T_ladd c114_232
theorem c114_233 : cod 114 233 = some (.lmul, 1) := cod_of b114 dX7_digest_233
theorem t114_233 {d : Nat} {h : Hp} {Q : Pst} {x y : Int64} {ls : List Value} {st : List Value} : T d 114 233 ls (.long y :: .long x :: st) h Q ↔ T d 114 234 ls (.long (x * y) :: st) h Q := T_lmul c114_233
theorem c114_234 : cod 114 234 = some (.aload_n 0, 1) := cod_of b114 dX7_digest_234
theorem t114_234 {d : Nat} {h : Hp} {Q : Pst} {l1 l2 l3 : Value} {x : Nat} {st : List Value} : T d 114 234 [.ref x, l1, l2, l3] st h Q ↔ T d 114 235 [.ref x, l1, l2, l3] (.ref x :: st) h Q := T_aload_n c114_234 rfl
theorem c114_235 : cod 114 235 = some (.getfield 59, 3) := cod_of b114 dX7_digest_235
theorem t114_235 {d : Nat} {h : Hp} {Q : Pst} {a : Nat} {ls : List Value} {st : List Value} : T d 114 235 ls (.ref a :: st) h Q ↔ gF (h.2.2 a) 6 9 (fun v => T d 114 238 ls (v :: st) h Q) := T_getfieldR m114 c114_235 f7_59
theorem c114_238 : cod 114 238 = some (.i2l, 1) := cod_of b114 dX7_digest_238
theorem t114_238 {d : Nat} {h : Hp} {Q : Pst} {x : Int32} {ls : List Value} {st : List Value} : T d 114 238 ls (.int x :: st) h Q ↔ T d 114 239 ls (.long x.toInt64 :: st) h Q := T_i2l c114_238
theorem c114_239 : cod 114 239 = some (.ladd, 1) := cod_of b114 dX7_digest_239
theorem t114_239 {d : Nat} {h : Hp} {Q : Pst} {x y : Int64} {ls : List Value} {st : List Value} : T d 114 239 ls (.long y :: .long x :: st) h Q ↔ T d 114 240 ls (.long (x + y) :: st) h Q := T_ladd c114_239
theorem c114_240 : cod 114 240 = some (.lreturn, 1) := cod_of b114 dX7_digest_240
theorem t114_240 {d : Nat} {h : Hp} {Q : Pst} {x : Int64} {ls : List Value} : T d 114 240 ls [.long x] h Q ↔ Q (some (.long x)) h := T_lretR m114 c114_240 rfl
theorem b115 : (mR 115).2.2.1 = cX7_countOf := by rw [m115]
theorem c115_0 : cod 115 0 = some (.iload_n 1, 1) := cod_of b115 dX7_countOf_0
theorem t115_0 {d : Nat} {h : Hp} {Q : Pst} {l0 : Value} {x : Int32} {st : List Value} : T d 115 0 [l0, .int x] st h Q ↔ T d 115 1 [l0, .int x] (.int x :: st) h Q := T_iload_n c115_0 rfl
theorem c115_1 : cod 115 1 = some (.tableswitch 147 0 9 #[55, 63, 71, 79, 87, 95, 103, 114, 125, 136], 55) := cod_of b115 dX7_countOf_1
theorem t115_1 {d : Nat} {h : Hp} {Q : Pst} {x : Int32} {ls : List Value} {st : List Value} : T d 115 1 ls (.int x :: st) h Q ↔ swT (fun t => T d 115 t ls st h Q) x.toInt 0 [56, 64, 72, 80, 88, 96, 104, 115, 126, 137] 148 := T_tsw c115_1 (by decide) (by decide) (by decide)
theorem c115_148 : cod 115 148 = some (.aload_n 0, 1) := cod_of b115 dX7_countOf_148
theorem t115_148 {d : Nat} {h : Hp} {Q : Pst} {l1 : Value} {x : Nat} {st : List Value} : T d 115 148 [.ref x, l1] st h Q ↔ T d 115 149 [.ref x, l1] (.ref x :: st) h Q := T_aload_n c115_148 rfl
theorem c115_149 : cod 115 149 = some (.getfield 26, 3) := cod_of b115 dX7_countOf_149
theorem t115_149 {d : Nat} {h : Hp} {Q : Pst} {a : Nat} {ls : List Value} {st : List Value} : T d 115 149 ls (.ref a :: st) h Q ↔ gF (h.2.2 a) 6 3 (fun v => T d 115 152 ls (v :: st) h Q) := T_getfieldR m115 c115_149 f7_26
theorem c115_152 : cod 115 152 = some (.getfield 87, 3) := cod_of b115 dX7_countOf_152
theorem t115_152 {d : Nat} {h : Hp} {Q : Pst} {a : Nat} {ls : List Value} {st : List Value} : T d 115 152 ls (.ref a :: st) h Q ↔ gF (h.2.2 a) 2 1 (fun v => T d 115 155 ls (v :: st) h Q) := T_getfieldR m115 c115_152 f7_87
theorem c115_155 : cod 115 155 = some (.ireturn, 1) := cod_of b115 dX7_countOf_155
theorem t115_155 {d : Nat} {h : Hp} {Q : Pst} {x : Int32} {ls : List Value} : T d 115 155 ls [.int x] h Q ↔ Q (some (.int x)) h := T_iretR m115 c115_155 rfl
theorem c115_137 : cod 115 137 = some (.aload_n 0, 1) := cod_of b115 dX7_countOf_137
theorem t115_137 {d : Nat} {h : Hp} {Q : Pst} {l1 : Value} {x : Nat} {st : List Value} : T d 115 137 [.ref x, l1] st h Q ↔ T d 115 138 [.ref x, l1] (.ref x :: st) h Q := T_aload_n c115_137 rfl
theorem c115_138 : cod 115 138 = some (.getfield 10, 3) := cod_of b115 dX7_countOf_138
theorem t115_138 {d : Nat} {h : Hp} {Q : Pst} {a : Nat} {ls : List Value} {st : List Value} : T d 115 138 ls (.ref a :: st) h Q ↔ gF (h.2.2 a) 6 0 (fun v => T d 115 141 ls (v :: st) h Q) := T_getfieldR m115 c115_138 f7_10
theorem c115_141 : cod 115 141 = some (.getfield 150, 3) := cod_of b115 dX7_countOf_141
theorem t115_141 {d : Nat} {h : Hp} {Q : Pst} {a : Nat} {ls : List Value} {st : List Value} : T d 115 141 ls (.ref a :: st) h Q ↔ gF (h.2.2 a) 5 9 (fun v => T d 115 144 ls (v :: st) h Q) := T_getfieldR m115 c115_141 f7_150
theorem c115_144 : cod 115 144 = some (.getfield 154, 3) := cod_of b115 dX7_countOf_144
theorem t115_144 {d : Nat} {h : Hp} {Q : Pst} {a : Nat} {ls : List Value} {st : List Value} : T d 115 144 ls (.ref a :: st) h Q ↔ gF (h.2.2 a) 3 3 (fun v => T d 115 147 ls (v :: st) h Q) := T_getfieldR m115 c115_144 f7_154
theorem c115_147 : cod 115 147 = some (.ireturn, 1) := cod_of b115 dX7_countOf_147
theorem t115_147 {d : Nat} {h : Hp} {Q : Pst} {x : Int32} {ls : List Value} : T d 115 147 ls [.int x] h Q ↔ Q (some (.int x)) h := T_iretR m115 c115_147 rfl
theorem c115_126 : cod 115 126 = some (.aload_n 0, 1) := cod_of b115 dX7_countOf_126
theorem t115_126 {d : Nat} {h : Hp} {Q : Pst} {l1 : Value} {x : Nat} {st : List Value} : T d 115 126 [.ref x, l1] st h Q ↔ T d 115 127 [.ref x, l1] (.ref x :: st) h Q := T_aload_n c115_126 rfl
theorem c115_127 : cod 115 127 = some (.getfield 10, 3) := cod_of b115 dX7_countOf_127
theorem t115_127 {d : Nat} {h : Hp} {Q : Pst} {a : Nat} {ls : List Value} {st : List Value} : T d 115 127 ls (.ref a :: st) h Q ↔ gF (h.2.2 a) 6 0 (fun v => T d 115 130 ls (v :: st) h Q) := T_getfieldR m115 c115_127 f7_10
theorem c115_130 : cod 115 130 = some (.getfield 248, 3) := cod_of b115 dX7_countOf_130
theorem t115_130 {d : Nat} {h : Hp} {Q : Pst} {a : Nat} {ls : List Value} {st : List Value} : T d 115 130 ls (.ref a :: st) h Q ↔ gF (h.2.2 a) 5 8 (fun v => T d 115 133 ls (v :: st) h Q) := T_getfieldR m115 c115_130 f7_248
theorem c115_133 : cod 115 133 = some (.getfield 154, 3) := cod_of b115 dX7_countOf_133
theorem t115_133 {d : Nat} {h : Hp} {Q : Pst} {a : Nat} {ls : List Value} {st : List Value} : T d 115 133 ls (.ref a :: st) h Q ↔ gF (h.2.2 a) 3 3 (fun v => T d 115 136 ls (v :: st) h Q) := T_getfieldR m115 c115_133 f7_154
theorem c115_136 : cod 115 136 = some (.ireturn, 1) := cod_of b115 dX7_countOf_136
theorem t115_136 {d : Nat} {h : Hp} {Q : Pst} {x : Int32} {ls : List Value} : T d 115 136 ls [.int x] h Q ↔ Q (some (.int x)) h := T_iretR m115 c115_136 rfl
theorem c115_115 : cod 115 115 = some (.aload_n 0, 1) := cod_of b115 dX7_countOf_115
theorem t115_115 {d : Nat} {h : Hp} {Q : Pst} {l1 : Value} {x : Nat} {st : List Value} : T d 115 115 [.ref x, l1] st h Q ↔ T d 115 116 [.ref x, l1] (.ref x :: st) h Q := T_aload_n c115_115 rfl
theorem c115_116 : cod 115 116 = some (.getfield 10, 3) := cod_of b115 dX7_countOf_116
theorem t115_116 {d : Nat} {h : Hp} {Q : Pst} {a : Nat} {ls : List Value} {st : List Value} : T d 115 116 ls (.ref a :: st) h Q ↔ gF (h.2.2 a) 6 0 (fun v => T d 115 119 ls (v :: st) h Q) := T_getfieldR m115 c115_116 f7_10
theorem c115_119 : cod 115 119 = some (.getfield 245, 3) := cod_of b115 dX7_countOf_119
theorem t115_119 {d : Nat} {h : Hp} {Q : Pst} {a : Nat} {ls : List Value} {st : List Value} : T d 115 119 ls (.ref a :: st) h Q ↔ gF (h.2.2 a) 5 7 (fun v => T d 115 122 ls (v :: st) h Q) := T_getfieldR m115 c115_119 f7_245
theorem c115_122 : cod 115 122 = some (.getfield 154, 3) := cod_of b115 dX7_countOf_122
theorem t115_122 {d : Nat} {h : Hp} {Q : Pst} {a : Nat} {ls : List Value} {st : List Value} : T d 115 122 ls (.ref a :: st) h Q ↔ gF (h.2.2 a) 3 3 (fun v => T d 115 125 ls (v :: st) h Q) := T_getfieldR m115 c115_122 f7_154
theorem c115_125 : cod 115 125 = some (.ireturn, 1) := cod_of b115 dX7_countOf_125
theorem t115_125 {d : Nat} {h : Hp} {Q : Pst} {x : Int32} {ls : List Value} : T d 115 125 ls [.int x] h Q ↔ Q (some (.int x)) h := T_iretR m115 c115_125 rfl
theorem c115_104 : cod 115 104 = some (.aload_n 0, 1) := cod_of b115 dX7_countOf_104
theorem t115_104 {d : Nat} {h : Hp} {Q : Pst} {l1 : Value} {x : Nat} {st : List Value} : T d 115 104 [.ref x, l1] st h Q ↔ T d 115 105 [.ref x, l1] (.ref x :: st) h Q := T_aload_n c115_104 rfl
theorem c115_105 : cod 115 105 = some (.getfield 10, 3) := cod_of b115 dX7_countOf_105
theorem t115_105 {d : Nat} {h : Hp} {Q : Pst} {a : Nat} {ls : List Value} {st : List Value} : T d 115 105 ls (.ref a :: st) h Q ↔ gF (h.2.2 a) 6 0 (fun v => T d 115 108 ls (v :: st) h Q) := T_getfieldR m115 c115_105 f7_10
theorem c115_108 : cod 115 108 = some (.getfield 218, 3) := cod_of b115 dX7_countOf_108
theorem t115_108 {d : Nat} {h : Hp} {Q : Pst} {a : Nat} {ls : List Value} {st : List Value} : T d 115 108 ls (.ref a :: st) h Q ↔ gF (h.2.2 a) 5 6 (fun v => T d 115 111 ls (v :: st) h Q) := T_getfieldR m115 c115_108 f7_218
theorem c115_111 : cod 115 111 = some (.getfield 154, 3) := cod_of b115 dX7_countOf_111
theorem t115_111 {d : Nat} {h : Hp} {Q : Pst} {a : Nat} {ls : List Value} {st : List Value} : T d 115 111 ls (.ref a :: st) h Q ↔ gF (h.2.2 a) 3 3 (fun v => T d 115 114 ls (v :: st) h Q) := T_getfieldR m115 c115_111 f7_154
theorem c115_114 : cod 115 114 = some (.ireturn, 1) := cod_of b115 dX7_countOf_114
theorem t115_114 {d : Nat} {h : Hp} {Q : Pst} {x : Int32} {ls : List Value} : T d 115 114 ls [.int x] h Q ↔ Q (some (.int x)) h := T_iretR m115 c115_114 rfl
theorem c115_96 : cod 115 96 = some (.aload_n 0, 1) := cod_of b115 dX7_countOf_96
theorem t115_96 {d : Nat} {h : Hp} {Q : Pst} {l1 : Value} {x : Nat} {st : List Value} : T d 115 96 [.ref x, l1] st h Q ↔ T d 115 97 [.ref x, l1] (.ref x :: st) h Q := T_aload_n c115_96 rfl
theorem c115_97 : cod 115 97 = some (.getfield 10, 3) := cod_of b115 dX7_countOf_97
theorem t115_97 {d : Nat} {h : Hp} {Q : Pst} {a : Nat} {ls : List Value} {st : List Value} : T d 115 97 ls (.ref a :: st) h Q ↔ gF (h.2.2 a) 6 0 (fun v => T d 115 100 ls (v :: st) h Q) := T_getfieldR m115 c115_97 f7_10
theorem c115_100 : cod 115 100 = some (.invokevirtual 146, 3) := cod_of b115 dX7_countOf_100
theorem t115_100 {d : Nat} {h : Hp} {Q : Pst} {a : Nat} {ls : List Value} (ho : isO (h.2.2 a) 5) : T (d + 1) 115 100 ls [.ref a] h Q ↔ T d 60 0 [.ref a, un, un] [] h (fun x h2 => T (d + 1) 115 103 ls (rl x []) h2 Q) := T_virtualR (as := []) (r := []) m115 m60 c115_100 k7_146  rfl (by decide) rfl (by simp [wrd, Value.category]) (by simp [stk, Value.category]) rfl (by decide +kernel) ho
theorem c115_103 : cod 115 103 = some (.ireturn, 1) := cod_of b115 dX7_countOf_103
theorem t115_103 {d : Nat} {h : Hp} {Q : Pst} {x : Int32} {ls : List Value} : T d 115 103 ls [.int x] h Q ↔ Q (some (.int x)) h := T_iretR m115 c115_103 rfl
theorem c115_88 : cod 115 88 = some (.aload_n 0, 1) := cod_of b115 dX7_countOf_88
theorem t115_88 {d : Nat} {h : Hp} {Q : Pst} {l1 : Value} {x : Nat} {st : List Value} : T d 115 88 [.ref x, l1] st h Q ↔ T d 115 89 [.ref x, l1] (.ref x :: st) h Q := T_aload_n c115_88 rfl
theorem c115_89 : cod 115 89 = some (.getfield 10, 3) := cod_of b115 dX7_countOf_89
theorem t115_89 {d : Nat} {h : Hp} {Q : Pst} {a : Nat} {ls : List Value} {st : List Value} : T d 115 89 ls (.ref a :: st) h Q ↔ gF (h.2.2 a) 6 0 (fun v => T d 115 92 ls (v :: st) h Q) := T_getfieldR m115 c115_89 f7_10
theorem c115_92 : cod 115 92 = some (.invokevirtual 309, 3) := cod_of b115 dX7_countOf_92
theorem t115_92 {d : Nat} {h : Hp} {Q : Pst} {a : Nat} {ls : List Value} (ho : isO (h.2.2 a) 5) : T (d + 1) 115 92 ls [.ref a] h Q ↔ T d 59 0 [.ref a, un, un] [] h (fun x h2 => T (d + 1) 115 95 ls (rl x []) h2 Q) := T_virtualR (as := []) (r := []) m115 m59 c115_92 k7_309  rfl (by decide) rfl (by simp [wrd, Value.category]) (by simp [stk, Value.category]) rfl (by decide +kernel) ho
theorem c115_95 : cod 115 95 = some (.ireturn, 1) := cod_of b115 dX7_countOf_95
theorem t115_95 {d : Nat} {h : Hp} {Q : Pst} {x : Int32} {ls : List Value} : T d 115 95 ls [.int x] h Q ↔ Q (some (.int x)) h := T_iretR m115 c115_95 rfl
theorem c115_80 : cod 115 80 = some (.aload_n 0, 1) := cod_of b115 dX7_countOf_80
theorem t115_80 {d : Nat} {h : Hp} {Q : Pst} {l1 : Value} {x : Nat} {st : List Value} : T d 115 80 [.ref x, l1] st h Q ↔ T d 115 81 [.ref x, l1] (.ref x :: st) h Q := T_aload_n c115_80 rfl
theorem c115_81 : cod 115 81 = some (.getfield 10, 3) := cod_of b115 dX7_countOf_81
theorem t115_81 {d : Nat} {h : Hp} {Q : Pst} {a : Nat} {ls : List Value} {st : List Value} : T d 115 81 ls (.ref a :: st) h Q ↔ gF (h.2.2 a) 6 0 (fun v => T d 115 84 ls (v :: st) h Q) := T_getfieldR m115 c115_81 f7_10
theorem c115_84 : cod 115 84 = some (.getfield 140, 3) := cod_of b115 dX7_countOf_84
theorem t115_84 {d : Nat} {h : Hp} {Q : Pst} {a : Nat} {ls : List Value} {st : List Value} : T d 115 84 ls (.ref a :: st) h Q ↔ gF (h.2.2 a) 5 12 (fun v => T d 115 87 ls (v :: st) h Q) := T_getfieldR m115 c115_84 f7_140
theorem c115_87 : cod 115 87 = some (.ireturn, 1) := cod_of b115 dX7_countOf_87
theorem t115_87 {d : Nat} {h : Hp} {Q : Pst} {x : Int32} {ls : List Value} : T d 115 87 ls [.int x] h Q ↔ Q (some (.int x)) h := T_iretR m115 c115_87 rfl
theorem c115_72 : cod 115 72 = some (.aload_n 0, 1) := cod_of b115 dX7_countOf_72
theorem t115_72 {d : Nat} {h : Hp} {Q : Pst} {l1 : Value} {x : Nat} {st : List Value} : T d 115 72 [.ref x, l1] st h Q ↔ T d 115 73 [.ref x, l1] (.ref x :: st) h Q := T_aload_n c115_72 rfl
theorem c115_73 : cod 115 73 = some (.getfield 10, 3) := cod_of b115 dX7_countOf_73
theorem t115_73 {d : Nat} {h : Hp} {Q : Pst} {a : Nat} {ls : List Value} {st : List Value} : T d 115 73 ls (.ref a :: st) h Q ↔ gF (h.2.2 a) 6 0 (fun v => T d 115 76 ls (v :: st) h Q) := T_getfieldR m115 c115_73 f7_10
theorem c115_76 : cod 115 76 = some (.getfield 162, 3) := cod_of b115 dX7_countOf_76
theorem t115_76 {d : Nat} {h : Hp} {Q : Pst} {a : Nat} {ls : List Value} {st : List Value} : T d 115 76 ls (.ref a :: st) h Q ↔ gF (h.2.2 a) 5 13 (fun v => T d 115 79 ls (v :: st) h Q) := T_getfieldR m115 c115_76 f7_162
theorem c115_79 : cod 115 79 = some (.ireturn, 1) := cod_of b115 dX7_countOf_79
theorem t115_79 {d : Nat} {h : Hp} {Q : Pst} {x : Int32} {ls : List Value} : T d 115 79 ls [.int x] h Q ↔ Q (some (.int x)) h := T_iretR m115 c115_79 rfl
theorem c115_64 : cod 115 64 = some (.aload_n 0, 1) := cod_of b115 dX7_countOf_64
theorem t115_64 {d : Nat} {h : Hp} {Q : Pst} {l1 : Value} {x : Nat} {st : List Value} : T d 115 64 [.ref x, l1] st h Q ↔ T d 115 65 [.ref x, l1] (.ref x :: st) h Q := T_aload_n c115_64 rfl
theorem c115_65 : cod 115 65 = some (.getfield 10, 3) := cod_of b115 dX7_countOf_65
theorem t115_65 {d : Nat} {h : Hp} {Q : Pst} {a : Nat} {ls : List Value} {st : List Value} : T d 115 65 ls (.ref a :: st) h Q ↔ gF (h.2.2 a) 6 0 (fun v => T d 115 68 ls (v :: st) h Q) := T_getfieldR m115 c115_65 f7_10
theorem c115_68 : cod 115 68 = some (.getfield 81, 3) := cod_of b115 dX7_countOf_68
theorem t115_68 {d : Nat} {h : Hp} {Q : Pst} {a : Nat} {ls : List Value} {st : List Value} : T d 115 68 ls (.ref a :: st) h Q ↔ gF (h.2.2 a) 5 11 (fun v => T d 115 71 ls (v :: st) h Q) := T_getfieldR m115 c115_68 f7_81
theorem c115_71 : cod 115 71 = some (.ireturn, 1) := cod_of b115 dX7_countOf_71
theorem t115_71 {d : Nat} {h : Hp} {Q : Pst} {x : Int32} {ls : List Value} : T d 115 71 ls [.int x] h Q ↔ Q (some (.int x)) h := T_iretR m115 c115_71 rfl
theorem c115_56 : cod 115 56 = some (.aload_n 0, 1) := cod_of b115 dX7_countOf_56
theorem t115_56 {d : Nat} {h : Hp} {Q : Pst} {l1 : Value} {x : Nat} {st : List Value} : T d 115 56 [.ref x, l1] st h Q ↔ T d 115 57 [.ref x, l1] (.ref x :: st) h Q := T_aload_n c115_56 rfl
theorem c115_57 : cod 115 57 = some (.getfield 10, 3) := cod_of b115 dX7_countOf_57
theorem t115_57 {d : Nat} {h : Hp} {Q : Pst} {a : Nat} {ls : List Value} {st : List Value} : T d 115 57 ls (.ref a :: st) h Q ↔ gF (h.2.2 a) 6 0 (fun v => T d 115 60 ls (v :: st) h Q) := T_getfieldR m115 c115_57 f7_10
theorem c115_60 : cod 115 60 = some (.getfield 70, 3) := cod_of b115 dX7_countOf_60
theorem t115_60 {d : Nat} {h : Hp} {Q : Pst} {a : Nat} {ls : List Value} {st : List Value} : T d 115 60 ls (.ref a :: st) h Q ↔ gF (h.2.2 a) 5 10 (fun v => T d 115 63 ls (v :: st) h Q) := T_getfieldR m115 c115_60 f7_70
theorem c115_63 : cod 115 63 = some (.ireturn, 1) := cod_of b115 dX7_countOf_63
theorem t115_63 {d : Nat} {h : Hp} {Q : Pst} {x : Int32} {ls : List Value} : T d 115 63 ls [.int x] h Q ↔ Q (some (.int x)) h := T_iretR m115 c115_63 rfl
theorem b116 : (mR 116).2.2.1 = cX7_refuse := by rw [m116]
theorem c116_0 : cod 116 0 = some (.bipush (-2), 2) := cod_of b116 dX7_refuse_0
theorem t116_0 {d : Nat} {h : Hp} {Q : Pst} {ls : List Value} {st : List Value} : T d 116 0 ls st h Q ↔ T d 116 2 ls (.int (-2) :: st) h Q := T_bipushV c116_0 (by decide)
theorem c116_2 : cod 116 2 = some (.iload_n 1, 1) := cod_of b116 dX7_refuse_2
theorem t116_2 {d : Nat} {h : Hp} {Q : Pst} {l0 l2 : Value} {x : Int32} {st : List Value} : T d 116 2 [l0, .int x, l2] st h Q ↔ T d 116 3 [l0, .int x, l2] (.int x :: st) h Q := T_iload_n c116_2 rfl
theorem c116_3 : cod 116 3 = some (.isub, 1) := cod_of b116 dX7_refuse_3
theorem t116_3 {d : Nat} {h : Hp} {Q : Pst} {x y : Int32} {ls : List Value} {st : List Value} : T d 116 3 ls (.int y :: .int x :: st) h Q ↔ T d 116 4 ls (.int (x - y) :: st) h Q := T_isub c116_3
theorem c116_4 : cod 116 4 = some (.istore_n 2, 1) := cod_of b116 dX7_refuse_4
theorem t116_4 {d : Nat} {h : Hp} {Q : Pst} {l0 l1 l2 : Value} {x : Int32} {st : List Value} : T d 116 4 [l0, l1, l2] (.int x :: st) h Q ↔ T d 116 5 [l0, kil l1, .int x] st h Q := T_istore_n c116_4 (Nat.le_of_ble_eq_true rfl)
theorem c116_5 : cod 116 5 = some (.aload_n 0, 1) := cod_of b116 dX7_refuse_5
theorem t116_5 {d : Nat} {h : Hp} {Q : Pst} {l1 l2 : Value} {x : Nat} {st : List Value} : T d 116 5 [.ref x, l1, l2] st h Q ↔ T d 116 6 [.ref x, l1, l2] (.ref x :: st) h Q := T_aload_n c116_5 rfl
theorem c116_6 : cod 116 6 = some (.getfield 51, 3) := cod_of b116 dX7_refuse_6
theorem t116_6 {d : Nat} {h : Hp} {Q : Pst} {a : Nat} {ls : List Value} {st : List Value} : T d 116 6 ls (.ref a :: st) h Q ↔ gF (h.2.2 a) 6 7 (fun v => T d 116 9 ls (v :: st) h Q) := T_getfieldR m116 c116_6 f7_51
theorem c116_9 : cod 116 9 = some (.iload_n 2, 1) := cod_of b116 dX7_refuse_9
theorem t116_9 {d : Nat} {h : Hp} {Q : Pst} {l0 l1 : Value} {x : Int32} {st : List Value} : T d 116 9 [l0, l1, .int x] st h Q ↔ T d 116 10 [l0, l1, .int x] (.int x :: st) h Q := T_iload_n c116_9 rfl
theorem c116_10 : cod 116 10 = some (.aload_n 0, 1) := cod_of b116 dX7_refuse_10
theorem t116_10 {d : Nat} {h : Hp} {Q : Pst} {l1 l2 : Value} {x : Nat} {st : List Value} : T d 116 10 [.ref x, l1, l2] st h Q ↔ T d 116 11 [.ref x, l1, l2] (.ref x :: st) h Q := T_aload_n c116_10 rfl
theorem c116_11 : cod 116 11 = some (.getfield 51, 3) := cod_of b116 dX7_refuse_11
theorem t116_11 {d : Nat} {h : Hp} {Q : Pst} {a : Nat} {ls : List Value} {st : List Value} : T d 116 11 ls (.ref a :: st) h Q ↔ gF (h.2.2 a) 6 7 (fun v => T d 116 14 ls (v :: st) h Q) := T_getfieldR m116 c116_11 f7_51
theorem c116_14 : cod 116 14 = some (.iload_n 2, 1) := cod_of b116 dX7_refuse_14
theorem t116_14 {d : Nat} {h : Hp} {Q : Pst} {l0 l1 : Value} {x : Int32} {st : List Value} : T d 116 14 [l0, l1, .int x] st h Q ↔ T d 116 15 [l0, l1, .int x] (.int x :: st) h Q := T_iload_n c116_14 rfl
theorem c116_15 : cod 116 15 = some (.invokestatic 126, 3) := cod_of b116 dX7_refuse_15
theorem t116_15 {d : Nat} {h : Hp} {Q : Pst} {a0 s1 : Nat} {a1 s0 : Int32} {ls : List Value} : T (d + 1) 116 15 ls [.int a1, .ref a0, .int s0, .ref s1] h Q ↔ T d 122 0 [.ref a0, .int a1] [] h (fun x h2 => T (d + 1) 116 18 ls (rl x [.int s0, .ref s1]) h2 Q) := T_staticR (as := [.ref a0, .int a1]) (r := [.int s0, .ref s1]) m116 m122 c116_15 k7_126 (Or.inl rfl) rfl (by decide) rfl (by simp [wrd, Value.category]) (by simp [stk, Value.category]) rfl
theorem c116_18 : cod 116 18 = some (.iconst 1, 1) := cod_of b116 dX7_refuse_18
theorem t116_18 {d : Nat} {h : Hp} {Q : Pst} {ls : List Value} {st : List Value} : T d 116 18 ls st h Q ↔ T d 116 19 ls (.int 1 :: st) h Q := T_iconstV c116_18 (by decide)
theorem c116_19 : cod 116 19 = some (.iadd, 1) := cod_of b116 dX7_refuse_19
theorem t116_19 {d : Nat} {h : Hp} {Q : Pst} {x y : Int32} {ls : List Value} {st : List Value} : T d 116 19 ls (.int y :: .int x :: st) h Q ↔ T d 116 20 ls (.int (x + y) :: st) h Q := T_iadd c116_19
theorem c116_20 : cod 116 20 = some (.invokestatic 133, 3) := cod_of b116 dX7_refuse_20
theorem t116_20 {d : Nat} {h : Hp} {Q : Pst} {a0 : Nat} {a1 a2 : Int32} {ls : List Value} : T (d + 1) 116 20 ls [.int a2, .int a1, .ref a0] h Q ↔ T d 123 0 [.ref a0, .int a1, .int a2] [] h (fun x h2 => T (d + 1) 116 23 ls (rl x []) h2 Q) := T_staticR (as := [.ref a0, .int a1, .int a2]) (r := []) m116 m123 c116_20 k7_133 (Or.inl rfl) rfl (by decide) rfl (by simp [wrd, Value.category]) (by simp [stk, Value.category]) rfl
theorem c116_23 : cod 116 23 = some (.iload_n 1, 1) := cod_of b116 dX7_refuse_23
theorem t116_23 {d : Nat} {h : Hp} {Q : Pst} {l0 l2 : Value} {x : Int32} {st : List Value} : T d 116 23 [l0, .int x, l2] st h Q ↔ T d 116 24 [l0, .int x, l2] (.int x :: st) h Q := T_iload_n c116_23 rfl
theorem c116_24 : cod 116 24 = some (.ireturn, 1) := cod_of b116 dX7_refuse_24
theorem t116_24 {d : Nat} {h : Hp} {Q : Pst} {x : Int32} {ls : List Value} : T d 116 24 ls [.int x] h Q ↔ Q (some (.int x)) h := T_iretR m116 c116_24 rfl
theorem b117 : (mR 117).2.2.1 = cX7_keepFraction := by rw [m117]
theorem c117_0 : cod 117 0 = some (.iconst 1, 1) := cod_of b117 dX7_keepFraction_0
theorem t117_0 {d : Nat} {h : Hp} {Q : Pst} {ls : List Value} {st : List Value} : T d 117 0 ls st h Q ↔ T d 117 1 ls (.int 1 :: st) h Q := T_iconstV c117_0 (by decide)
theorem c117_1 : cod 117 1 = some (.istore_n 2, 1) := cod_of b117 dX7_keepFraction_1
theorem t117_1 {d : Nat} {h : Hp} {Q : Pst} {l0 l1 l2 l3 : Value} {x : Int32} {st : List Value} : T d 117 1 [l0, l1, l2, l3] (.int x :: st) h Q ↔ T d 117 2 [l0, kil l1, .int x, l3] st h Q := T_istore_n c117_1 (Nat.le_of_ble_eq_true rfl)
theorem c117_2 : cod 117 2 = some (.iconst 2, 1) := cod_of b117 dX7_keepFraction_2
theorem t117_2 {d : Nat} {h : Hp} {Q : Pst} {ls : List Value} {st : List Value} : T d 117 2 ls st h Q ↔ T d 117 3 ls (.int 2 :: st) h Q := T_iconstV c117_2 (by decide)
theorem c117_3 : cod 117 3 = some (.istore_n 3, 1) := cod_of b117 dX7_keepFraction_3
theorem t117_3 {d : Nat} {h : Hp} {Q : Pst} {l0 l1 l2 l3 : Value} {x : Int32} {st : List Value} : T d 117 3 [l0, l1, l2, l3] (.int x :: st) h Q ↔ T d 117 4 [l0, l1, kil l2, .int x] st h Q := T_istore_n c117_3 (Nat.le_of_ble_eq_true rfl)
theorem c117_4 : cod 117 4 = some (.iload_n 3, 1) := cod_of b117 dX7_keepFraction_4
theorem t117_4 {d : Nat} {h : Hp} {Q : Pst} {l0 l1 l2 : Value} {x : Int32} {st : List Value} : T d 117 4 [l0, l1, l2, .int x] st h Q ↔ T d 117 5 [l0, l1, l2, .int x] (.int x :: st) h Q := T_iload_n c117_4 rfl
theorem c117_5 : cod 117 5 = some (.bipush 10, 2) := cod_of b117 dX7_keepFraction_5
theorem t117_5 {d : Nat} {h : Hp} {Q : Pst} {ls : List Value} {st : List Value} : T d 117 5 ls st h Q ↔ T d 117 7 ls (.int 10 :: st) h Q := T_bipushV c117_5 (by decide)
theorem c117_7 : cod 117 7 = some (.if_icmp .gt 24, 3) := cod_of b117 dX7_keepFraction_7
theorem t117_7 {d : Nat} {h : Hp} {Q : Pst} {x y : Int32} {ls : List Value} {st : List Value} : T d 117 7 ls (.int y :: .int x :: st) h Q ↔ (if y < x then T d 117 31 ls st h Q else T d 117 10 ls st h Q) := T_icmp_gt c117_7 (by decide)
theorem c117_10 : cod 117 10 = some (.iload_n 1, 1) := cod_of b117 dX7_keepFraction_10
theorem t117_10 {d : Nat} {h : Hp} {Q : Pst} {l0 l2 l3 : Value} {x : Int32} {st : List Value} : T d 117 10 [l0, .int x, l2, l3] st h Q ↔ T d 117 11 [l0, .int x, l2, l3] (.int x :: st) h Q := T_iload_n c117_10 rfl
theorem c117_11 : cod 117 11 = some (.iload_n 3, 1) := cod_of b117 dX7_keepFraction_11
theorem t117_11 {d : Nat} {h : Hp} {Q : Pst} {l0 l1 l2 : Value} {x : Int32} {st : List Value} : T d 117 11 [l0, l1, l2, .int x] st h Q ↔ T d 117 12 [l0, l1, l2, .int x] (.int x :: st) h Q := T_iload_n c117_11 rfl
theorem c117_12 : cod 117 12 = some (.irem, 1) := cod_of b117 dX7_keepFraction_12
theorem t117_12 {d : Nat} {h : Hp} {Q : Pst} {x y : Int32} {ls : List Value} {st : List Value} : T d 117 12 ls (.int y :: .int x :: st) h Q ↔ (¬ y = 0 ∧ T d 117 13 ls (.int (x - x / y * y) :: st) h Q) := T_irem c117_12
theorem c117_13 : cod 117 13 = some (.ifCond .ne 12, 3) := cod_of b117 dX7_keepFraction_13
theorem t117_13 {d : Nat} {h : Hp} {Q : Pst} {x : Int32} {ls : List Value} {st : List Value} : T d 117 13 ls (.int x :: st) h Q ↔ (if ¬ x = 0 then T d 117 25 ls st h Q else T d 117 16 ls st h Q) := T_if_ne c117_13 (by decide)
theorem c117_16 : cod 117 16 = some (.bipush 10, 2) := cod_of b117 dX7_keepFraction_16
theorem t117_16 {d : Nat} {h : Hp} {Q : Pst} {ls : List Value} {st : List Value} : T d 117 16 ls st h Q ↔ T d 117 18 ls (.int 10 :: st) h Q := T_bipushV c117_16 (by decide)
theorem c117_18 : cod 117 18 = some (.iload_n 3, 1) := cod_of b117 dX7_keepFraction_18
theorem t117_18 {d : Nat} {h : Hp} {Q : Pst} {l0 l1 l2 : Value} {x : Int32} {st : List Value} : T d 117 18 [l0, l1, l2, .int x] st h Q ↔ T d 117 19 [l0, l1, l2, .int x] (.int x :: st) h Q := T_iload_n c117_18 rfl
theorem c117_19 : cod 117 19 = some (.irem, 1) := cod_of b117 dX7_keepFraction_19
theorem t117_19 {d : Nat} {h : Hp} {Q : Pst} {x y : Int32} {ls : List Value} {st : List Value} : T d 117 19 ls (.int y :: .int x :: st) h Q ↔ (¬ y = 0 ∧ T d 117 20 ls (.int (x - x / y * y) :: st) h Q) := T_irem c117_19
theorem c117_20 : cod 117 20 = some (.ifCond .ne 5, 3) := cod_of b117 dX7_keepFraction_20
theorem t117_20 {d : Nat} {h : Hp} {Q : Pst} {x : Int32} {ls : List Value} {st : List Value} : T d 117 20 ls (.int x :: st) h Q ↔ (if ¬ x = 0 then T d 117 25 ls st h Q else T d 117 23 ls st h Q) := T_if_ne c117_20 (by decide)
theorem c117_23 : cod 117 23 = some (.iload_n 3, 1) := cod_of b117 dX7_keepFraction_23
theorem t117_23 {d : Nat} {h : Hp} {Q : Pst} {l0 l1 l2 : Value} {x : Int32} {st : List Value} : T d 117 23 [l0, l1, l2, .int x] st h Q ↔ T d 117 24 [l0, l1, l2, .int x] (.int x :: st) h Q := T_iload_n c117_23 rfl
theorem c117_24 : cod 117 24 = some (.istore_n 2, 1) := cod_of b117 dX7_keepFraction_24
theorem t117_24 {d : Nat} {h : Hp} {Q : Pst} {l0 l1 l2 l3 : Value} {x : Int32} {st : List Value} : T d 117 24 [l0, l1, l2, l3] (.int x :: st) h Q ↔ T d 117 25 [l0, kil l1, .int x, l3] st h Q := T_istore_n c117_24 (Nat.le_of_ble_eq_true rfl)
theorem c117_25 : cod 117 25 = some (.iinc 3 1, 3) := cod_of b117 dX7_keepFraction_25
theorem t117_25 {d : Nat} {h : Hp} {Q : Pst} {l0 l1 l2 : Value} {x : Int32} {st : List Value} : T d 117 25 [l0, l1, l2, .int x] st h Q ↔ T d 117 28 [l0, l1, kil l2, .int (x + 1)] st h Q := T_iincV c117_25 rfl (Nat.le_of_ble_eq_true rfl) (by decide) rfl
theorem c117_28 : cod 117 28 = some (.goto (-24), 3) := cod_of b117 dX7_keepFraction_28
theorem t117_28 {d : Nat} {h : Hp} {Q : Pst} {ls : List Value} {st : List Value} : T d 117 28 ls st h Q ↔ T d 117 4 ls st h Q := T_goto c117_28 (by decide)
theorem c117_31 : cod 117 31 = some (.aload_n 0, 1) := cod_of b117 dX7_keepFraction_31
theorem t117_31 {d : Nat} {h : Hp} {Q : Pst} {l1 l2 l3 : Value} {x : Nat} {st : List Value} : T d 117 31 [.ref x, l1, l2, l3] st h Q ↔ T d 117 32 [.ref x, l1, l2, l3] (.ref x :: st) h Q := T_aload_n c117_31 rfl
theorem c117_32 : cod 117 32 = some (.iload_n 1, 1) := cod_of b117 dX7_keepFraction_32
theorem t117_32 {d : Nat} {h : Hp} {Q : Pst} {l0 l2 l3 : Value} {x : Int32} {st : List Value} : T d 117 32 [l0, .int x, l2, l3] st h Q ↔ T d 117 33 [l0, .int x, l2, l3] (.int x :: st) h Q := T_iload_n c117_32 rfl
theorem c117_33 : cod 117 33 = some (.iload_n 2, 1) := cod_of b117 dX7_keepFraction_33
theorem t117_33 {d : Nat} {h : Hp} {Q : Pst} {l0 l1 l3 : Value} {x : Int32} {st : List Value} : T d 117 33 [l0, l1, .int x, l3] st h Q ↔ T d 117 34 [l0, l1, .int x, l3] (.int x :: st) h Q := T_iload_n c117_33 rfl
theorem c117_34 : cod 117 34 = some (.idiv, 1) := cod_of b117 dX7_keepFraction_34
theorem t117_34 {d : Nat} {h : Hp} {Q : Pst} {x y : Int32} {ls : List Value} {st : List Value} : T d 117 34 ls (.int y :: .int x :: st) h Q ↔ (¬ y = 0 ∧ T d 117 35 ls (.int (x / y) :: st) h Q) := T_idiv c117_34
theorem c117_35 : cod 117 35 = some (.putfield 55, 3) := cod_of b117 dX7_keepFraction_35
theorem t117_35 {d : Nat} {h : Hp} {Q : Pst} {a : Nat} {x : Int32} {ls : List Value} {st : List Value} : T d 117 35 ls (.int x :: .ref a :: st) h Q ↔ pF (h.2.2 a) 6 8 (.int x) (fun cell => T d 117 38 ls st (hup h a cell) Q) := T_putfieldR m117 c117_35 f7_55 (by decide +kernel)
theorem c117_38 : cod 117 38 = some (.aload_n 0, 1) := cod_of b117 dX7_keepFraction_38
theorem t117_38 {d : Nat} {h : Hp} {Q : Pst} {l1 l2 l3 : Value} {x : Nat} {st : List Value} : T d 117 38 [.ref x, l1, l2, l3] st h Q ↔ T d 117 39 [.ref x, l1, l2, l3] (.ref x :: st) h Q := T_aload_n c117_38 rfl
theorem c117_39 : cod 117 39 = some (.bipush 10, 2) := cod_of b117 dX7_keepFraction_39
theorem t117_39 {d : Nat} {h : Hp} {Q : Pst} {ls : List Value} {st : List Value} : T d 117 39 ls st h Q ↔ T d 117 41 ls (.int 10 :: st) h Q := T_bipushV c117_39 (by decide)
theorem c117_41 : cod 117 41 = some (.iload_n 2, 1) := cod_of b117 dX7_keepFraction_41
theorem t117_41 {d : Nat} {h : Hp} {Q : Pst} {l0 l1 l3 : Value} {x : Int32} {st : List Value} : T d 117 41 [l0, l1, .int x, l3] st h Q ↔ T d 117 42 [l0, l1, .int x, l3] (.int x :: st) h Q := T_iload_n c117_41 rfl
theorem c117_42 : cod 117 42 = some (.idiv, 1) := cod_of b117 dX7_keepFraction_42
theorem t117_42 {d : Nat} {h : Hp} {Q : Pst} {x y : Int32} {ls : List Value} {st : List Value} : T d 117 42 ls (.int y :: .int x :: st) h Q ↔ (¬ y = 0 ∧ T d 117 43 ls (.int (x / y) :: st) h Q) := T_idiv c117_42
theorem c117_43 : cod 117 43 = some (.putfield 59, 3) := cod_of b117 dX7_keepFraction_43
theorem t117_43 {d : Nat} {h : Hp} {Q : Pst} {a : Nat} {x : Int32} {ls : List Value} {st : List Value} : T d 117 43 ls (.int x :: .ref a :: st) h Q ↔ pF (h.2.2 a) 6 9 (.int x) (fun cell => T d 117 46 ls st (hup h a cell) Q) := T_putfieldR m117 c117_43 f7_59 (by decide +kernel)
theorem c117_46 : cod 117 46 = some (.return_, 1) := cod_of b117 dX7_keepFraction_46
theorem t117_46 {d : Nat} {h : Hp} {Q : Pst} {ls : List Value} : T d 117 46 ls [] h Q ↔ Q none h := T_retR m117 c117_46 rfl
theorem b118 : (mR 118).2.2.1 = cX7_within := by rw [m118]
theorem c118_0 : cod 118 0 = some (.iload_n 0, 1) := cod_of b118 dX7_within_0
theorem t118_0 {d : Nat} {h : Hp} {Q : Pst} {l1 l2 : Value} {x : Int32} {st : List Value} : T d 118 0 [.int x, l1, l2] st h Q ↔ T d 118 1 [.int x, l1, l2] (.int x :: st) h Q := T_iload_n c118_0 rfl
theorem c118_1 : cod 118 1 = some (.iload_n 1, 1) := cod_of b118 dX7_within_1
theorem t118_1 {d : Nat} {h : Hp} {Q : Pst} {l0 l2 : Value} {x : Int32} {st : List Value} : T d 118 1 [l0, .int x, l2] st h Q ↔ T d 118 2 [l0, .int x, l2] (.int x :: st) h Q := T_iload_n c118_1 rfl
theorem c118_2 : cod 118 2 = some (.if_icmp .lt 12, 3) := cod_of b118 dX7_within_2
theorem t118_2 {d : Nat} {h : Hp} {Q : Pst} {x y : Int32} {ls : List Value} {st : List Value} : T d 118 2 ls (.int y :: .int x :: st) h Q ↔ (if x < y then T d 118 14 ls st h Q else T d 118 5 ls st h Q) := T_icmp_lt c118_2 (by decide)
theorem c118_5 : cod 118 5 = some (.iload_n 0, 1) := cod_of b118 dX7_within_5
theorem t118_5 {d : Nat} {h : Hp} {Q : Pst} {l1 l2 : Value} {x : Int32} {st : List Value} : T d 118 5 [.int x, l1, l2] st h Q ↔ T d 118 6 [.int x, l1, l2] (.int x :: st) h Q := T_iload_n c118_5 rfl
theorem c118_6 : cod 118 6 = some (.iload_n 2, 1) := cod_of b118 dX7_within_6
theorem t118_6 {d : Nat} {h : Hp} {Q : Pst} {l0 l1 : Value} {x : Int32} {st : List Value} : T d 118 6 [l0, l1, .int x] st h Q ↔ T d 118 7 [l0, l1, .int x] (.int x :: st) h Q := T_iload_n c118_6 rfl
theorem c118_7 : cod 118 7 = some (.if_icmp .gt 7, 3) := cod_of b118 dX7_within_7
theorem t118_7 {d : Nat} {h : Hp} {Q : Pst} {x y : Int32} {ls : List Value} {st : List Value} : T d 118 7 ls (.int y :: .int x :: st) h Q ↔ (if y < x then T d 118 14 ls st h Q else T d 118 10 ls st h Q) := T_icmp_gt c118_7 (by decide)
theorem c118_10 : cod 118 10 = some (.iconst 1, 1) := cod_of b118 dX7_within_10
theorem t118_10 {d : Nat} {h : Hp} {Q : Pst} {ls : List Value} {st : List Value} : T d 118 10 ls st h Q ↔ T d 118 11 ls (.int 1 :: st) h Q := T_iconstV c118_10 (by decide)
theorem c118_11 : cod 118 11 = some (.goto 4, 3) := cod_of b118 dX7_within_11
theorem t118_11 {d : Nat} {h : Hp} {Q : Pst} {ls : List Value} {st : List Value} : T d 118 11 ls st h Q ↔ T d 118 15 ls st h Q := T_goto c118_11 (by decide)
theorem c118_15 : cod 118 15 = some (.ireturn, 1) := cod_of b118 dX7_within_15
theorem t118_15 {d : Nat} {h : Hp} {Q : Pst} {x : Int32} {ls : List Value} : T d 118 15 ls [.int x] h Q ↔ (narrow .boolean (.int x) = .int x ∧ Q (some (.int x)) h) := T_zretR m118 c118_15 rfl
theorem c118_14 : cod 118 14 = some (.iconst 0, 1) := cod_of b118 dX7_within_14
theorem t118_14 {d : Nat} {h : Hp} {Q : Pst} {ls : List Value} {st : List Value} : T d 118 14 ls st h Q ↔ T d 118 15 ls (.int 0 :: st) h Q := T_iconstV c118_14 (by decide)
theorem b119 : (mR 119).2.2.1 = cX7_hasBit := by rw [m119]
theorem c119_0 : cod 119 0 = some (.iload_n 0, 1) := cod_of b119 dX7_hasBit_0
theorem t119_0 {d : Nat} {h : Hp} {Q : Pst} {l1 : Value} {x : Int32} {st : List Value} : T d 119 0 [.int x, l1] st h Q ↔ T d 119 1 [.int x, l1] (.int x :: st) h Q := T_iload_n c119_0 rfl
theorem c119_1 : cod 119 1 = some (.iload_n 1, 1) := cod_of b119 dX7_hasBit_1
theorem t119_1 {d : Nat} {h : Hp} {Q : Pst} {l0 : Value} {x : Int32} {st : List Value} : T d 119 1 [l0, .int x] st h Q ↔ T d 119 2 [l0, .int x] (.int x :: st) h Q := T_iload_n c119_1 rfl
theorem c119_2 : cod 119 2 = some (.ishr, 1) := cod_of b119 dX7_hasBit_2
theorem t119_2 {d : Nat} {h : Hp} {Q : Pst} {x y : Int32} {ls : List Value} {st : List Value} : T d 119 2 ls (.int y :: .int x :: st) h Q ↔ T d 119 3 ls (.int (x >>> (y &&& 31)) :: st) h Q := T_ishr c119_2
theorem c119_3 : cod 119 3 = some (.iconst 1, 1) := cod_of b119 dX7_hasBit_3
theorem t119_3 {d : Nat} {h : Hp} {Q : Pst} {ls : List Value} {st : List Value} : T d 119 3 ls st h Q ↔ T d 119 4 ls (.int 1 :: st) h Q := T_iconstV c119_3 (by decide)
theorem c119_4 : cod 119 4 = some (.iand, 1) := cod_of b119 dX7_hasBit_4
theorem t119_4 {d : Nat} {h : Hp} {Q : Pst} {x y : Int32} {ls : List Value} {st : List Value} : T d 119 4 ls (.int y :: .int x :: st) h Q ↔ T d 119 5 ls (.int (x &&& y) :: st) h Q := T_iand c119_4
theorem c119_5 : cod 119 5 = some (.iconst 1, 1) := cod_of b119 dX7_hasBit_5
theorem t119_5 {d : Nat} {h : Hp} {Q : Pst} {ls : List Value} {st : List Value} : T d 119 5 ls st h Q ↔ T d 119 6 ls (.int 1 :: st) h Q := T_iconstV c119_5 (by decide)
theorem c119_6 : cod 119 6 = some (.if_icmp .ne 7, 3) := cod_of b119 dX7_hasBit_6
theorem t119_6 {d : Nat} {h : Hp} {Q : Pst} {x y : Int32} {ls : List Value} {st : List Value} : T d 119 6 ls (.int y :: .int x :: st) h Q ↔ (if ¬ x = y then T d 119 13 ls st h Q else T d 119 9 ls st h Q) := T_icmp_ne c119_6 (by decide)
theorem c119_9 : cod 119 9 = some (.iconst 1, 1) := cod_of b119 dX7_hasBit_9
theorem t119_9 {d : Nat} {h : Hp} {Q : Pst} {ls : List Value} {st : List Value} : T d 119 9 ls st h Q ↔ T d 119 10 ls (.int 1 :: st) h Q := T_iconstV c119_9 (by decide)
theorem c119_10 : cod 119 10 = some (.goto 4, 3) := cod_of b119 dX7_hasBit_10
theorem t119_10 {d : Nat} {h : Hp} {Q : Pst} {ls : List Value} {st : List Value} : T d 119 10 ls st h Q ↔ T d 119 14 ls st h Q := T_goto c119_10 (by decide)
theorem c119_14 : cod 119 14 = some (.ireturn, 1) := cod_of b119 dX7_hasBit_14
theorem t119_14 {d : Nat} {h : Hp} {Q : Pst} {x : Int32} {ls : List Value} : T d 119 14 ls [.int x] h Q ↔ (narrow .boolean (.int x) = .int x ∧ Q (some (.int x)) h) := T_zretR m119 c119_14 rfl
theorem c119_13 : cod 119 13 = some (.iconst 0, 1) := cod_of b119 dX7_hasBit_13
theorem t119_13 {d : Nat} {h : Hp} {Q : Pst} {ls : List Value} {st : List Value} : T d 119 13 ls st h Q ↔ T d 119 14 ls (.int 0 :: st) h Q := T_iconstV c119_13 (by decide)
theorem b120 : (mR 120).2.2.1 = cX7_lowestBit := by rw [m120]
theorem c120_0 : cod 120 0 = some (.iconst 0, 1) := cod_of b120 dX7_lowestBit_0
theorem t120_0 {d : Nat} {h : Hp} {Q : Pst} {ls : List Value} {st : List Value} : T d 120 0 ls st h Q ↔ T d 120 1 ls (.int 0 :: st) h Q := T_iconstV c120_0 (by decide)
theorem c120_1 : cod 120 1 = some (.istore_n 1, 1) := cod_of b120 dX7_lowestBit_1
theorem t120_1 {d : Nat} {h : Hp} {Q : Pst} {l0 l1 : Value} {x : Int32} {st : List Value} : T d 120 1 [l0, l1] (.int x :: st) h Q ↔ T d 120 2 [kil l0, .int x] st h Q := T_istore_n c120_1 (Nat.le_of_ble_eq_true rfl)
theorem c120_2 : cod 120 2 = some (.iload_n 1, 1) := cod_of b120 dX7_lowestBit_2
theorem t120_2 {d : Nat} {h : Hp} {Q : Pst} {l0 : Value} {x : Int32} {st : List Value} : T d 120 2 [l0, .int x] st h Q ↔ T d 120 3 [l0, .int x] (.int x :: st) h Q := T_iload_n c120_2 rfl
theorem c120_3 : cod 120 3 = some (.bipush 30, 2) := cod_of b120 dX7_lowestBit_3
theorem t120_3 {d : Nat} {h : Hp} {Q : Pst} {ls : List Value} {st : List Value} : T d 120 3 ls st h Q ↔ T d 120 5 ls (.int 30 :: st) h Q := T_bipushV c120_3 (by decide)
theorem c120_5 : cod 120 5 = some (.if_icmp .gt 19, 3) := cod_of b120 dX7_lowestBit_5
theorem t120_5 {d : Nat} {h : Hp} {Q : Pst} {x y : Int32} {ls : List Value} {st : List Value} : T d 120 5 ls (.int y :: .int x :: st) h Q ↔ (if y < x then T d 120 24 ls st h Q else T d 120 8 ls st h Q) := T_icmp_gt c120_5 (by decide)
theorem c120_8 : cod 120 8 = some (.iload_n 0, 1) := cod_of b120 dX7_lowestBit_8
theorem t120_8 {d : Nat} {h : Hp} {Q : Pst} {l1 : Value} {x : Int32} {st : List Value} : T d 120 8 [.int x, l1] st h Q ↔ T d 120 9 [.int x, l1] (.int x :: st) h Q := T_iload_n c120_8 rfl
theorem c120_9 : cod 120 9 = some (.iload_n 1, 1) := cod_of b120 dX7_lowestBit_9
theorem t120_9 {d : Nat} {h : Hp} {Q : Pst} {l0 : Value} {x : Int32} {st : List Value} : T d 120 9 [l0, .int x] st h Q ↔ T d 120 10 [l0, .int x] (.int x :: st) h Q := T_iload_n c120_9 rfl
theorem c120_10 : cod 120 10 = some (.invokestatic 312, 3) := cod_of b120 dX7_lowestBit_10
theorem t120_10 {d : Nat} {h : Hp} {Q : Pst} {a0 a1 : Int32} {ls : List Value} : T (d + 1) 120 10 ls [.int a1, .int a0] h Q ↔ T d 119 0 [.int a0, .int a1] [] h (fun x h2 => T (d + 1) 120 13 ls (rl x []) h2 Q) := T_staticR (as := [.int a0, .int a1]) (r := []) m120 m119 c120_10 k7_312 (Or.inl rfl) rfl (by decide) rfl (by simp [wrd, Value.category]) (by simp [stk, Value.category]) rfl
theorem c120_13 : cod 120 13 = some (.ifCond .eq 5, 3) := cod_of b120 dX7_lowestBit_13
theorem t120_13 {d : Nat} {h : Hp} {Q : Pst} {x : Int32} {ls : List Value} {st : List Value} : T d 120 13 ls (.int x :: st) h Q ↔ (if x = 0 then T d 120 18 ls st h Q else T d 120 16 ls st h Q) := T_if_eq c120_13 (by decide)
theorem c120_16 : cod 120 16 = some (.iload_n 1, 1) := cod_of b120 dX7_lowestBit_16
theorem t120_16 {d : Nat} {h : Hp} {Q : Pst} {l0 : Value} {x : Int32} {st : List Value} : T d 120 16 [l0, .int x] st h Q ↔ T d 120 17 [l0, .int x] (.int x :: st) h Q := T_iload_n c120_16 rfl
theorem c120_17 : cod 120 17 = some (.ireturn, 1) := cod_of b120 dX7_lowestBit_17
theorem t120_17 {d : Nat} {h : Hp} {Q : Pst} {x : Int32} {ls : List Value} : T d 120 17 ls [.int x] h Q ↔ Q (some (.int x)) h := T_iretR m120 c120_17 rfl
theorem c120_18 : cod 120 18 = some (.iinc 1 1, 3) := cod_of b120 dX7_lowestBit_18
theorem t120_18 {d : Nat} {h : Hp} {Q : Pst} {l0 : Value} {x : Int32} {st : List Value} : T d 120 18 [l0, .int x] st h Q ↔ T d 120 21 [kil l0, .int (x + 1)] st h Q := T_iincV c120_18 rfl (Nat.le_of_ble_eq_true rfl) (by decide) rfl
theorem c120_21 : cod 120 21 = some (.goto (-19), 3) := cod_of b120 dX7_lowestBit_21
theorem t120_21 {d : Nat} {h : Hp} {Q : Pst} {ls : List Value} {st : List Value} : T d 120 21 ls st h Q ↔ T d 120 2 ls st h Q := T_goto c120_21 (by decide)
theorem c120_24 : cod 120 24 = some (.iconst (-1), 1) := cod_of b120 dX7_lowestBit_24
theorem t120_24 {d : Nat} {h : Hp} {Q : Pst} {ls : List Value} {st : List Value} : T d 120 24 ls st h Q ↔ T d 120 25 ls (.int (-1) :: st) h Q := T_iconstV c120_24 (by decide)
theorem c120_25 : cod 120 25 = some (.ireturn, 1) := cod_of b120 dX7_lowestBit_25
theorem t120_25 {d : Nat} {h : Hp} {Q : Pst} {x : Int32} {ls : List Value} : T d 120 25 ls [.int x] h Q ↔ Q (some (.int x)) h := T_iretR m120 c120_25 rfl
theorem b121 : (mR 121).2.2.1 = cX7_highestBit := by rw [m121]
theorem c121_0 : cod 121 0 = some (.bipush 30, 2) := cod_of b121 dX7_highestBit_0
theorem t121_0 {d : Nat} {h : Hp} {Q : Pst} {ls : List Value} {st : List Value} : T d 121 0 ls st h Q ↔ T d 121 2 ls (.int 30 :: st) h Q := T_bipushV c121_0 (by decide)
theorem c121_2 : cod 121 2 = some (.istore_n 1, 1) := cod_of b121 dX7_highestBit_2
theorem t121_2 {d : Nat} {h : Hp} {Q : Pst} {l0 l1 : Value} {x : Int32} {st : List Value} : T d 121 2 [l0, l1] (.int x :: st) h Q ↔ T d 121 3 [kil l0, .int x] st h Q := T_istore_n c121_2 (Nat.le_of_ble_eq_true rfl)
theorem c121_3 : cod 121 3 = some (.iload_n 1, 1) := cod_of b121 dX7_highestBit_3
theorem t121_3 {d : Nat} {h : Hp} {Q : Pst} {l0 : Value} {x : Int32} {st : List Value} : T d 121 3 [l0, .int x] st h Q ↔ T d 121 4 [l0, .int x] (.int x :: st) h Q := T_iload_n c121_3 rfl
theorem c121_4 : cod 121 4 = some (.ifCond .lt 19, 3) := cod_of b121 dX7_highestBit_4
theorem t121_4 {d : Nat} {h : Hp} {Q : Pst} {x : Int32} {ls : List Value} {st : List Value} : T d 121 4 ls (.int x :: st) h Q ↔ (if x < 0 then T d 121 23 ls st h Q else T d 121 7 ls st h Q) := T_if_lt c121_4 (by decide)
theorem c121_7 : cod 121 7 = some (.iload_n 0, 1) := cod_of b121 dX7_highestBit_7
theorem t121_7 {d : Nat} {h : Hp} {Q : Pst} {l1 : Value} {x : Int32} {st : List Value} : T d 121 7 [.int x, l1] st h Q ↔ T d 121 8 [.int x, l1] (.int x :: st) h Q := T_iload_n c121_7 rfl
theorem c121_8 : cod 121 8 = some (.iload_n 1, 1) := cod_of b121 dX7_highestBit_8
theorem t121_8 {d : Nat} {h : Hp} {Q : Pst} {l0 : Value} {x : Int32} {st : List Value} : T d 121 8 [l0, .int x] st h Q ↔ T d 121 9 [l0, .int x] (.int x :: st) h Q := T_iload_n c121_8 rfl
theorem c121_9 : cod 121 9 = some (.invokestatic 312, 3) := cod_of b121 dX7_highestBit_9
theorem t121_9 {d : Nat} {h : Hp} {Q : Pst} {a0 a1 : Int32} {ls : List Value} : T (d + 1) 121 9 ls [.int a1, .int a0] h Q ↔ T d 119 0 [.int a0, .int a1] [] h (fun x h2 => T (d + 1) 121 12 ls (rl x []) h2 Q) := T_staticR (as := [.int a0, .int a1]) (r := []) m121 m119 c121_9 k7_312 (Or.inl rfl) rfl (by decide) rfl (by simp [wrd, Value.category]) (by simp [stk, Value.category]) rfl
theorem c121_12 : cod 121 12 = some (.ifCond .eq 5, 3) := cod_of b121 dX7_highestBit_12
theorem t121_12 {d : Nat} {h : Hp} {Q : Pst} {x : Int32} {ls : List Value} {st : List Value} : T d 121 12 ls (.int x :: st) h Q ↔ (if x = 0 then T d 121 17 ls st h Q else T d 121 15 ls st h Q) := T_if_eq c121_12 (by decide)
theorem c121_15 : cod 121 15 = some (.iload_n 1, 1) := cod_of b121 dX7_highestBit_15
theorem t121_15 {d : Nat} {h : Hp} {Q : Pst} {l0 : Value} {x : Int32} {st : List Value} : T d 121 15 [l0, .int x] st h Q ↔ T d 121 16 [l0, .int x] (.int x :: st) h Q := T_iload_n c121_15 rfl
theorem c121_16 : cod 121 16 = some (.ireturn, 1) := cod_of b121 dX7_highestBit_16
theorem t121_16 {d : Nat} {h : Hp} {Q : Pst} {x : Int32} {ls : List Value} : T d 121 16 ls [.int x] h Q ↔ Q (some (.int x)) h := T_iretR m121 c121_16 rfl
theorem c121_17 : cod 121 17 = some (.iinc 1 (-1), 3) := cod_of b121 dX7_highestBit_17
theorem t121_17 {d : Nat} {h : Hp} {Q : Pst} {l0 : Value} {x : Int32} {st : List Value} : T d 121 17 [l0, .int x] st h Q ↔ T d 121 20 [kil l0, .int (x + (-1))] st h Q := T_iincV c121_17 rfl (Nat.le_of_ble_eq_true rfl) (by decide) rfl
theorem c121_20 : cod 121 20 = some (.goto (-17), 3) := cod_of b121 dX7_highestBit_20
theorem t121_20 {d : Nat} {h : Hp} {Q : Pst} {ls : List Value} {st : List Value} : T d 121 20 ls st h Q ↔ T d 121 3 ls st h Q := T_goto c121_20 (by decide)
theorem c121_23 : cod 121 23 = some (.iconst (-1), 1) := cod_of b121 dX7_highestBit_23
theorem t121_23 {d : Nat} {h : Hp} {Q : Pst} {ls : List Value} {st : List Value} : T d 121 23 ls st h Q ↔ T d 121 24 ls (.int (-1) :: st) h Q := T_iconstV c121_23 (by decide)
theorem c121_24 : cod 121 24 = some (.ireturn, 1) := cod_of b121 dX7_highestBit_24
theorem t121_24 {d : Nat} {h : Hp} {Q : Pst} {x : Int32} {ls : List Value} : T d 121 24 ls [.int x] h Q ↔ Q (some (.int x)) h := T_iretR m121 c121_24 rfl
theorem b122 : (mR 122).2.2.1 = cX7_get := by rw [m122]
theorem c122_0 : cod 122 0 = some (.aload_n 0, 1) := cod_of b122 dX7_get_0
theorem t122_0 {d : Nat} {h : Hp} {Q : Pst} {l1 : Value} {x : Nat} {st : List Value} : T d 122 0 [.ref x, l1] st h Q ↔ T d 122 1 [.ref x, l1] (.ref x :: st) h Q := T_aload_n c122_0 rfl
theorem c122_1 : cod 122 1 = some (.ifnull 19, 3) := cod_of b122 dX7_get_1
theorem t122_1 {d : Nat} {h : Hp} {Q : Pst} {x : Nat} {ls : List Value} {st : List Value} : T d 122 1 ls (.ref x :: st) h Q ↔ T d 122 4 ls st h Q := T_ifnull c122_1
theorem t122_1N {d : Nat} {h : Hp} {Q : Pst} {ls st : List Value} : T d 122 1 ls (.null :: st) h Q ↔ T d 122 20 ls st h Q := T_ifnullN c122_1 (by decide)
theorem c122_4 : cod 122 4 = some (.iload_n 1, 1) := cod_of b122 dX7_get_4
theorem t122_4 {d : Nat} {h : Hp} {Q : Pst} {l0 : Value} {x : Int32} {st : List Value} : T d 122 4 [l0, .int x] st h Q ↔ T d 122 5 [l0, .int x] (.int x :: st) h Q := T_iload_n c122_4 rfl
theorem c122_5 : cod 122 5 = some (.ifCond .lt 15, 3) := cod_of b122 dX7_get_5
theorem t122_5 {d : Nat} {h : Hp} {Q : Pst} {x : Int32} {ls : List Value} {st : List Value} : T d 122 5 ls (.int x :: st) h Q ↔ (if x < 0 then T d 122 20 ls st h Q else T d 122 8 ls st h Q) := T_if_lt c122_5 (by decide)
theorem c122_8 : cod 122 8 = some (.iload_n 1, 1) := cod_of b122 dX7_get_8
theorem t122_8 {d : Nat} {h : Hp} {Q : Pst} {l0 : Value} {x : Int32} {st : List Value} : T d 122 8 [l0, .int x] st h Q ↔ T d 122 9 [l0, .int x] (.int x :: st) h Q := T_iload_n c122_8 rfl
theorem c122_9 : cod 122 9 = some (.aload_n 0, 1) := cod_of b122 dX7_get_9
theorem t122_9 {d : Nat} {h : Hp} {Q : Pst} {l1 : Value} {x : Nat} {st : List Value} : T d 122 9 [.ref x, l1] st h Q ↔ T d 122 10 [.ref x, l1] (.ref x :: st) h Q := T_aload_n c122_9 rfl
theorem c122_10 : cod 122 10 = some (.arraylength, 1) := cod_of b122 dX7_get_10
theorem t122_10 {d : Nat} {h : Hp} {Q : Pst} {a : Nat} {ls : List Value} {st : List Value} : T d 122 10 ls (.ref a :: st) h Q ↔ cN (h.2.2 a) (fun n => T d 122 11 ls (.int (Int32.ofNat n) :: st) h Q) := T_alen c122_10
theorem c122_11 : cod 122 11 = some (.if_icmp .ge 9, 3) := cod_of b122 dX7_get_11
theorem t122_11 {d : Nat} {h : Hp} {Q : Pst} {x y : Int32} {ls : List Value} {st : List Value} : T d 122 11 ls (.int y :: .int x :: st) h Q ↔ (if y ≤ x then T d 122 20 ls st h Q else T d 122 14 ls st h Q) := T_icmp_ge c122_11 (by decide)
theorem c122_14 : cod 122 14 = some (.aload_n 0, 1) := cod_of b122 dX7_get_14
theorem t122_14 {d : Nat} {h : Hp} {Q : Pst} {l1 : Value} {x : Nat} {st : List Value} : T d 122 14 [.ref x, l1] st h Q ↔ T d 122 15 [.ref x, l1] (.ref x :: st) h Q := T_aload_n c122_14 rfl
theorem c122_15 : cod 122 15 = some (.iload_n 1, 1) := cod_of b122 dX7_get_15
theorem t122_15 {d : Nat} {h : Hp} {Q : Pst} {l0 : Value} {x : Int32} {st : List Value} : T d 122 15 [l0, .int x] st h Q ↔ T d 122 16 [l0, .int x] (.int x :: st) h Q := T_iload_n c122_15 rfl
theorem c122_16 : cod 122 16 = some (.iaload, 1) := cod_of b122 dX7_get_16
theorem t122_16 {d : Nat} {h : Hp} {Q : Pst} {a : Nat} {i : Int32} {ls : List Value} {st : List Value} : T d 122 16 ls (.int i :: .ref a :: st) h Q ↔ aL (h.2.2 a) i (fun x => T d 122 17 ls (.int x :: st) h Q) := T_iaload c122_16
theorem c122_17 : cod 122 17 = some (.goto 4, 3) := cod_of b122 dX7_get_17
theorem t122_17 {d : Nat} {h : Hp} {Q : Pst} {ls : List Value} {st : List Value} : T d 122 17 ls st h Q ↔ T d 122 21 ls st h Q := T_goto c122_17 (by decide)
theorem c122_21 : cod 122 21 = some (.ireturn, 1) := cod_of b122 dX7_get_21
theorem t122_21 {d : Nat} {h : Hp} {Q : Pst} {x : Int32} {ls : List Value} : T d 122 21 ls [.int x] h Q ↔ Q (some (.int x)) h := T_iretR m122 c122_21 rfl
theorem c122_20 : cod 122 20 = some (.iconst 0, 1) := cod_of b122 dX7_get_20
theorem t122_20 {d : Nat} {h : Hp} {Q : Pst} {ls : List Value} {st : List Value} : T d 122 20 ls st h Q ↔ T d 122 21 ls (.int 0 :: st) h Q := T_iconstV c122_20 (by decide)
theorem b123 : (mR 123).2.2.1 = cX7_put := by rw [m123]
theorem c123_0 : cod 123 0 = some (.aload_n 0, 1) := cod_of b123 dX7_put_0
theorem t123_0 {d : Nat} {h : Hp} {Q : Pst} {l1 l2 : Value} {x : Nat} {st : List Value} : T d 123 0 [.ref x, l1, l2] st h Q ↔ T d 123 1 [.ref x, l1, l2] (.ref x :: st) h Q := T_aload_n c123_0 rfl
theorem c123_1 : cod 123 1 = some (.ifnull 17, 3) := cod_of b123 dX7_put_1
theorem t123_1 {d : Nat} {h : Hp} {Q : Pst} {x : Nat} {ls : List Value} {st : List Value} : T d 123 1 ls (.ref x :: st) h Q ↔ T d 123 4 ls st h Q := T_ifnull c123_1
theorem t123_1N {d : Nat} {h : Hp} {Q : Pst} {ls st : List Value} : T d 123 1 ls (.null :: st) h Q ↔ T d 123 18 ls st h Q := T_ifnullN c123_1 (by decide)
theorem c123_4 : cod 123 4 = some (.iload_n 1, 1) := cod_of b123 dX7_put_4
theorem t123_4 {d : Nat} {h : Hp} {Q : Pst} {l0 l2 : Value} {x : Int32} {st : List Value} : T d 123 4 [l0, .int x, l2] st h Q ↔ T d 123 5 [l0, .int x, l2] (.int x :: st) h Q := T_iload_n c123_4 rfl
theorem c123_5 : cod 123 5 = some (.ifCond .lt 13, 3) := cod_of b123 dX7_put_5
theorem t123_5 {d : Nat} {h : Hp} {Q : Pst} {x : Int32} {ls : List Value} {st : List Value} : T d 123 5 ls (.int x :: st) h Q ↔ (if x < 0 then T d 123 18 ls st h Q else T d 123 8 ls st h Q) := T_if_lt c123_5 (by decide)
theorem c123_8 : cod 123 8 = some (.iload_n 1, 1) := cod_of b123 dX7_put_8
theorem t123_8 {d : Nat} {h : Hp} {Q : Pst} {l0 l2 : Value} {x : Int32} {st : List Value} : T d 123 8 [l0, .int x, l2] st h Q ↔ T d 123 9 [l0, .int x, l2] (.int x :: st) h Q := T_iload_n c123_8 rfl
theorem c123_9 : cod 123 9 = some (.aload_n 0, 1) := cod_of b123 dX7_put_9
theorem t123_9 {d : Nat} {h : Hp} {Q : Pst} {l1 l2 : Value} {x : Nat} {st : List Value} : T d 123 9 [.ref x, l1, l2] st h Q ↔ T d 123 10 [.ref x, l1, l2] (.ref x :: st) h Q := T_aload_n c123_9 rfl
theorem c123_10 : cod 123 10 = some (.arraylength, 1) := cod_of b123 dX7_put_10
theorem t123_10 {d : Nat} {h : Hp} {Q : Pst} {a : Nat} {ls : List Value} {st : List Value} : T d 123 10 ls (.ref a :: st) h Q ↔ cN (h.2.2 a) (fun n => T d 123 11 ls (.int (Int32.ofNat n) :: st) h Q) := T_alen c123_10
theorem c123_11 : cod 123 11 = some (.if_icmp .ge 7, 3) := cod_of b123 dX7_put_11
theorem t123_11 {d : Nat} {h : Hp} {Q : Pst} {x y : Int32} {ls : List Value} {st : List Value} : T d 123 11 ls (.int y :: .int x :: st) h Q ↔ (if y ≤ x then T d 123 18 ls st h Q else T d 123 14 ls st h Q) := T_icmp_ge c123_11 (by decide)
theorem c123_14 : cod 123 14 = some (.aload_n 0, 1) := cod_of b123 dX7_put_14
theorem t123_14 {d : Nat} {h : Hp} {Q : Pst} {l1 l2 : Value} {x : Nat} {st : List Value} : T d 123 14 [.ref x, l1, l2] st h Q ↔ T d 123 15 [.ref x, l1, l2] (.ref x :: st) h Q := T_aload_n c123_14 rfl
theorem c123_15 : cod 123 15 = some (.iload_n 1, 1) := cod_of b123 dX7_put_15
theorem t123_15 {d : Nat} {h : Hp} {Q : Pst} {l0 l2 : Value} {x : Int32} {st : List Value} : T d 123 15 [l0, .int x, l2] st h Q ↔ T d 123 16 [l0, .int x, l2] (.int x :: st) h Q := T_iload_n c123_15 rfl
theorem c123_16 : cod 123 16 = some (.iload_n 2, 1) := cod_of b123 dX7_put_16
theorem t123_16 {d : Nat} {h : Hp} {Q : Pst} {l0 l1 : Value} {x : Int32} {st : List Value} : T d 123 16 [l0, l1, .int x] st h Q ↔ T d 123 17 [l0, l1, .int x] (.int x :: st) h Q := T_iload_n c123_16 rfl
theorem c123_17 : cod 123 17 = some (.iastore, 1) := cod_of b123 dX7_put_17
theorem t123_17 {d : Nat} {h : Hp} {Q : Pst} {a : Nat} {i x : Int32} {ls : List Value} {st : List Value} : T d 123 17 ls (.int x :: .int i :: .ref a :: st) h Q ↔ aS (h.2.2 a) i x (fun cell => T d 123 18 ls st (hup h a cell) Q) := T_iastore c123_17
theorem c123_18 : cod 123 18 = some (.return_, 1) := cod_of b123 dX7_put_18
theorem t123_18 {d : Nat} {h : Hp} {Q : Pst} {ls : List Value} : T d 123 18 ls [] h Q ↔ Q none h := T_retR m123 c123_18 rfl
theorem b124 : (mR 124).2.2.1 = cX7_copyRow := by rw [m124]
theorem c124_0 : cod 124 0 = some (.aload_n 0, 1) := cod_of b124 dX7_copyRow_0
theorem t124_0 {d : Nat} {h : Hp} {Q : Pst} {l1 : Value} {x : Nat} {st : List Value} : T d 124 0 [.ref x, l1] st h Q ↔ T d 124 1 [.ref x, l1] (.ref x :: st) h Q := T_aload_n c124_0 rfl
theorem c124_1 : cod 124 1 = some (.ifnull 21, 3) := cod_of b124 dX7_copyRow_1
theorem t124_1 {d : Nat} {h : Hp} {Q : Pst} {x : Nat} {ls : List Value} {st : List Value} : T d 124 1 ls (.ref x :: st) h Q ↔ T d 124 4 ls st h Q := T_ifnull c124_1
theorem t124_1N {d : Nat} {h : Hp} {Q : Pst} {ls st : List Value} : T d 124 1 ls (.null :: st) h Q ↔ T d 124 22 ls st h Q := T_ifnullN c124_1 (by decide)
theorem c124_4 : cod 124 4 = some (.aload_n 1, 1) := cod_of b124 dX7_copyRow_4
theorem t124_4 {d : Nat} {h : Hp} {Q : Pst} {l0 : Value} {x : Nat} {st : List Value} : T d 124 4 [l0, .ref x] st h Q ↔ T d 124 5 [l0, .ref x] (.ref x :: st) h Q := T_aload_n c124_4 rfl
theorem c124_5 : cod 124 5 = some (.ifnull 17, 3) := cod_of b124 dX7_copyRow_5
theorem t124_5 {d : Nat} {h : Hp} {Q : Pst} {x : Nat} {ls : List Value} {st : List Value} : T d 124 5 ls (.ref x :: st) h Q ↔ T d 124 8 ls st h Q := T_ifnull c124_5
theorem t124_5N {d : Nat} {h : Hp} {Q : Pst} {ls st : List Value} : T d 124 5 ls (.null :: st) h Q ↔ T d 124 22 ls st h Q := T_ifnullN c124_5 (by decide)
theorem c124_8 : cod 124 8 = some (.aload_n 0, 1) := cod_of b124 dX7_copyRow_8
theorem t124_8 {d : Nat} {h : Hp} {Q : Pst} {l1 : Value} {x : Nat} {st : List Value} : T d 124 8 [.ref x, l1] st h Q ↔ T d 124 9 [.ref x, l1] (.ref x :: st) h Q := T_aload_n c124_8 rfl
theorem c124_9 : cod 124 9 = some (.iconst 0, 1) := cod_of b124 dX7_copyRow_9
theorem t124_9 {d : Nat} {h : Hp} {Q : Pst} {ls : List Value} {st : List Value} : T d 124 9 ls st h Q ↔ T d 124 10 ls (.int 0 :: st) h Q := T_iconstV c124_9 (by decide)
theorem c124_10 : cod 124 10 = some (.aload_n 1, 1) := cod_of b124 dX7_copyRow_10
theorem t124_10 {d : Nat} {h : Hp} {Q : Pst} {l0 : Value} {x : Nat} {st : List Value} : T d 124 10 [l0, .ref x] st h Q ↔ T d 124 11 [l0, .ref x] (.ref x :: st) h Q := T_aload_n c124_10 rfl
theorem c124_11 : cod 124 11 = some (.iconst 0, 1) := cod_of b124 dX7_copyRow_11
theorem t124_11 {d : Nat} {h : Hp} {Q : Pst} {ls : List Value} {st : List Value} : T d 124 11 ls st h Q ↔ T d 124 12 ls (.int 0 :: st) h Q := T_iconstV c124_11 (by decide)
theorem c124_12 : cod 124 12 = some (.aload_n 0, 1) := cod_of b124 dX7_copyRow_12
theorem t124_12 {d : Nat} {h : Hp} {Q : Pst} {l1 : Value} {x : Nat} {st : List Value} : T d 124 12 [.ref x, l1] st h Q ↔ T d 124 13 [.ref x, l1] (.ref x :: st) h Q := T_aload_n c124_12 rfl
theorem c124_13 : cod 124 13 = some (.arraylength, 1) := cod_of b124 dX7_copyRow_13
theorem t124_13 {d : Nat} {h : Hp} {Q : Pst} {a : Nat} {ls : List Value} {st : List Value} : T d 124 13 ls (.ref a :: st) h Q ↔ cN (h.2.2 a) (fun n => T d 124 14 ls (.int (Int32.ofNat n) :: st) h Q) := T_alen c124_13
theorem c124_14 : cod 124 14 = some (.aload_n 1, 1) := cod_of b124 dX7_copyRow_14
theorem t124_14 {d : Nat} {h : Hp} {Q : Pst} {l0 : Value} {x : Nat} {st : List Value} : T d 124 14 [l0, .ref x] st h Q ↔ T d 124 15 [l0, .ref x] (.ref x :: st) h Q := T_aload_n c124_14 rfl
theorem c124_15 : cod 124 15 = some (.arraylength, 1) := cod_of b124 dX7_copyRow_15
theorem t124_15 {d : Nat} {h : Hp} {Q : Pst} {a : Nat} {ls : List Value} {st : List Value} : T d 124 15 ls (.ref a :: st) h Q ↔ cN (h.2.2 a) (fun n => T d 124 16 ls (.int (Int32.ofNat n) :: st) h Q) := T_alen c124_15
theorem c124_16 : cod 124 16 = some (.invokestatic 316, 3) := cod_of b124 dX7_copyRow_16
theorem t124_16 {d : Nat} {h : Hp} {Q : Pst} {x y s0 s2 : Int32} {s1 s3 : Nat} {ls : List Value} : T (d + 1) 124 16 ls [.int y, .int x, .int s0, .ref s1, .int s2, .ref s3] h Q ↔ T (d + 1) 124 19 ls [.int (if y < x then y else x), .int s0, .ref s1, .int s2, .ref s3] h Q := T_minR m124 c124_16 k7_316 (by simp [stk, Value.category])
theorem c124_19 : cod 124 19 = some (.invokestatic 321, 3) := cod_of b124 dX7_copyRow_19
theorem t124_19 {d : Nat} {h : Hp} {Q : Pst} {n dp sp : Int32} {a0 a1 : Nat} {ls : List Value} : T (d + 1) 124 19 ls [.int n, .int dp, .ref a1, .int sp, .ref a0] h Q ↔ cpO (h.2.2 a0) (h.2.2 a1) sp dp n (fun cell => T (d + 1) 124 22 ls [] (hup h a1 cell) Q) := T_arcR m124 c124_19 k7_321 (by simp [stk, Value.category])
theorem c124_22 : cod 124 22 = some (.return_, 1) := cod_of b124 dX7_copyRow_22
theorem t124_22 {d : Nat} {h : Hp} {Q : Pst} {ls : List Value} : T d 124 22 ls [] h Q ↔ Q none h := T_retR m124 c124_22 rfl
