theorem b170 : (mR 170).2.2.1 = cX8_of := by rw [m170]
theorem c170_0 : cod 170 0 = some (.aload_n 0, 1) := cod_of b170 dX8_of_0
theorem t170_0 {d : Nat} {h : Hp} {Q : Pst} {l1 l2 l3 : Value} {x : Nat} {st : List Value} : T d 170 0 [.ref x, l1, l2, l3] st h Q ↔ T d 170 1 [.ref x, l1, l2, l3] (.ref x :: st) h Q := T_aload_n c170_0 rfl
theorem c170_1 : cod 170 1 = some (.iload_n 1, 1) := cod_of b170 dX8_of_1
theorem t170_1 {d : Nat} {h : Hp} {Q : Pst} {l0 l2 l3 : Value} {x : Int32} {st : List Value} : T d 170 1 [l0, .int x, l2, l3] st h Q ↔ T d 170 2 [l0, .int x, l2, l3] (.int x :: st) h Q := T_iload_n c170_1 rfl
theorem c170_2 : cod 170 2 = some (.invokevirtual 157, 3) := cod_of b170 dX8_of_2
theorem t170_2 {d : Nat} {h : Hp} {Q : Pst} {a0 : Int32} {a : Nat} {ls : List Value} (ho : isO (h.2.2 a) 7) : T (d + 1) 170 2 ls [.int a0, .ref a] h Q ↔ T d 163 0 [.ref a, .int a0] [] h (fun x h2 => T (d + 1) 170 5 ls (rl x []) h2 Q) := T_virtualR (as := [.int a0]) (r := []) m170 m163 c170_2 k8_157  rfl (by decide) rfl (by simp [wrd, Value.category]) (by simp [stk, Value.category]) rfl (by decide +kernel) ho
theorem c170_5 : cod 170 5 = some (.ifCond .eq 12, 3) := cod_of b170 dX8_of_5
theorem t170_5 {d : Nat} {h : Hp} {Q : Pst} {x : Int32} {ls : List Value} {st : List Value} : T d 170 5 ls (.int x :: st) h Q ↔ (if x = 0 then T d 170 17 ls st h Q else T d 170 8 ls st h Q) := T_if_eq c170_5 (by decide)
theorem c170_8 : cod 170 8 = some (.iload_n 2, 1) := cod_of b170 dX8_of_8
theorem t170_8 {d : Nat} {h : Hp} {Q : Pst} {l0 l1 l3 : Value} {x : Int32} {st : List Value} : T d 170 8 [l0, l1, .int x, l3] st h Q ↔ T d 170 9 [l0, l1, .int x, l3] (.int x :: st) h Q := T_iload_n c170_8 rfl
theorem c170_9 : cod 170 9 = some (.iconst 0, 1) := cod_of b170 dX8_of_9
theorem t170_9 {d : Nat} {h : Hp} {Q : Pst} {ls : List Value} {st : List Value} : T d 170 9 ls st h Q ↔ T d 170 10 ls (.int 0 :: st) h Q := T_iconstV c170_9 (by decide)
theorem c170_10 : cod 170 10 = some (.iconst 3, 1) := cod_of b170 dX8_of_10
theorem t170_10 {d : Nat} {h : Hp} {Q : Pst} {ls : List Value} {st : List Value} : T d 170 10 ls st h Q ↔ T d 170 11 ls (.int 3 :: st) h Q := T_iconstV c170_10 (by decide)
theorem c170_11 : cod 170 11 = some (.invokestatic 49, 3) := cod_of b170 dX8_of_11
theorem t170_11 {d : Nat} {h : Hp} {Q : Pst} {a0 a1 a2 : Int32} {ls : List Value} : T (d + 1) 170 11 ls [.int a2, .int a1, .int a0] h Q ↔ T d 126 0 [.int a0, .int a1, .int a2] [] h (fun x h2 => T (d + 1) 170 14 ls (rl x []) h2 Q) := T_staticR (as := [.int a0, .int a1, .int a2]) (r := []) m170 m126 c170_11 k8_49 (Or.inl rfl) rfl (by decide) rfl (by simp [wrd, Value.category]) (by simp [stk, Value.category]) rfl
theorem c170_14 : cod 170 14 = some (.ifCond .ne 10, 3) := cod_of b170 dX8_of_14
theorem t170_14 {d : Nat} {h : Hp} {Q : Pst} {x : Int32} {ls : List Value} {st : List Value} : T d 170 14 ls (.int x :: st) h Q ↔ (if ¬ x = 0 then T d 170 24 ls st h Q else T d 170 17 ls st h Q) := T_if_ne c170_14 (by decide)
theorem c170_24 : cod 170 24 = some (.aload_n 0, 1) := cod_of b170 dX8_of_24
theorem t170_24 {d : Nat} {h : Hp} {Q : Pst} {l1 l2 l3 : Value} {x : Nat} {st : List Value} : T d 170 24 [.ref x, l1, l2, l3] st h Q ↔ T d 170 25 [.ref x, l1, l2, l3] (.ref x :: st) h Q := T_aload_n c170_24 rfl
theorem c170_25 : cod 170 25 = some (.getfield 7, 3) := cod_of b170 dX8_of_25
theorem t170_25 {d : Nat} {h : Hp} {Q : Pst} {a : Nat} {ls : List Value} {st : List Value} : T d 170 25 ls (.ref a :: st) h Q ↔ gF (h.2.2 a) 7 0 (fun v => T d 170 28 ls (v :: st) h Q) := T_getfieldR m170 c170_25 f8_7
theorem c170_28 : cod 170 28 = some (.iconst 0, 1) := cod_of b170 dX8_of_28
theorem t170_28 {d : Nat} {h : Hp} {Q : Pst} {ls : List Value} {st : List Value} : T d 170 28 ls st h Q ↔ T d 170 29 ls (.int 0 :: st) h Q := T_iconstV c170_28 (by decide)
theorem c170_29 : cod 170 29 = some (.iload_n 1, 1) := cod_of b170 dX8_of_29
theorem t170_29 {d : Nat} {h : Hp} {Q : Pst} {l0 l2 l3 : Value} {x : Int32} {st : List Value} : T d 170 29 [l0, .int x, l2, l3] st h Q ↔ T d 170 30 [l0, .int x, l2, l3] (.int x :: st) h Q := T_iload_n c170_29 rfl
theorem c170_30 : cod 170 30 = some (.iadd, 1) := cod_of b170 dX8_of_30
theorem t170_30 {d : Nat} {h : Hp} {Q : Pst} {x y : Int32} {ls : List Value} {st : List Value} : T d 170 30 ls (.int y :: .int x :: st) h Q ↔ T d 170 31 ls (.int (x + y) :: st) h Q := T_iadd c170_30
theorem c170_31 : cod 170 31 = some (.iaload, 1) := cod_of b170 dX8_of_31
theorem t170_31 {d : Nat} {h : Hp} {Q : Pst} {a : Nat} {i : Int32} {ls : List Value} {st : List Value} : T d 170 31 ls (.int i :: .ref a :: st) h Q ↔ aL (h.2.2 a) i (fun x => T d 170 32 ls (.int x :: st) h Q) := T_iaload c170_31
theorem c170_32 : cod 170 32 = some (.istore_n 3, 1) := cod_of b170 dX8_of_32
theorem t170_32 {d : Nat} {h : Hp} {Q : Pst} {l0 l1 l2 l3 : Value} {x : Int32} {st : List Value} : T d 170 32 [l0, l1, l2, l3] (.int x :: st) h Q ↔ T d 170 33 [l0, l1, kil l2, .int x] st h Q := T_istore_n c170_32 (Nat.le_of_ble_eq_true rfl)
theorem c170_33 : cod 170 33 = some (.iload_n 2, 1) := cod_of b170 dX8_of_33
theorem t170_33 {d : Nat} {h : Hp} {Q : Pst} {l0 l1 l3 : Value} {x : Int32} {st : List Value} : T d 170 33 [l0, l1, .int x, l3] st h Q ↔ T d 170 34 [l0, l1, .int x, l3] (.int x :: st) h Q := T_iload_n c170_33 rfl
theorem c170_34 : cod 170 34 = some (.ifCond .ne 15, 3) := cod_of b170 dX8_of_34
theorem t170_34 {d : Nat} {h : Hp} {Q : Pst} {x : Int32} {ls : List Value} {st : List Value} : T d 170 34 ls (.int x :: st) h Q ↔ (if ¬ x = 0 then T d 170 49 ls st h Q else T d 170 37 ls st h Q) := T_if_ne c170_34 (by decide)
theorem c170_37 : cod 170 37 = some (.aload_n 0, 1) := cod_of b170 dX8_of_37
theorem t170_37 {d : Nat} {h : Hp} {Q : Pst} {l1 l2 l3 : Value} {x : Nat} {st : List Value} : T d 170 37 [.ref x, l1, l2, l3] st h Q ↔ T d 170 38 [.ref x, l1, l2, l3] (.ref x :: st) h Q := T_aload_n c170_37 rfl
theorem c170_38 : cod 170 38 = some (.getfield 7, 3) := cod_of b170 dX8_of_38
theorem t170_38 {d : Nat} {h : Hp} {Q : Pst} {a : Nat} {ls : List Value} {st : List Value} : T d 170 38 ls (.ref a :: st) h Q ↔ gF (h.2.2 a) 7 0 (fun v => T d 170 41 ls (v :: st) h Q) := T_getfieldR m170 c170_38 f8_7
theorem c170_41 : cod 170 41 = some (.bipush 13, 2) := cod_of b170 dX8_of_41
theorem t170_41 {d : Nat} {h : Hp} {Q : Pst} {ls : List Value} {st : List Value} : T d 170 41 ls st h Q ↔ T d 170 43 ls (.int 13 :: st) h Q := T_bipushV c170_41 (by decide)
theorem c170_43 : cod 170 43 = some (.iload_n 1, 1) := cod_of b170 dX8_of_43
theorem t170_43 {d : Nat} {h : Hp} {Q : Pst} {l0 l2 l3 : Value} {x : Int32} {st : List Value} : T d 170 43 [l0, .int x, l2, l3] st h Q ↔ T d 170 44 [l0, .int x, l2, l3] (.int x :: st) h Q := T_iload_n c170_43 rfl
theorem c170_44 : cod 170 44 = some (.iadd, 1) := cod_of b170 dX8_of_44
theorem t170_44 {d : Nat} {h : Hp} {Q : Pst} {x y : Int32} {ls : List Value} {st : List Value} : T d 170 44 ls (.int y :: .int x :: st) h Q ↔ T d 170 45 ls (.int (x + y) :: st) h Q := T_iadd c170_44
theorem c170_45 : cod 170 45 = some (.iaload, 1) := cod_of b170 dX8_of_45
theorem t170_45 {d : Nat} {h : Hp} {Q : Pst} {a : Nat} {i : Int32} {ls : List Value} {st : List Value} : T d 170 45 ls (.int i :: .ref a :: st) h Q ↔ aL (h.2.2 a) i (fun x => T d 170 46 ls (.int x :: st) h Q) := T_iaload c170_45
theorem c170_46 : cod 170 46 = some (.goto 51, 3) := cod_of b170 dX8_of_46
theorem t170_46 {d : Nat} {h : Hp} {Q : Pst} {ls : List Value} {st : List Value} : T d 170 46 ls st h Q ↔ T d 170 97 ls st h Q := T_goto c170_46 (by decide)
theorem c170_97 : cod 170 97 = some (.ireturn, 1) := cod_of b170 dX8_of_97
theorem t170_97 {d : Nat} {h : Hp} {Q : Pst} {x : Int32} {ls : List Value} : T d 170 97 ls [.int x] h Q ↔ Q (some (.int x)) h := T_iretR m170 c170_97 rfl
theorem c170_49 : cod 170 49 = some (.iload_n 2, 1) := cod_of b170 dX8_of_49
theorem t170_49 {d : Nat} {h : Hp} {Q : Pst} {l0 l1 l3 : Value} {x : Int32} {st : List Value} : T d 170 49 [l0, l1, .int x, l3] st h Q ↔ T d 170 50 [l0, l1, .int x, l3] (.int x :: st) h Q := T_iload_n c170_49 rfl
theorem c170_50 : cod 170 50 = some (.iconst 1, 1) := cod_of b170 dX8_of_50
theorem t170_50 {d : Nat} {h : Hp} {Q : Pst} {ls : List Value} {st : List Value} : T d 170 50 ls st h Q ↔ T d 170 51 ls (.int 1 :: st) h Q := T_iconstV c170_50 (by decide)
theorem c170_51 : cod 170 51 = some (.if_icmp .ne 15, 3) := cod_of b170 dX8_of_51
theorem t170_51 {d : Nat} {h : Hp} {Q : Pst} {x y : Int32} {ls : List Value} {st : List Value} : T d 170 51 ls (.int y :: .int x :: st) h Q ↔ (if ¬ x = y then T d 170 66 ls st h Q else T d 170 54 ls st h Q) := T_icmp_ne c170_51 (by decide)
theorem c170_54 : cod 170 54 = some (.aload_n 0, 1) := cod_of b170 dX8_of_54
theorem t170_54 {d : Nat} {h : Hp} {Q : Pst} {l1 l2 l3 : Value} {x : Nat} {st : List Value} : T d 170 54 [.ref x, l1, l2, l3] st h Q ↔ T d 170 55 [.ref x, l1, l2, l3] (.ref x :: st) h Q := T_aload_n c170_54 rfl
theorem c170_55 : cod 170 55 = some (.getfield 7, 3) := cod_of b170 dX8_of_55
theorem t170_55 {d : Nat} {h : Hp} {Q : Pst} {a : Nat} {ls : List Value} {st : List Value} : T d 170 55 ls (.ref a :: st) h Q ↔ gF (h.2.2 a) 7 0 (fun v => T d 170 58 ls (v :: st) h Q) := T_getfieldR m170 c170_55 f8_7
theorem c170_58 : cod 170 58 = some (.bipush 19, 2) := cod_of b170 dX8_of_58
theorem t170_58 {d : Nat} {h : Hp} {Q : Pst} {ls : List Value} {st : List Value} : T d 170 58 ls st h Q ↔ T d 170 60 ls (.int 19 :: st) h Q := T_bipushV c170_58 (by decide)
theorem c170_60 : cod 170 60 = some (.iload_n 1, 1) := cod_of b170 dX8_of_60
theorem t170_60 {d : Nat} {h : Hp} {Q : Pst} {l0 l2 l3 : Value} {x : Int32} {st : List Value} : T d 170 60 [l0, .int x, l2, l3] st h Q ↔ T d 170 61 [l0, .int x, l2, l3] (.int x :: st) h Q := T_iload_n c170_60 rfl
theorem c170_61 : cod 170 61 = some (.iadd, 1) := cod_of b170 dX8_of_61
theorem t170_61 {d : Nat} {h : Hp} {Q : Pst} {x y : Int32} {ls : List Value} {st : List Value} : T d 170 61 ls (.int y :: .int x :: st) h Q ↔ T d 170 62 ls (.int (x + y) :: st) h Q := T_iadd c170_61
theorem c170_62 : cod 170 62 = some (.iaload, 1) := cod_of b170 dX8_of_62
theorem t170_62 {d : Nat} {h : Hp} {Q : Pst} {a : Nat} {i : Int32} {ls : List Value} {st : List Value} : T d 170 62 ls (.int i :: .ref a :: st) h Q ↔ aL (h.2.2 a) i (fun x => T d 170 63 ls (.int x :: st) h Q) := T_iaload c170_62
theorem c170_63 : cod 170 63 = some (.goto 34, 3) := cod_of b170 dX8_of_63
theorem t170_63 {d : Nat} {h : Hp} {Q : Pst} {ls : List Value} {st : List Value} : T d 170 63 ls st h Q ↔ T d 170 97 ls st h Q := T_goto c170_63 (by decide)
theorem c170_66 : cod 170 66 = some (.iload_n 2, 1) := cod_of b170 dX8_of_66
theorem t170_66 {d : Nat} {h : Hp} {Q : Pst} {l0 l1 l3 : Value} {x : Int32} {st : List Value} : T d 170 66 [l0, l1, .int x, l3] st h Q ↔ T d 170 67 [l0, l1, .int x, l3] (.int x :: st) h Q := T_iload_n c170_66 rfl
theorem c170_67 : cod 170 67 = some (.iconst 2, 1) := cod_of b170 dX8_of_67
theorem t170_67 {d : Nat} {h : Hp} {Q : Pst} {ls : List Value} {st : List Value} : T d 170 67 ls st h Q ↔ T d 170 68 ls (.int 2 :: st) h Q := T_iconstV c170_67 (by decide)
theorem c170_68 : cod 170 68 = some (.if_icmp .ne 7, 3) := cod_of b170 dX8_of_68
theorem t170_68 {d : Nat} {h : Hp} {Q : Pst} {x y : Int32} {ls : List Value} {st : List Value} : T d 170 68 ls (.int y :: .int x :: st) h Q ↔ (if ¬ x = y then T d 170 75 ls st h Q else T d 170 71 ls st h Q) := T_icmp_ne c170_68 (by decide)
theorem c170_71 : cod 170 71 = some (.iload_n 3, 1) := cod_of b170 dX8_of_71
theorem t170_71 {d : Nat} {h : Hp} {Q : Pst} {l0 l1 l2 : Value} {x : Int32} {st : List Value} : T d 170 71 [l0, l1, l2, .int x] st h Q ↔ T d 170 72 [l0, l1, l2, .int x] (.int x :: st) h Q := T_iload_n c170_71 rfl
theorem c170_72 : cod 170 72 = some (.goto 25, 3) := cod_of b170 dX8_of_72
theorem t170_72 {d : Nat} {h : Hp} {Q : Pst} {ls : List Value} {st : List Value} : T d 170 72 ls st h Q ↔ T d 170 97 ls st h Q := T_goto c170_72 (by decide)
theorem c170_75 : cod 170 75 = some (.iload_n 3, 1) := cod_of b170 dX8_of_75
theorem t170_75 {d : Nat} {h : Hp} {Q : Pst} {l0 l1 l2 : Value} {x : Int32} {st : List Value} : T d 170 75 [l0, l1, l2, .int x] st h Q ↔ T d 170 76 [l0, l1, l2, .int x] (.int x :: st) h Q := T_iload_n c170_75 rfl
theorem c170_76 : cod 170 76 = some (.iconst (-1), 1) := cod_of b170 dX8_of_76
theorem t170_76 {d : Nat} {h : Hp} {Q : Pst} {ls : List Value} {st : List Value} : T d 170 76 ls st h Q ↔ T d 170 77 ls (.int (-1) :: st) h Q := T_iconstV c170_76 (by decide)
theorem c170_77 : cod 170 77 = some (.if_icmp .ne 7, 3) := cod_of b170 dX8_of_77
theorem t170_77 {d : Nat} {h : Hp} {Q : Pst} {x y : Int32} {ls : List Value} {st : List Value} : T d 170 77 ls (.int y :: .int x :: st) h Q ↔ (if ¬ x = y then T d 170 84 ls st h Q else T d 170 80 ls st h Q) := T_icmp_ne c170_77 (by decide)
theorem c170_80 : cod 170 80 = some (.iconst 0, 1) := cod_of b170 dX8_of_80
theorem t170_80 {d : Nat} {h : Hp} {Q : Pst} {ls : List Value} {st : List Value} : T d 170 80 ls st h Q ↔ T d 170 81 ls (.int 0 :: st) h Q := T_iconstV c170_80 (by decide)
theorem c170_81 : cod 170 81 = some (.goto 16, 3) := cod_of b170 dX8_of_81
theorem t170_81 {d : Nat} {h : Hp} {Q : Pst} {ls : List Value} {st : List Value} : T d 170 81 ls st h Q ↔ T d 170 97 ls st h Q := T_goto c170_81 (by decide)
theorem c170_84 : cod 170 84 = some (.aload_n 0, 1) := cod_of b170 dX8_of_84
theorem t170_84 {d : Nat} {h : Hp} {Q : Pst} {l1 l2 l3 : Value} {x : Nat} {st : List Value} : T d 170 84 [.ref x, l1, l2, l3] st h Q ↔ T d 170 85 [.ref x, l1, l2, l3] (.ref x :: st) h Q := T_aload_n c170_84 rfl
theorem c170_85 : cod 170 85 = some (.iload_n 1, 1) := cod_of b170 dX8_of_85
theorem t170_85 {d : Nat} {h : Hp} {Q : Pst} {l0 l2 l3 : Value} {x : Int32} {st : List Value} : T d 170 85 [l0, .int x, l2, l3] st h Q ↔ T d 170 86 [l0, .int x, l2, l3] (.int x :: st) h Q := T_iload_n c170_85 rfl
theorem c170_86 : cod 170 86 = some (.iload_n 3, 1) := cod_of b170 dX8_of_86
theorem t170_86 {d : Nat} {h : Hp} {Q : Pst} {l0 l1 l2 : Value} {x : Int32} {st : List Value} : T d 170 86 [l0, l1, l2, .int x] st h Q ↔ T d 170 87 [l0, l1, l2, .int x] (.int x :: st) h Q := T_iload_n c170_86 rfl
theorem c170_87 : cod 170 87 = some (.aload_n 0, 1) := cod_of b170 dX8_of_87
theorem t170_87 {d : Nat} {h : Hp} {Q : Pst} {l1 l2 l3 : Value} {x : Nat} {st : List Value} : T d 170 87 [.ref x, l1, l2, l3] st h Q ↔ T d 170 88 [.ref x, l1, l2, l3] (.ref x :: st) h Q := T_aload_n c170_87 rfl
theorem c170_88 : cod 170 88 = some (.getfield 7, 3) := cod_of b170 dX8_of_88
theorem t170_88 {d : Nat} {h : Hp} {Q : Pst} {a : Nat} {ls : List Value} {st : List Value} : T d 170 88 ls (.ref a :: st) h Q ↔ gF (h.2.2 a) 7 0 (fun v => T d 170 91 ls (v :: st) h Q) := T_getfieldR m170 c170_88 f8_7
theorem c170_91 : cod 170 91 = some (.bipush 10, 2) := cod_of b170 dX8_of_91
theorem t170_91 {d : Nat} {h : Hp} {Q : Pst} {ls : List Value} {st : List Value} : T d 170 91 ls st h Q ↔ T d 170 93 ls (.int 10 :: st) h Q := T_bipushV c170_91 (by decide)
theorem c170_93 : cod 170 93 = some (.iaload, 1) := cod_of b170 dX8_of_93
theorem t170_93 {d : Nat} {h : Hp} {Q : Pst} {a : Nat} {i : Int32} {ls : List Value} {st : List Value} : T d 170 93 ls (.int i :: .ref a :: st) h Q ↔ aL (h.2.2 a) i (fun x => T d 170 94 ls (.int x :: st) h Q) := T_iaload c170_93
theorem c170_94 : cod 170 94 = some (.invokevirtual 145, 3) := cod_of b170 dX8_of_94
theorem t170_94 {d : Nat} {h : Hp} {Q : Pst} {a0 a1 a2 : Int32} {a : Nat} {ls : List Value} (ho : isO (h.2.2 a) 7) : T (d + 1) 170 94 ls [.int a2, .int a1, .int a0, .ref a] h Q ↔ T d 157 0 [.ref a, .int a0, .int a1, .int a2] [] h (fun x h2 => T (d + 1) 170 97 ls (rl x []) h2 Q) := T_virtualR (as := [.int a0, .int a1, .int a2]) (r := []) m170 m157 c170_94 k8_145  rfl (by decide) rfl (by simp [wrd, Value.category]) (by simp [stk, Value.category]) rfl (by decide +kernel) ho
theorem c170_17 : cod 170 17 = some (.aload_n 0, 1) := cod_of b170 dX8_of_17
theorem t170_17 {d : Nat} {h : Hp} {Q : Pst} {l1 l2 l3 : Value} {x : Nat} {st : List Value} : T d 170 17 [.ref x, l1, l2, l3] st h Q ↔ T d 170 18 [.ref x, l1, l2, l3] (.ref x :: st) h Q := T_aload_n c170_17 rfl
theorem c170_18 : cod 170 18 = some (.bipush (-2), 2) := cod_of b170 dX8_of_18
theorem t170_18 {d : Nat} {h : Hp} {Q : Pst} {ls : List Value} {st : List Value} : T d 170 18 ls st h Q ↔ T d 170 20 ls (.int (-2) :: st) h Q := T_bipushV c170_18 (by decide)
theorem c170_20 : cod 170 20 = some (.invokevirtual 45, 3) := cod_of b170 dX8_of_20
theorem t170_20 {d : Nat} {h : Hp} {Q : Pst} {a0 : Int32} {a : Nat} {ls : List Value} (ho : isO (h.2.2 a) 7) : T (d + 1) 170 20 ls [.int a0, .ref a] h Q ↔ T d 129 0 [.ref a, .int a0] [] h (fun x h2 => T (d + 1) 170 23 ls (rl x []) h2 Q) := T_virtualR (as := [.int a0]) (r := []) m170 m129 c170_20 k8_45  rfl (by decide) rfl (by simp [wrd, Value.category]) (by simp [stk, Value.category]) rfl (by decide +kernel) ho
theorem c170_23 : cod 170 23 = some (.ireturn, 1) := cod_of b170 dX8_of_23
theorem t170_23 {d : Nat} {h : Hp} {Q : Pst} {x : Int32} {ls : List Value} : T d 170 23 ls [.int x] h Q ↔ Q (some (.int x)) h := T_iretR m170 c170_23 rfl
theorem b171 : (mR 171).2.2.1 = cX8_about := by rw [m171]
theorem c171_0 : cod 171 0 = some (.aload_n 0, 1) := cod_of b171 dX8_about_0
theorem t171_0 {d : Nat} {h : Hp} {Q : Pst} {l1 l2 : Value} {x : Nat} {st : List Value} : T d 171 0 [.ref x, l1, l2] st h Q ↔ T d 171 1 [.ref x, l1, l2] (.ref x :: st) h Q := T_aload_n c171_0 rfl
theorem c171_1 : cod 171 1 = some (.iload_n 1, 1) := cod_of b171 dX8_about_1
theorem t171_1 {d : Nat} {h : Hp} {Q : Pst} {l0 l2 : Value} {x : Int32} {st : List Value} : T d 171 1 [l0, .int x, l2] st h Q ↔ T d 171 2 [l0, .int x, l2] (.int x :: st) h Q := T_iload_n c171_1 rfl
theorem c171_2 : cod 171 2 = some (.invokevirtual 160, 3) := cod_of b171 dX8_about_2
theorem t171_2 {d : Nat} {h : Hp} {Q : Pst} {a0 : Int32} {a : Nat} {ls : List Value} (ho : isO (h.2.2 a) 7) : T (d + 1) 171 2 ls [.int a0, .ref a] h Q ↔ T d 164 0 [.ref a, .int a0] [] h (fun x h2 => T (d + 1) 171 5 ls (rl x []) h2 Q) := T_virtualR (as := [.int a0]) (r := []) m171 m164 c171_2 k8_160  rfl (by decide) rfl (by simp [wrd, Value.category]) (by simp [stk, Value.category]) rfl (by decide +kernel) ho
theorem c171_5 : cod 171 5 = some (.ifCond .eq 12, 3) := cod_of b171 dX8_about_5
theorem t171_5 {d : Nat} {h : Hp} {Q : Pst} {x : Int32} {ls : List Value} {st : List Value} : T d 171 5 ls (.int x :: st) h Q ↔ (if x = 0 then T d 171 17 ls st h Q else T d 171 8 ls st h Q) := T_if_eq c171_5 (by decide)
theorem c171_8 : cod 171 8 = some (.iload_n 2, 1) := cod_of b171 dX8_about_8
theorem t171_8 {d : Nat} {h : Hp} {Q : Pst} {l0 l1 : Value} {x : Int32} {st : List Value} : T d 171 8 [l0, l1, .int x] st h Q ↔ T d 171 9 [l0, l1, .int x] (.int x :: st) h Q := T_iload_n c171_8 rfl
theorem c171_9 : cod 171 9 = some (.iconst 0, 1) := cod_of b171 dX8_about_9
theorem t171_9 {d : Nat} {h : Hp} {Q : Pst} {ls : List Value} {st : List Value} : T d 171 9 ls st h Q ↔ T d 171 10 ls (.int 0 :: st) h Q := T_iconstV c171_9 (by decide)
theorem c171_10 : cod 171 10 = some (.iconst 4, 1) := cod_of b171 dX8_about_10
theorem t171_10 {d : Nat} {h : Hp} {Q : Pst} {ls : List Value} {st : List Value} : T d 171 10 ls st h Q ↔ T d 171 11 ls (.int 4 :: st) h Q := T_iconstV c171_10 (by decide)
theorem c171_11 : cod 171 11 = some (.invokestatic 49, 3) := cod_of b171 dX8_about_11
theorem t171_11 {d : Nat} {h : Hp} {Q : Pst} {a0 a1 a2 : Int32} {ls : List Value} : T (d + 1) 171 11 ls [.int a2, .int a1, .int a0] h Q ↔ T d 126 0 [.int a0, .int a1, .int a2] [] h (fun x h2 => T (d + 1) 171 14 ls (rl x []) h2 Q) := T_staticR (as := [.int a0, .int a1, .int a2]) (r := []) m171 m126 c171_11 k8_49 (Or.inl rfl) rfl (by decide) rfl (by simp [wrd, Value.category]) (by simp [stk, Value.category]) rfl
theorem c171_14 : cod 171 14 = some (.ifCond .ne 10, 3) := cod_of b171 dX8_about_14
theorem t171_14 {d : Nat} {h : Hp} {Q : Pst} {x : Int32} {ls : List Value} {st : List Value} : T d 171 14 ls (.int x :: st) h Q ↔ (if ¬ x = 0 then T d 171 24 ls st h Q else T d 171 17 ls st h Q) := T_if_ne c171_14 (by decide)
theorem c171_24 : cod 171 24 = some (.iload_n 2, 1) := cod_of b171 dX8_about_24
theorem t171_24 {d : Nat} {h : Hp} {Q : Pst} {l0 l1 : Value} {x : Int32} {st : List Value} : T d 171 24 [l0, l1, .int x] st h Q ↔ T d 171 25 [l0, l1, .int x] (.int x :: st) h Q := T_iload_n c171_24 rfl
theorem c171_25 : cod 171 25 = some (.ifCond .ne 15, 3) := cod_of b171 dX8_about_25
theorem t171_25 {d : Nat} {h : Hp} {Q : Pst} {x : Int32} {ls : List Value} {st : List Value} : T d 171 25 ls (.int x :: st) h Q ↔ (if ¬ x = 0 then T d 171 40 ls st h Q else T d 171 28 ls st h Q) := T_if_ne c171_25 (by decide)
theorem c171_28 : cod 171 28 = some (.aload_n 0, 1) := cod_of b171 dX8_about_28
theorem t171_28 {d : Nat} {h : Hp} {Q : Pst} {l1 l2 : Value} {x : Nat} {st : List Value} : T d 171 28 [.ref x, l1, l2] st h Q ↔ T d 171 29 [.ref x, l1, l2] (.ref x :: st) h Q := T_aload_n c171_28 rfl
theorem c171_29 : cod 171 29 = some (.getfield 7, 3) := cod_of b171 dX8_about_29
theorem t171_29 {d : Nat} {h : Hp} {Q : Pst} {a : Nat} {ls : List Value} {st : List Value} : T d 171 29 ls (.ref a :: st) h Q ↔ gF (h.2.2 a) 7 0 (fun v => T d 171 32 ls (v :: st) h Q) := T_getfieldR m171 c171_29 f8_7
theorem c171_32 : cod 171 32 = some (.bipush 26, 2) := cod_of b171 dX8_about_32
theorem t171_32 {d : Nat} {h : Hp} {Q : Pst} {ls : List Value} {st : List Value} : T d 171 32 ls st h Q ↔ T d 171 34 ls (.int 26 :: st) h Q := T_bipushV c171_32 (by decide)
theorem c171_34 : cod 171 34 = some (.iload_n 1, 1) := cod_of b171 dX8_about_34
theorem t171_34 {d : Nat} {h : Hp} {Q : Pst} {l0 l2 : Value} {x : Int32} {st : List Value} : T d 171 34 [l0, .int x, l2] st h Q ↔ T d 171 35 [l0, .int x, l2] (.int x :: st) h Q := T_iload_n c171_34 rfl
theorem c171_35 : cod 171 35 = some (.iadd, 1) := cod_of b171 dX8_about_35
theorem t171_35 {d : Nat} {h : Hp} {Q : Pst} {x y : Int32} {ls : List Value} {st : List Value} : T d 171 35 ls (.int y :: .int x :: st) h Q ↔ T d 171 36 ls (.int (x + y) :: st) h Q := T_iadd c171_35
theorem c171_36 : cod 171 36 = some (.iaload, 1) := cod_of b171 dX8_about_36
theorem t171_36 {d : Nat} {h : Hp} {Q : Pst} {a : Nat} {i : Int32} {ls : List Value} {st : List Value} : T d 171 36 ls (.int i :: .ref a :: st) h Q ↔ aL (h.2.2 a) i (fun x => T d 171 37 ls (.int x :: st) h Q) := T_iaload c171_36
theorem c171_37 : cod 171 37 = some (.goto 46, 3) := cod_of b171 dX8_about_37
theorem t171_37 {d : Nat} {h : Hp} {Q : Pst} {ls : List Value} {st : List Value} : T d 171 37 ls st h Q ↔ T d 171 83 ls st h Q := T_goto c171_37 (by decide)
theorem c171_83 : cod 171 83 = some (.ireturn, 1) := cod_of b171 dX8_about_83
theorem t171_83 {d : Nat} {h : Hp} {Q : Pst} {x : Int32} {ls : List Value} : T d 171 83 ls [.int x] h Q ↔ Q (some (.int x)) h := T_iretR m171 c171_83 rfl
theorem c171_40 : cod 171 40 = some (.iload_n 2, 1) := cod_of b171 dX8_about_40
theorem t171_40 {d : Nat} {h : Hp} {Q : Pst} {l0 l1 : Value} {x : Int32} {st : List Value} : T d 171 40 [l0, l1, .int x] st h Q ↔ T d 171 41 [l0, l1, .int x] (.int x :: st) h Q := T_iload_n c171_40 rfl
theorem c171_41 : cod 171 41 = some (.iconst 1, 1) := cod_of b171 dX8_about_41
theorem t171_41 {d : Nat} {h : Hp} {Q : Pst} {ls : List Value} {st : List Value} : T d 171 41 ls st h Q ↔ T d 171 42 ls (.int 1 :: st) h Q := T_iconstV c171_41 (by decide)
theorem c171_42 : cod 171 42 = some (.if_icmp .ne 15, 3) := cod_of b171 dX8_about_42
theorem t171_42 {d : Nat} {h : Hp} {Q : Pst} {x y : Int32} {ls : List Value} {st : List Value} : T d 171 42 ls (.int y :: .int x :: st) h Q ↔ (if ¬ x = y then T d 171 57 ls st h Q else T d 171 45 ls st h Q) := T_icmp_ne c171_42 (by decide)
theorem c171_45 : cod 171 45 = some (.aload_n 0, 1) := cod_of b171 dX8_about_45
theorem t171_45 {d : Nat} {h : Hp} {Q : Pst} {l1 l2 : Value} {x : Nat} {st : List Value} : T d 171 45 [.ref x, l1, l2] st h Q ↔ T d 171 46 [.ref x, l1, l2] (.ref x :: st) h Q := T_aload_n c171_45 rfl
theorem c171_46 : cod 171 46 = some (.getfield 7, 3) := cod_of b171 dX8_about_46
theorem t171_46 {d : Nat} {h : Hp} {Q : Pst} {a : Nat} {ls : List Value} {st : List Value} : T d 171 46 ls (.ref a :: st) h Q ↔ gF (h.2.2 a) 7 0 (fun v => T d 171 49 ls (v :: st) h Q) := T_getfieldR m171 c171_46 f8_7
theorem c171_49 : cod 171 49 = some (.bipush 30, 2) := cod_of b171 dX8_about_49
theorem t171_49 {d : Nat} {h : Hp} {Q : Pst} {ls : List Value} {st : List Value} : T d 171 49 ls st h Q ↔ T d 171 51 ls (.int 30 :: st) h Q := T_bipushV c171_49 (by decide)
theorem c171_51 : cod 171 51 = some (.iload_n 1, 1) := cod_of b171 dX8_about_51
theorem t171_51 {d : Nat} {h : Hp} {Q : Pst} {l0 l2 : Value} {x : Int32} {st : List Value} : T d 171 51 [l0, .int x, l2] st h Q ↔ T d 171 52 [l0, .int x, l2] (.int x :: st) h Q := T_iload_n c171_51 rfl
theorem c171_52 : cod 171 52 = some (.iadd, 1) := cod_of b171 dX8_about_52
theorem t171_52 {d : Nat} {h : Hp} {Q : Pst} {x y : Int32} {ls : List Value} {st : List Value} : T d 171 52 ls (.int y :: .int x :: st) h Q ↔ T d 171 53 ls (.int (x + y) :: st) h Q := T_iadd c171_52
theorem c171_53 : cod 171 53 = some (.iaload, 1) := cod_of b171 dX8_about_53
theorem t171_53 {d : Nat} {h : Hp} {Q : Pst} {a : Nat} {i : Int32} {ls : List Value} {st : List Value} : T d 171 53 ls (.int i :: .ref a :: st) h Q ↔ aL (h.2.2 a) i (fun x => T d 171 54 ls (.int x :: st) h Q) := T_iaload c171_53
theorem c171_54 : cod 171 54 = some (.goto 29, 3) := cod_of b171 dX8_about_54
theorem t171_54 {d : Nat} {h : Hp} {Q : Pst} {ls : List Value} {st : List Value} : T d 171 54 ls st h Q ↔ T d 171 83 ls st h Q := T_goto c171_54 (by decide)
theorem c171_57 : cod 171 57 = some (.iload_n 2, 1) := cod_of b171 dX8_about_57
theorem t171_57 {d : Nat} {h : Hp} {Q : Pst} {l0 l1 : Value} {x : Int32} {st : List Value} : T d 171 57 [l0, l1, .int x] st h Q ↔ T d 171 58 [l0, l1, .int x] (.int x :: st) h Q := T_iload_n c171_57 rfl
theorem c171_58 : cod 171 58 = some (.iconst 2, 1) := cod_of b171 dX8_about_58
theorem t171_58 {d : Nat} {h : Hp} {Q : Pst} {ls : List Value} {st : List Value} : T d 171 58 ls st h Q ↔ T d 171 59 ls (.int 2 :: st) h Q := T_iconstV c171_58 (by decide)
theorem c171_59 : cod 171 59 = some (.if_icmp .ne 15, 3) := cod_of b171 dX8_about_59
theorem t171_59 {d : Nat} {h : Hp} {Q : Pst} {x y : Int32} {ls : List Value} {st : List Value} : T d 171 59 ls (.int y :: .int x :: st) h Q ↔ (if ¬ x = y then T d 171 74 ls st h Q else T d 171 62 ls st h Q) := T_icmp_ne c171_59 (by decide)
theorem c171_62 : cod 171 62 = some (.aload_n 0, 1) := cod_of b171 dX8_about_62
theorem t171_62 {d : Nat} {h : Hp} {Q : Pst} {l1 l2 : Value} {x : Nat} {st : List Value} : T d 171 62 [.ref x, l1, l2] st h Q ↔ T d 171 63 [.ref x, l1, l2] (.ref x :: st) h Q := T_aload_n c171_62 rfl
theorem c171_63 : cod 171 63 = some (.getfield 7, 3) := cod_of b171 dX8_about_63
theorem t171_63 {d : Nat} {h : Hp} {Q : Pst} {a : Nat} {ls : List Value} {st : List Value} : T d 171 63 ls (.ref a :: st) h Q ↔ gF (h.2.2 a) 7 0 (fun v => T d 171 66 ls (v :: st) h Q) := T_getfieldR m171 c171_63 f8_7
theorem c171_66 : cod 171 66 = some (.bipush 6, 2) := cod_of b171 dX8_about_66
theorem t171_66 {d : Nat} {h : Hp} {Q : Pst} {ls : List Value} {st : List Value} : T d 171 66 ls st h Q ↔ T d 171 68 ls (.int 6 :: st) h Q := T_bipushV c171_66 (by decide)
theorem c171_68 : cod 171 68 = some (.iload_n 1, 1) := cod_of b171 dX8_about_68
theorem t171_68 {d : Nat} {h : Hp} {Q : Pst} {l0 l2 : Value} {x : Int32} {st : List Value} : T d 171 68 [l0, .int x, l2] st h Q ↔ T d 171 69 [l0, .int x, l2] (.int x :: st) h Q := T_iload_n c171_68 rfl
theorem c171_69 : cod 171 69 = some (.iadd, 1) := cod_of b171 dX8_about_69
theorem t171_69 {d : Nat} {h : Hp} {Q : Pst} {x y : Int32} {ls : List Value} {st : List Value} : T d 171 69 ls (.int y :: .int x :: st) h Q ↔ T d 171 70 ls (.int (x + y) :: st) h Q := T_iadd c171_69
theorem c171_70 : cod 171 70 = some (.iaload, 1) := cod_of b171 dX8_about_70
theorem t171_70 {d : Nat} {h : Hp} {Q : Pst} {a : Nat} {i : Int32} {ls : List Value} {st : List Value} : T d 171 70 ls (.int i :: .ref a :: st) h Q ↔ aL (h.2.2 a) i (fun x => T d 171 71 ls (.int x :: st) h Q) := T_iaload c171_70
theorem c171_71 : cod 171 71 = some (.goto 12, 3) := cod_of b171 dX8_about_71
theorem t171_71 {d : Nat} {h : Hp} {Q : Pst} {ls : List Value} {st : List Value} : T d 171 71 ls st h Q ↔ T d 171 83 ls st h Q := T_goto c171_71 (by decide)
theorem c171_74 : cod 171 74 = some (.aload_n 0, 1) := cod_of b171 dX8_about_74
theorem t171_74 {d : Nat} {h : Hp} {Q : Pst} {l1 l2 : Value} {x : Nat} {st : List Value} : T d 171 74 [.ref x, l1, l2] st h Q ↔ T d 171 75 [.ref x, l1, l2] (.ref x :: st) h Q := T_aload_n c171_74 rfl
theorem c171_75 : cod 171 75 = some (.iconst 0, 1) := cod_of b171 dX8_about_75
theorem t171_75 {d : Nat} {h : Hp} {Q : Pst} {ls : List Value} {st : List Value} : T d 171 75 ls st h Q ↔ T d 171 76 ls (.int 0 :: st) h Q := T_iconstV c171_75 (by decide)
theorem c171_76 : cod 171 76 = some (.iload_n 1, 1) := cod_of b171 dX8_about_76
theorem t171_76 {d : Nat} {h : Hp} {Q : Pst} {l0 l2 : Value} {x : Int32} {st : List Value} : T d 171 76 [l0, .int x, l2] st h Q ↔ T d 171 77 [l0, .int x, l2] (.int x :: st) h Q := T_iload_n c171_76 rfl
theorem c171_77 : cod 171 77 = some (.iload_n 2, 1) := cod_of b171 dX8_about_77
theorem t171_77 {d : Nat} {h : Hp} {Q : Pst} {l0 l1 : Value} {x : Int32} {st : List Value} : T d 171 77 [l0, l1, .int x] st h Q ↔ T d 171 78 [l0, l1, .int x] (.int x :: st) h Q := T_iload_n c171_77 rfl
theorem c171_78 : cod 171 78 = some (.iconst 3, 1) := cod_of b171 dX8_about_78
theorem t171_78 {d : Nat} {h : Hp} {Q : Pst} {ls : List Value} {st : List Value} : T d 171 78 ls st h Q ↔ T d 171 79 ls (.int 3 :: st) h Q := T_iconstV c171_78 (by decide)
theorem c171_79 : cod 171 79 = some (.isub, 1) := cod_of b171 dX8_about_79
theorem t171_79 {d : Nat} {h : Hp} {Q : Pst} {x y : Int32} {ls : List Value} {st : List Value} : T d 171 79 ls (.int y :: .int x :: st) h Q ↔ T d 171 80 ls (.int (x - y) :: st) h Q := T_isub c171_79
theorem c171_80 : cod 171 80 = some (.invokevirtual 151, 3) := cod_of b171 dX8_about_80
theorem t171_80 {d : Nat} {h : Hp} {Q : Pst} {a0 a1 a2 : Int32} {a : Nat} {ls : List Value} (ho : isO (h.2.2 a) 7) : T (d + 1) 171 80 ls [.int a2, .int a1, .int a0, .ref a] h Q ↔ T d 158 0 [.ref a, .int a0, .int a1, .int a2, un, un, un, un] [] h (fun x h2 => T (d + 1) 171 83 ls (rl x []) h2 Q) := T_virtualR (as := [.int a0, .int a1, .int a2]) (r := []) m171 m158 c171_80 k8_151  rfl (by decide) rfl (by simp [wrd, Value.category]) (by simp [stk, Value.category]) rfl (by decide +kernel) ho
theorem c171_17 : cod 171 17 = some (.aload_n 0, 1) := cod_of b171 dX8_about_17
theorem t171_17 {d : Nat} {h : Hp} {Q : Pst} {l1 l2 : Value} {x : Nat} {st : List Value} : T d 171 17 [.ref x, l1, l2] st h Q ↔ T d 171 18 [.ref x, l1, l2] (.ref x :: st) h Q := T_aload_n c171_17 rfl
theorem c171_18 : cod 171 18 = some (.bipush (-2), 2) := cod_of b171 dX8_about_18
theorem t171_18 {d : Nat} {h : Hp} {Q : Pst} {ls : List Value} {st : List Value} : T d 171 18 ls st h Q ↔ T d 171 20 ls (.int (-2) :: st) h Q := T_bipushV c171_18 (by decide)
theorem c171_20 : cod 171 20 = some (.invokevirtual 45, 3) := cod_of b171 dX8_about_20
theorem t171_20 {d : Nat} {h : Hp} {Q : Pst} {a0 : Int32} {a : Nat} {ls : List Value} (ho : isO (h.2.2 a) 7) : T (d + 1) 171 20 ls [.int a0, .ref a] h Q ↔ T d 129 0 [.ref a, .int a0] [] h (fun x h2 => T (d + 1) 171 23 ls (rl x []) h2 Q) := T_virtualR (as := [.int a0]) (r := []) m171 m129 c171_20 k8_45  rfl (by decide) rfl (by simp [wrd, Value.category]) (by simp [stk, Value.category]) rfl (by decide +kernel) ho
theorem c171_23 : cod 171 23 = some (.ireturn, 1) := cod_of b171 dX8_about_23
theorem t171_23 {d : Nat} {h : Hp} {Q : Pst} {x : Int32} {ls : List Value} : T d 171 23 ls [.int x] h Q ↔ Q (some (.int x)) h := T_iretR m171 c171_23 rfl
theorem b172 : (mR 172).2.2.1 = cX8_great := by rw [m172]
theorem c172_0 : cod 172 0 = some (.aload_n 0, 1) := cod_of b172 dX8_great_0
theorem t172_0 {d : Nat} {h : Hp} {Q : Pst} {l1 l2 : Value} {x : Nat} {st : List Value} : T d 172 0 [.ref x, l1, l2] st h Q ↔ T d 172 1 [.ref x, l1, l2] (.ref x :: st) h Q := T_aload_n c172_0 rfl
theorem c172_1 : cod 172 1 = some (.iload_n 1, 1) := cod_of b172 dX8_great_1
theorem t172_1 {d : Nat} {h : Hp} {Q : Pst} {l0 l2 : Value} {x : Int32} {st : List Value} : T d 172 1 [l0, .int x, l2] st h Q ↔ T d 172 2 [l0, .int x, l2] (.int x :: st) h Q := T_iload_n c172_1 rfl
theorem c172_2 : cod 172 2 = some (.invokevirtual 157, 3) := cod_of b172 dX8_great_2
theorem t172_2 {d : Nat} {h : Hp} {Q : Pst} {a0 : Int32} {a : Nat} {ls : List Value} (ho : isO (h.2.2 a) 7) : T (d + 1) 172 2 ls [.int a0, .ref a] h Q ↔ T d 163 0 [.ref a, .int a0] [] h (fun x h2 => T (d + 1) 172 5 ls (rl x []) h2 Q) := T_virtualR (as := [.int a0]) (r := []) m172 m163 c172_2 k8_157  rfl (by decide) rfl (by simp [wrd, Value.category]) (by simp [stk, Value.category]) rfl (by decide +kernel) ho
theorem c172_5 : cod 172 5 = some (.ifCond .eq 37, 3) := cod_of b172 dX8_great_5
theorem t172_5 {d : Nat} {h : Hp} {Q : Pst} {x : Int32} {ls : List Value} {st : List Value} : T d 172 5 ls (.int x :: st) h Q ↔ (if x = 0 then T d 172 42 ls st h Q else T d 172 8 ls st h Q) := T_if_eq c172_5 (by decide)
theorem c172_8 : cod 172 8 = some (.iload_n 2, 1) := cod_of b172 dX8_great_8
theorem t172_8 {d : Nat} {h : Hp} {Q : Pst} {l0 l1 : Value} {x : Int32} {st : List Value} : T d 172 8 [l0, l1, .int x] st h Q ↔ T d 172 9 [l0, l1, .int x] (.int x :: st) h Q := T_iload_n c172_8 rfl
theorem c172_9 : cod 172 9 = some (.iconst 0, 1) := cod_of b172 dX8_great_9
theorem t172_9 {d : Nat} {h : Hp} {Q : Pst} {ls : List Value} {st : List Value} : T d 172 9 ls st h Q ↔ T d 172 10 ls (.int 0 :: st) h Q := T_iconstV c172_9 (by decide)
theorem c172_10 : cod 172 10 = some (.iconst 4, 1) := cod_of b172 dX8_great_10
theorem t172_10 {d : Nat} {h : Hp} {Q : Pst} {ls : List Value} {st : List Value} : T d 172 10 ls st h Q ↔ T d 172 11 ls (.int 4 :: st) h Q := T_iconstV c172_10 (by decide)
theorem c172_11 : cod 172 11 = some (.invokestatic 49, 3) := cod_of b172 dX8_great_11
theorem t172_11 {d : Nat} {h : Hp} {Q : Pst} {a0 a1 a2 : Int32} {ls : List Value} : T (d + 1) 172 11 ls [.int a2, .int a1, .int a0] h Q ↔ T d 126 0 [.int a0, .int a1, .int a2] [] h (fun x h2 => T (d + 1) 172 14 ls (rl x []) h2 Q) := T_staticR (as := [.int a0, .int a1, .int a2]) (r := []) m172 m126 c172_11 k8_49 (Or.inl rfl) rfl (by decide) rfl (by simp [wrd, Value.category]) (by simp [stk, Value.category]) rfl
theorem c172_14 : cod 172 14 = some (.ifCond .eq 28, 3) := cod_of b172 dX8_great_14
theorem t172_14 {d : Nat} {h : Hp} {Q : Pst} {x : Int32} {ls : List Value} {st : List Value} : T d 172 14 ls (.int x :: st) h Q ↔ (if x = 0 then T d 172 42 ls st h Q else T d 172 17 ls st h Q) := T_if_eq c172_14 (by decide)
theorem c172_17 : cod 172 17 = some (.aload_n 0, 1) := cod_of b172 dX8_great_17
theorem t172_17 {d : Nat} {h : Hp} {Q : Pst} {l1 l2 : Value} {x : Nat} {st : List Value} : T d 172 17 [.ref x, l1, l2] st h Q ↔ T d 172 18 [.ref x, l1, l2] (.ref x :: st) h Q := T_aload_n c172_17 rfl
theorem c172_18 : cod 172 18 = some (.getfield 7, 3) := cod_of b172 dX8_great_18
theorem t172_18 {d : Nat} {h : Hp} {Q : Pst} {a : Nat} {ls : List Value} {st : List Value} : T d 172 18 ls (.ref a :: st) h Q ↔ gF (h.2.2 a) 7 0 (fun v => T d 172 21 ls (v :: st) h Q) := T_getfieldR m172 c172_18 f8_7
theorem c172_21 : cod 172 21 = some (.bipush 13, 2) := cod_of b172 dX8_great_21
theorem t172_21 {d : Nat} {h : Hp} {Q : Pst} {ls : List Value} {st : List Value} : T d 172 21 ls st h Q ↔ T d 172 23 ls (.int 13 :: st) h Q := T_bipushV c172_21 (by decide)
theorem c172_23 : cod 172 23 = some (.iload_n 1, 1) := cod_of b172 dX8_great_23
theorem t172_23 {d : Nat} {h : Hp} {Q : Pst} {l0 l2 : Value} {x : Int32} {st : List Value} : T d 172 23 [l0, .int x, l2] st h Q ↔ T d 172 24 [l0, .int x, l2] (.int x :: st) h Q := T_iload_n c172_23 rfl
theorem c172_24 : cod 172 24 = some (.iadd, 1) := cod_of b172 dX8_great_24
theorem t172_24 {d : Nat} {h : Hp} {Q : Pst} {x y : Int32} {ls : List Value} {st : List Value} : T d 172 24 ls (.int y :: .int x :: st) h Q ↔ T d 172 25 ls (.int (x + y) :: st) h Q := T_iadd c172_24
theorem c172_25 : cod 172 25 = some (.iaload, 1) := cod_of b172 dX8_great_25
theorem t172_25 {d : Nat} {h : Hp} {Q : Pst} {a : Nat} {i : Int32} {ls : List Value} {st : List Value} : T d 172 25 ls (.int i :: .ref a :: st) h Q ↔ aL (h.2.2 a) i (fun x => T d 172 26 ls (.int x :: st) h Q) := T_iaload c172_25
theorem c172_26 : cod 172 26 = some (.aload_n 0, 1) := cod_of b172 dX8_great_26
theorem t172_26 {d : Nat} {h : Hp} {Q : Pst} {l1 l2 : Value} {x : Nat} {st : List Value} : T d 172 26 [.ref x, l1, l2] st h Q ↔ T d 172 27 [.ref x, l1, l2] (.ref x :: st) h Q := T_aload_n c172_26 rfl
theorem c172_27 : cod 172 27 = some (.getfield 7, 3) := cod_of b172 dX8_great_27
theorem t172_27 {d : Nat} {h : Hp} {Q : Pst} {a : Nat} {ls : List Value} {st : List Value} : T d 172 27 ls (.ref a :: st) h Q ↔ gF (h.2.2 a) 7 0 (fun v => T d 172 30 ls (v :: st) h Q) := T_getfieldR m172 c172_27 f8_7
theorem c172_30 : cod 172 30 = some (.bipush 19, 2) := cod_of b172 dX8_great_30
theorem t172_30 {d : Nat} {h : Hp} {Q : Pst} {ls : List Value} {st : List Value} : T d 172 30 ls st h Q ↔ T d 172 32 ls (.int 19 :: st) h Q := T_bipushV c172_30 (by decide)
theorem c172_32 : cod 172 32 = some (.iload_n 1, 1) := cod_of b172 dX8_great_32
theorem t172_32 {d : Nat} {h : Hp} {Q : Pst} {l0 l2 : Value} {x : Int32} {st : List Value} : T d 172 32 [l0, .int x, l2] st h Q ↔ T d 172 33 [l0, .int x, l2] (.int x :: st) h Q := T_iload_n c172_32 rfl
theorem c172_33 : cod 172 33 = some (.iadd, 1) := cod_of b172 dX8_great_33
theorem t172_33 {d : Nat} {h : Hp} {Q : Pst} {x y : Int32} {ls : List Value} {st : List Value} : T d 172 33 ls (.int y :: .int x :: st) h Q ↔ T d 172 34 ls (.int (x + y) :: st) h Q := T_iadd c172_33
theorem c172_34 : cod 172 34 = some (.iaload, 1) := cod_of b172 dX8_great_34
theorem t172_34 {d : Nat} {h : Hp} {Q : Pst} {a : Nat} {i : Int32} {ls : List Value} {st : List Value} : T d 172 34 ls (.int i :: .ref a :: st) h Q ↔ aL (h.2.2 a) i (fun x => T d 172 35 ls (.int x :: st) h Q) := T_iaload c172_34
theorem c172_35 : cod 172 35 = some (.iload_n 2, 1) := cod_of b172 dX8_great_35
theorem t172_35 {d : Nat} {h : Hp} {Q : Pst} {l0 l1 : Value} {x : Int32} {st : List Value} : T d 172 35 [l0, l1, .int x] st h Q ↔ T d 172 36 [l0, l1, .int x] (.int x :: st) h Q := T_iload_n c172_35 rfl
theorem c172_36 : cod 172 36 = some (.invokestatic 132, 3) := cod_of b172 dX8_great_36
theorem t172_36 {d : Nat} {h : Hp} {Q : Pst} {a0 a1 a2 : Int32} {ls : List Value} : T (d + 1) 172 36 ls [.int a2, .int a1, .int a0] h Q ↔ T d 152 0 [.int a0, .int a1, .int a2, un] [] h (fun x h2 => T (d + 1) 172 39 ls (rl x []) h2 Q) := T_staticR (as := [.int a0, .int a1, .int a2]) (r := []) m172 m152 c172_36 k8_132 (Or.inl rfl) rfl (by decide) rfl (by simp [wrd, Value.category]) (by simp [stk, Value.category]) rfl
theorem c172_39 : cod 172 39 = some (.goto 9, 3) := cod_of b172 dX8_great_39
theorem t172_39 {d : Nat} {h : Hp} {Q : Pst} {ls : List Value} {st : List Value} : T d 172 39 ls st h Q ↔ T d 172 48 ls st h Q := T_goto c172_39 (by decide)
theorem c172_48 : cod 172 48 = some (.ireturn, 1) := cod_of b172 dX8_great_48
theorem t172_48 {d : Nat} {h : Hp} {Q : Pst} {x : Int32} {ls : List Value} : T d 172 48 ls [.int x] h Q ↔ Q (some (.int x)) h := T_iretR m172 c172_48 rfl
theorem c172_42 : cod 172 42 = some (.aload_n 0, 1) := cod_of b172 dX8_great_42
theorem t172_42 {d : Nat} {h : Hp} {Q : Pst} {l1 l2 : Value} {x : Nat} {st : List Value} : T d 172 42 [.ref x, l1, l2] st h Q ↔ T d 172 43 [.ref x, l1, l2] (.ref x :: st) h Q := T_aload_n c172_42 rfl
theorem c172_43 : cod 172 43 = some (.bipush (-2), 2) := cod_of b172 dX8_great_43
theorem t172_43 {d : Nat} {h : Hp} {Q : Pst} {ls : List Value} {st : List Value} : T d 172 43 ls st h Q ↔ T d 172 45 ls (.int (-2) :: st) h Q := T_bipushV c172_43 (by decide)
theorem c172_45 : cod 172 45 = some (.invokevirtual 45, 3) := cod_of b172 dX8_great_45
theorem t172_45 {d : Nat} {h : Hp} {Q : Pst} {a0 : Int32} {a : Nat} {ls : List Value} (ho : isO (h.2.2 a) 7) : T (d + 1) 172 45 ls [.int a0, .ref a] h Q ↔ T d 129 0 [.ref a, .int a0] [] h (fun x h2 => T (d + 1) 172 48 ls (rl x []) h2 Q) := T_virtualR (as := [.int a0]) (r := []) m172 m129 c172_45 k8_45  rfl (by decide) rfl (by simp [wrd, Value.category]) (by simp [stk, Value.category]) rfl (by decide +kernel) ho
theorem b173 : (mR 173).2.2.1 = cX8_stays := by rw [m173]
theorem c173_0 : cod 173 0 = some (.aload_n 0, 1) := cod_of b173 dX8_stays_0
theorem t173_0 {d : Nat} {h : Hp} {Q : Pst} {l1 l2 : Value} {x : Nat} {st : List Value} : T d 173 0 [.ref x, l1, l2] st h Q ↔ T d 173 1 [.ref x, l1, l2] (.ref x :: st) h Q := T_aload_n c173_0 rfl
theorem c173_1 : cod 173 1 = some (.iload_n 1, 1) := cod_of b173 dX8_stays_1
theorem t173_1 {d : Nat} {h : Hp} {Q : Pst} {l0 l2 : Value} {x : Int32} {st : List Value} : T d 173 1 [l0, .int x, l2] st h Q ↔ T d 173 2 [l0, .int x, l2] (.int x :: st) h Q := T_iload_n c173_1 rfl
theorem c173_2 : cod 173 2 = some (.invokevirtual 157, 3) := cod_of b173 dX8_stays_2
theorem t173_2 {d : Nat} {h : Hp} {Q : Pst} {a0 : Int32} {a : Nat} {ls : List Value} (ho : isO (h.2.2 a) 7) : T (d + 1) 173 2 ls [.int a0, .ref a] h Q ↔ T d 163 0 [.ref a, .int a0] [] h (fun x h2 => T (d + 1) 173 5 ls (rl x []) h2 Q) := T_virtualR (as := [.int a0]) (r := []) m173 m163 c173_2 k8_157  rfl (by decide) rfl (by simp [wrd, Value.category]) (by simp [stk, Value.category]) rfl (by decide +kernel) ho
theorem c173_5 : cod 173 5 = some (.ifCond .eq 27, 3) := cod_of b173 dX8_stays_5
theorem t173_5 {d : Nat} {h : Hp} {Q : Pst} {x : Int32} {ls : List Value} {st : List Value} : T d 173 5 ls (.int x :: st) h Q ↔ (if x = 0 then T d 173 32 ls st h Q else T d 173 8 ls st h Q) := T_if_eq c173_5 (by decide)
theorem c173_8 : cod 173 8 = some (.aload_n 0, 1) := cod_of b173 dX8_stays_8
theorem t173_8 {d : Nat} {h : Hp} {Q : Pst} {l1 l2 : Value} {x : Nat} {st : List Value} : T d 173 8 [.ref x, l1, l2] st h Q ↔ T d 173 9 [.ref x, l1, l2] (.ref x :: st) h Q := T_aload_n c173_8 rfl
theorem c173_9 : cod 173 9 = some (.iload_n 2, 1) := cod_of b173 dX8_stays_9
theorem t173_9 {d : Nat} {h : Hp} {Q : Pst} {l0 l1 : Value} {x : Int32} {st : List Value} : T d 173 9 [l0, l1, .int x] st h Q ↔ T d 173 10 [l0, l1, .int x] (.int x :: st) h Q := T_iload_n c173_9 rfl
theorem c173_10 : cod 173 10 = some (.invokevirtual 160, 3) := cod_of b173 dX8_stays_10
theorem t173_10 {d : Nat} {h : Hp} {Q : Pst} {a0 : Int32} {a : Nat} {ls : List Value} (ho : isO (h.2.2 a) 7) : T (d + 1) 173 10 ls [.int a0, .ref a] h Q ↔ T d 164 0 [.ref a, .int a0] [] h (fun x h2 => T (d + 1) 173 13 ls (rl x []) h2 Q) := T_virtualR (as := [.int a0]) (r := []) m173 m164 c173_10 k8_160  rfl (by decide) rfl (by simp [wrd, Value.category]) (by simp [stk, Value.category]) rfl (by decide +kernel) ho
theorem c173_13 : cod 173 13 = some (.ifCond .eq 19, 3) := cod_of b173 dX8_stays_13
theorem t173_13 {d : Nat} {h : Hp} {Q : Pst} {x : Int32} {ls : List Value} {st : List Value} : T d 173 13 ls (.int x :: st) h Q ↔ (if x = 0 then T d 173 32 ls st h Q else T d 173 16 ls st h Q) := T_if_eq c173_13 (by decide)
theorem c173_16 : cod 173 16 = some (.aload_n 0, 1) := cod_of b173 dX8_stays_16
theorem t173_16 {d : Nat} {h : Hp} {Q : Pst} {l1 l2 : Value} {x : Nat} {st : List Value} : T d 173 16 [.ref x, l1, l2] st h Q ↔ T d 173 17 [.ref x, l1, l2] (.ref x :: st) h Q := T_aload_n c173_16 rfl
theorem c173_17 : cod 173 17 = some (.iload_n 1, 1) := cod_of b173 dX8_stays_17
theorem t173_17 {d : Nat} {h : Hp} {Q : Pst} {l0 l2 : Value} {x : Int32} {st : List Value} : T d 173 17 [l0, .int x, l2] st h Q ↔ T d 173 18 [l0, .int x, l2] (.int x :: st) h Q := T_iload_n c173_17 rfl
theorem c173_18 : cod 173 18 = some (.iload_n 2, 1) := cod_of b173 dX8_stays_18
theorem t173_18 {d : Nat} {h : Hp} {Q : Pst} {l0 l1 : Value} {x : Int32} {st : List Value} : T d 173 18 [l0, l1, .int x] st h Q ↔ T d 173 19 [l0, l1, .int x] (.int x :: st) h Q := T_iload_n c173_18 rfl
theorem c173_19 : cod 173 19 = some (.aload_n 0, 1) := cod_of b173 dX8_stays_19
theorem t173_19 {d : Nat} {h : Hp} {Q : Pst} {l1 l2 : Value} {x : Nat} {st : List Value} : T d 173 19 [.ref x, l1, l2] st h Q ↔ T d 173 20 [.ref x, l1, l2] (.ref x :: st) h Q := T_aload_n c173_19 rfl
theorem c173_20 : cod 173 20 = some (.getfield 7, 3) := cod_of b173 dX8_stays_20
theorem t173_20 {d : Nat} {h : Hp} {Q : Pst} {a : Nat} {ls : List Value} {st : List Value} : T d 173 20 ls (.ref a :: st) h Q ↔ gF (h.2.2 a) 7 0 (fun v => T d 173 23 ls (v :: st) h Q) := T_getfieldR m173 c173_20 f8_7
theorem c173_23 : cod 173 23 = some (.bipush 10, 2) := cod_of b173 dX8_stays_23
theorem t173_23 {d : Nat} {h : Hp} {Q : Pst} {ls : List Value} {st : List Value} : T d 173 23 ls st h Q ↔ T d 173 25 ls (.int 10 :: st) h Q := T_bipushV c173_23 (by decide)
theorem c173_25 : cod 173 25 = some (.iaload, 1) := cod_of b173 dX8_stays_25
theorem t173_25 {d : Nat} {h : Hp} {Q : Pst} {a : Nat} {i : Int32} {ls : List Value} {st : List Value} : T d 173 25 ls (.int i :: .ref a :: st) h Q ↔ aL (h.2.2 a) i (fun x => T d 173 26 ls (.int x :: st) h Q) := T_iaload c173_25
theorem c173_26 : cod 173 26 = some (.invokevirtual 145, 3) := cod_of b173 dX8_stays_26
theorem t173_26 {d : Nat} {h : Hp} {Q : Pst} {a0 a1 a2 : Int32} {a : Nat} {ls : List Value} (ho : isO (h.2.2 a) 7) : T (d + 1) 173 26 ls [.int a2, .int a1, .int a0, .ref a] h Q ↔ T d 157 0 [.ref a, .int a0, .int a1, .int a2] [] h (fun x h2 => T (d + 1) 173 29 ls (rl x []) h2 Q) := T_virtualR (as := [.int a0, .int a1, .int a2]) (r := []) m173 m157 c173_26 k8_145  rfl (by decide) rfl (by simp [wrd, Value.category]) (by simp [stk, Value.category]) rfl (by decide +kernel) ho
theorem c173_29 : cod 173 29 = some (.goto 9, 3) := cod_of b173 dX8_stays_29
theorem t173_29 {d : Nat} {h : Hp} {Q : Pst} {ls : List Value} {st : List Value} : T d 173 29 ls st h Q ↔ T d 173 38 ls st h Q := T_goto c173_29 (by decide)
theorem c173_38 : cod 173 38 = some (.ireturn, 1) := cod_of b173 dX8_stays_38
theorem t173_38 {d : Nat} {h : Hp} {Q : Pst} {x : Int32} {ls : List Value} : T d 173 38 ls [.int x] h Q ↔ Q (some (.int x)) h := T_iretR m173 c173_38 rfl
theorem c173_32 : cod 173 32 = some (.aload_n 0, 1) := cod_of b173 dX8_stays_32
theorem t173_32 {d : Nat} {h : Hp} {Q : Pst} {l1 l2 : Value} {x : Nat} {st : List Value} : T d 173 32 [.ref x, l1, l2] st h Q ↔ T d 173 33 [.ref x, l1, l2] (.ref x :: st) h Q := T_aload_n c173_32 rfl
theorem c173_33 : cod 173 33 = some (.bipush (-2), 2) := cod_of b173 dX8_stays_33
theorem t173_33 {d : Nat} {h : Hp} {Q : Pst} {ls : List Value} {st : List Value} : T d 173 33 ls st h Q ↔ T d 173 35 ls (.int (-2) :: st) h Q := T_bipushV c173_33 (by decide)
theorem c173_35 : cod 173 35 = some (.invokevirtual 45, 3) := cod_of b173 dX8_stays_35
theorem t173_35 {d : Nat} {h : Hp} {Q : Pst} {a0 : Int32} {a : Nat} {ls : List Value} (ho : isO (h.2.2 a) 7) : T (d + 1) 173 35 ls [.int a0, .ref a] h Q ↔ T d 129 0 [.ref a, .int a0] [] h (fun x h2 => T (d + 1) 173 38 ls (rl x []) h2 Q) := T_virtualR (as := [.int a0]) (r := []) m173 m129 c173_35 k8_45  rfl (by decide) rfl (by simp [wrd, Value.category]) (by simp [stk, Value.category]) rfl (by decide +kernel) ho
theorem b174 : (mR 174).2.2.1 = cX8_layTried := by rw [m174]
theorem c174_0 : cod 174 0 = some (.iconst 0, 1) := cod_of b174 dX8_layTried_0
theorem t174_0 {d : Nat} {h : Hp} {Q : Pst} {ls : List Value} {st : List Value} : T d 174 0 ls st h Q ↔ T d 174 1 ls (.int 0 :: st) h Q := T_iconstV c174_0 (by decide)
theorem c174_1 : cod 174 1 = some (.istore_n 1, 1) := cod_of b174 dX8_layTried_1
theorem t174_1 {d : Nat} {h : Hp} {Q : Pst} {l0 l1 : Value} {x : Int32} {st : List Value} : T d 174 1 [l0, l1] (.int x :: st) h Q ↔ T d 174 2 [kil l0, .int x] st h Q := T_istore_n c174_1 (Nat.le_of_ble_eq_true rfl)
theorem c174_2 : cod 174 2 = some (.iload_n 1, 1) := cod_of b174 dX8_layTried_2
theorem t174_2 {d : Nat} {h : Hp} {Q : Pst} {l0 : Value} {x : Int32} {st : List Value} : T d 174 2 [l0, .int x] st h Q ↔ T d 174 3 [l0, .int x] (.int x :: st) h Q := T_iload_n c174_2 rfl
theorem c174_3 : cod 174 3 = some (.bipush 12, 2) := cod_of b174 dX8_layTried_3
theorem t174_3 {d : Nat} {h : Hp} {Q : Pst} {ls : List Value} {st : List Value} : T d 174 3 ls st h Q ↔ T d 174 5 ls (.int 12 :: st) h Q := T_bipushV c174_3 (by decide)
theorem c174_5 : cod 174 5 = some (.if_icmp .ge 25, 3) := cod_of b174 dX8_layTried_5
theorem t174_5 {d : Nat} {h : Hp} {Q : Pst} {x y : Int32} {ls : List Value} {st : List Value} : T d 174 5 ls (.int y :: .int x :: st) h Q ↔ (if y ≤ x then T d 174 30 ls st h Q else T d 174 8 ls st h Q) := T_icmp_ge c174_5 (by decide)
theorem c174_8 : cod 174 8 = some (.aload_n 0, 1) := cod_of b174 dX8_layTried_8
theorem t174_8 {d : Nat} {h : Hp} {Q : Pst} {l1 : Value} {x : Nat} {st : List Value} : T d 174 8 [.ref x, l1] st h Q ↔ T d 174 9 [.ref x, l1] (.ref x :: st) h Q := T_aload_n c174_8 rfl
theorem c174_9 : cod 174 9 = some (.getfield 7, 3) := cod_of b174 dX8_layTried_9
theorem t174_9 {d : Nat} {h : Hp} {Q : Pst} {a : Nat} {ls : List Value} {st : List Value} : T d 174 9 ls (.ref a :: st) h Q ↔ gF (h.2.2 a) 7 0 (fun v => T d 174 12 ls (v :: st) h Q) := T_getfieldR m174 c174_9 f8_7
theorem c174_12 : cod 174 12 = some (.sipush 624, 3) := cod_of b174 dX8_layTried_12
theorem t174_12 {d : Nat} {h : Hp} {Q : Pst} {ls : List Value} {st : List Value} : T d 174 12 ls st h Q ↔ T d 174 15 ls (.int 624 :: st) h Q := T_sipushV c174_12 (by decide)
theorem c174_15 : cod 174 15 = some (.iload_n 1, 1) := cod_of b174 dX8_layTried_15
theorem t174_15 {d : Nat} {h : Hp} {Q : Pst} {l0 : Value} {x : Int32} {st : List Value} : T d 174 15 [l0, .int x] st h Q ↔ T d 174 16 [l0, .int x] (.int x :: st) h Q := T_iload_n c174_15 rfl
theorem c174_16 : cod 174 16 = some (.iadd, 1) := cod_of b174 dX8_layTried_16
theorem t174_16 {d : Nat} {h : Hp} {Q : Pst} {x y : Int32} {ls : List Value} {st : List Value} : T d 174 16 ls (.int y :: .int x :: st) h Q ↔ T d 174 17 ls (.int (x + y) :: st) h Q := T_iadd c174_16
theorem c174_17 : cod 174 17 = some (.aload_n 0, 1) := cod_of b174 dX8_layTried_17
theorem t174_17 {d : Nat} {h : Hp} {Q : Pst} {l1 : Value} {x : Nat} {st : List Value} : T d 174 17 [.ref x, l1] st h Q ↔ T d 174 18 [.ref x, l1] (.ref x :: st) h Q := T_aload_n c174_17 rfl
theorem c174_18 : cod 174 18 = some (.getfield 7, 3) := cod_of b174 dX8_layTried_18
theorem t174_18 {d : Nat} {h : Hp} {Q : Pst} {a : Nat} {ls : List Value} {st : List Value} : T d 174 18 ls (.ref a :: st) h Q ↔ gF (h.2.2 a) 7 0 (fun v => T d 174 21 ls (v :: st) h Q) := T_getfieldR m174 c174_18 f8_7
theorem c174_21 : cod 174 21 = some (.iload_n 1, 1) := cod_of b174 dX8_layTried_21
theorem t174_21 {d : Nat} {h : Hp} {Q : Pst} {l0 : Value} {x : Int32} {st : List Value} : T d 174 21 [l0, .int x] st h Q ↔ T d 174 22 [l0, .int x] (.int x :: st) h Q := T_iload_n c174_21 rfl
theorem c174_22 : cod 174 22 = some (.iaload, 1) := cod_of b174 dX8_layTried_22
theorem t174_22 {d : Nat} {h : Hp} {Q : Pst} {a : Nat} {i : Int32} {ls : List Value} {st : List Value} : T d 174 22 ls (.int i :: .ref a :: st) h Q ↔ aL (h.2.2 a) i (fun x => T d 174 23 ls (.int x :: st) h Q) := T_iaload c174_22
theorem c174_23 : cod 174 23 = some (.iastore, 1) := cod_of b174 dX8_layTried_23
theorem t174_23 {d : Nat} {h : Hp} {Q : Pst} {a : Nat} {i x : Int32} {ls : List Value} {st : List Value} : T d 174 23 ls (.int x :: .int i :: .ref a :: st) h Q ↔ aS (h.2.2 a) i x (fun cell => T d 174 24 ls st (hup h a cell) Q) := T_iastore c174_23
theorem c174_24 : cod 174 24 = some (.iinc 1 1, 3) := cod_of b174 dX8_layTried_24
theorem t174_24 {d : Nat} {h : Hp} {Q : Pst} {l0 : Value} {x : Int32} {st : List Value} : T d 174 24 [l0, .int x] st h Q ↔ T d 174 27 [kil l0, .int (x + 1)] st h Q := T_iincV c174_24 rfl (Nat.le_of_ble_eq_true rfl) (by decide) rfl
theorem c174_27 : cod 174 27 = some (.goto (-25), 3) := cod_of b174 dX8_layTried_27
theorem t174_27 {d : Nat} {h : Hp} {Q : Pst} {ls : List Value} {st : List Value} : T d 174 27 ls st h Q ↔ T d 174 2 ls st h Q := T_goto c174_27 (by decide)
theorem c174_30 : cod 174 30 = some (.return_, 1) := cod_of b174 dX8_layTried_30
theorem t174_30 {d : Nat} {h : Hp} {Q : Pst} {ls : List Value} : T d 174 30 ls [] h Q ↔ Q none h := T_retR m174 c174_30 rfl
theorem b175 : (mR 175).2.2.1 = cX8_then := by rw [m175]
theorem c175_0 : cod 175 0 = some (.aload_n 0, 1) := cod_of b175 dX8_then_0
theorem t175_0 {d : Nat} {h : Hp} {Q : Pst} {l1 l2 l3 : Value} {x : Nat} {st : List Value} : T d 175 0 [.ref x, l1, l2, l3] st h Q ↔ T d 175 1 [.ref x, l1, l2, l3] (.ref x :: st) h Q := T_aload_n c175_0 rfl
theorem c175_1 : cod 175 1 = some (.iload_n 1, 1) := cod_of b175 dX8_then_1
theorem t175_1 {d : Nat} {h : Hp} {Q : Pst} {l0 l2 l3 : Value} {x : Int32} {st : List Value} : T d 175 1 [l0, .int x, l2, l3] st h Q ↔ T d 175 2 [l0, .int x, l2, l3] (.int x :: st) h Q := T_iload_n c175_1 rfl
theorem c175_2 : cod 175 2 = some (.invokevirtual 160, 3) := cod_of b175 dX8_then_2
theorem t175_2 {d : Nat} {h : Hp} {Q : Pst} {a0 : Int32} {a : Nat} {ls : List Value} (ho : isO (h.2.2 a) 7) : T (d + 1) 175 2 ls [.int a0, .ref a] h Q ↔ T d 164 0 [.ref a, .int a0] [] h (fun x h2 => T (d + 1) 175 5 ls (rl x []) h2 Q) := T_virtualR (as := [.int a0]) (r := []) m175 m164 c175_2 k8_160  rfl (by decide) rfl (by simp [wrd, Value.category]) (by simp [stk, Value.category]) rfl (by decide +kernel) ho
theorem c175_5 : cod 175 5 = some (.ifCond .eq 13, 3) := cod_of b175 dX8_then_5
theorem t175_5 {d : Nat} {h : Hp} {Q : Pst} {x : Int32} {ls : List Value} {st : List Value} : T d 175 5 ls (.int x :: st) h Q ↔ (if x = 0 then T d 175 18 ls st h Q else T d 175 8 ls st h Q) := T_if_eq c175_5 (by decide)
theorem c175_8 : cod 175 8 = some (.iload_n 2, 1) := cod_of b175 dX8_then_8
theorem t175_8 {d : Nat} {h : Hp} {Q : Pst} {l0 l1 l3 : Value} {x : Int32} {st : List Value} : T d 175 8 [l0, l1, .int x, l3] st h Q ↔ T d 175 9 [l0, l1, .int x, l3] (.int x :: st) h Q := T_iload_n c175_8 rfl
theorem c175_9 : cod 175 9 = some (.iconst 0, 1) := cod_of b175 dX8_then_9
theorem t175_9 {d : Nat} {h : Hp} {Q : Pst} {ls : List Value} {st : List Value} : T d 175 9 ls st h Q ↔ T d 175 10 ls (.int 0 :: st) h Q := T_iconstV c175_9 (by decide)
theorem c175_10 : cod 175 10 = some (.bipush 60, 2) := cod_of b175 dX8_then_10
theorem t175_10 {d : Nat} {h : Hp} {Q : Pst} {ls : List Value} {st : List Value} : T d 175 10 ls st h Q ↔ T d 175 12 ls (.int 60 :: st) h Q := T_bipushV c175_10 (by decide)
theorem c175_12 : cod 175 12 = some (.invokestatic 49, 3) := cod_of b175 dX8_then_12
theorem t175_12 {d : Nat} {h : Hp} {Q : Pst} {a0 a1 a2 : Int32} {ls : List Value} : T (d + 1) 175 12 ls [.int a2, .int a1, .int a0] h Q ↔ T d 126 0 [.int a0, .int a1, .int a2] [] h (fun x h2 => T (d + 1) 175 15 ls (rl x []) h2 Q) := T_staticR (as := [.int a0, .int a1, .int a2]) (r := []) m175 m126 c175_12 k8_49 (Or.inl rfl) rfl (by decide) rfl (by simp [wrd, Value.category]) (by simp [stk, Value.category]) rfl
theorem c175_15 : cod 175 15 = some (.ifCond .ne 10, 3) := cod_of b175 dX8_then_15
theorem t175_15 {d : Nat} {h : Hp} {Q : Pst} {x : Int32} {ls : List Value} {st : List Value} : T d 175 15 ls (.int x :: st) h Q ↔ (if ¬ x = 0 then T d 175 25 ls st h Q else T d 175 18 ls st h Q) := T_if_ne c175_15 (by decide)
theorem c175_25 : cod 175 25 = some (.aload_n 0, 1) := cod_of b175 dX8_then_25
theorem t175_25 {d : Nat} {h : Hp} {Q : Pst} {l1 l2 l3 : Value} {x : Nat} {st : List Value} : T d 175 25 [.ref x, l1, l2, l3] st h Q ↔ T d 175 26 [.ref x, l1, l2, l3] (.ref x :: st) h Q := T_aload_n c175_25 rfl
theorem c175_26 : cod 175 26 = some (.invokevirtual 169, 3) := cod_of b175 dX8_then_26
theorem t175_26 {d : Nat} {h : Hp} {Q : Pst} {a : Nat} {ls : List Value} (ho : isO (h.2.2 a) 7) : T (d + 1) 175 26 ls [.ref a] h Q ↔ T d 174 0 [.ref a, un] [] h (fun x h2 => T (d + 1) 175 29 ls (rl x []) h2 Q) := T_virtualR (as := []) (r := []) m175 m174 c175_26 k8_169  rfl (by decide) rfl (by simp [wrd, Value.category]) (by simp [stk, Value.category]) rfl (by decide +kernel) ho
theorem c175_29 : cod 175 29 = some (.iconst 0, 1) := cod_of b175 dX8_then_29
theorem t175_29 {d : Nat} {h : Hp} {Q : Pst} {ls : List Value} {st : List Value} : T d 175 29 ls st h Q ↔ T d 175 30 ls (.int 0 :: st) h Q := T_iconstV c175_29 (by decide)
theorem c175_30 : cod 175 30 = some (.istore_n 3, 1) := cod_of b175 dX8_then_30
theorem t175_30 {d : Nat} {h : Hp} {Q : Pst} {l0 l1 l2 l3 : Value} {x : Int32} {st : List Value} : T d 175 30 [l0, l1, l2, l3] (.int x :: st) h Q ↔ T d 175 31 [l0, l1, kil l2, .int x] st h Q := T_istore_n c175_30 (Nat.le_of_ble_eq_true rfl)
theorem c175_31 : cod 175 31 = some (.iload_n 3, 1) := cod_of b175 dX8_then_31
theorem t175_31 {d : Nat} {h : Hp} {Q : Pst} {l0 l1 l2 : Value} {x : Int32} {st : List Value} : T d 175 31 [l0, l1, l2, .int x] st h Q ↔ T d 175 32 [l0, l1, l2, .int x] (.int x :: st) h Q := T_iload_n c175_31 rfl
theorem c175_32 : cod 175 32 = some (.iload_n 2, 1) := cod_of b175 dX8_then_32
theorem t175_32 {d : Nat} {h : Hp} {Q : Pst} {l0 l1 l3 : Value} {x : Int32} {st : List Value} : T d 175 32 [l0, l1, .int x, l3] st h Q ↔ T d 175 33 [l0, l1, .int x, l3] (.int x :: st) h Q := T_iload_n c175_32 rfl
theorem c175_33 : cod 175 33 = some (.if_icmp .ge 16, 3) := cod_of b175 dX8_then_33
theorem t175_33 {d : Nat} {h : Hp} {Q : Pst} {x y : Int32} {ls : List Value} {st : List Value} : T d 175 33 ls (.int y :: .int x :: st) h Q ↔ (if y ≤ x then T d 175 49 ls st h Q else T d 175 36 ls st h Q) := T_icmp_ge c175_33 (by decide)
theorem c175_36 : cod 175 36 = some (.aload_n 0, 1) := cod_of b175 dX8_then_36
theorem t175_36 {d : Nat} {h : Hp} {Q : Pst} {l1 l2 l3 : Value} {x : Nat} {st : List Value} : T d 175 36 [.ref x, l1, l2, l3] st h Q ↔ T d 175 37 [.ref x, l1, l2, l3] (.ref x :: st) h Q := T_aload_n c175_36 rfl
theorem c175_37 : cod 175 37 = some (.sipush 624, 3) := cod_of b175 dX8_then_37
theorem t175_37 {d : Nat} {h : Hp} {Q : Pst} {ls : List Value} {st : List Value} : T d 175 37 ls st h Q ↔ T d 175 40 ls (.int 624 :: st) h Q := T_sipushV c175_37 (by decide)
theorem c175_40 : cod 175 40 = some (.invokevirtual 154, 3) := cod_of b175 dX8_then_40
theorem t175_40 {d : Nat} {h : Hp} {Q : Pst} {a0 : Int32} {a : Nat} {ls : List Value} (ho : isO (h.2.2 a) 7) : T (d + 1) 175 40 ls [.int a0, .ref a] h Q ↔ T d 159 0 [.ref a, .int a0, un, un] [] h (fun x h2 => T (d + 1) 175 43 ls (rl x []) h2 Q) := T_virtualR (as := [.int a0]) (r := []) m175 m159 c175_40 k8_154  rfl (by decide) rfl (by simp [wrd, Value.category]) (by simp [stk, Value.category]) rfl (by decide +kernel) ho
theorem c175_43 : cod 175 43 = some (.iinc 3 1, 3) := cod_of b175 dX8_then_43
theorem t175_43 {d : Nat} {h : Hp} {Q : Pst} {l0 l1 l2 : Value} {x : Int32} {st : List Value} : T d 175 43 [l0, l1, l2, .int x] st h Q ↔ T d 175 46 [l0, l1, kil l2, .int (x + 1)] st h Q := T_iincV c175_43 rfl (Nat.le_of_ble_eq_true rfl) (by decide) rfl
theorem c175_46 : cod 175 46 = some (.goto (-15), 3) := cod_of b175 dX8_then_46
theorem t175_46 {d : Nat} {h : Hp} {Q : Pst} {ls : List Value} {st : List Value} : T d 175 46 ls st h Q ↔ T d 175 31 ls st h Q := T_goto c175_46 (by decide)
theorem c175_49 : cod 175 49 = some (.aload_n 0, 1) := cod_of b175 dX8_then_49
theorem t175_49 {d : Nat} {h : Hp} {Q : Pst} {l1 l2 l3 : Value} {x : Nat} {st : List Value} : T d 175 49 [.ref x, l1, l2, l3] st h Q ↔ T d 175 50 [.ref x, l1, l2, l3] (.ref x :: st) h Q := T_aload_n c175_49 rfl
theorem c175_50 : cod 175 50 = some (.getfield 7, 3) := cod_of b175 dX8_then_50
theorem t175_50 {d : Nat} {h : Hp} {Q : Pst} {a : Nat} {ls : List Value} {st : List Value} : T d 175 50 ls (.ref a :: st) h Q ↔ gF (h.2.2 a) 7 0 (fun v => T d 175 53 ls (v :: st) h Q) := T_getfieldR m175 c175_50 f8_7
theorem c175_53 : cod 175 53 = some (.sipush 630, 3) := cod_of b175 dX8_then_53
theorem t175_53 {d : Nat} {h : Hp} {Q : Pst} {ls : List Value} {st : List Value} : T d 175 53 ls st h Q ↔ T d 175 56 ls (.int 630 :: st) h Q := T_sipushV c175_53 (by decide)
theorem c175_56 : cod 175 56 = some (.iload_n 1, 1) := cod_of b175 dX8_then_56
theorem t175_56 {d : Nat} {h : Hp} {Q : Pst} {l0 l2 l3 : Value} {x : Int32} {st : List Value} : T d 175 56 [l0, .int x, l2, l3] st h Q ↔ T d 175 57 [l0, .int x, l2, l3] (.int x :: st) h Q := T_iload_n c175_56 rfl
theorem c175_57 : cod 175 57 = some (.iadd, 1) := cod_of b175 dX8_then_57
theorem t175_57 {d : Nat} {h : Hp} {Q : Pst} {x y : Int32} {ls : List Value} {st : List Value} : T d 175 57 ls (.int y :: .int x :: st) h Q ↔ T d 175 58 ls (.int (x + y) :: st) h Q := T_iadd c175_57
theorem c175_58 : cod 175 58 = some (.iaload, 1) := cod_of b175 dX8_then_58
theorem t175_58 {d : Nat} {h : Hp} {Q : Pst} {a : Nat} {i : Int32} {ls : List Value} {st : List Value} : T d 175 58 ls (.int i :: .ref a :: st) h Q ↔ aL (h.2.2 a) i (fun x => T d 175 59 ls (.int x :: st) h Q) := T_iaload c175_58
theorem c175_59 : cod 175 59 = some (.ireturn, 1) := cod_of b175 dX8_then_59
theorem t175_59 {d : Nat} {h : Hp} {Q : Pst} {x : Int32} {ls : List Value} : T d 175 59 ls [.int x] h Q ↔ Q (some (.int x)) h := T_iretR m175 c175_59 rfl
theorem c175_18 : cod 175 18 = some (.aload_n 0, 1) := cod_of b175 dX8_then_18
theorem t175_18 {d : Nat} {h : Hp} {Q : Pst} {l1 l2 l3 : Value} {x : Nat} {st : List Value} : T d 175 18 [.ref x, l1, l2, l3] st h Q ↔ T d 175 19 [.ref x, l1, l2, l3] (.ref x :: st) h Q := T_aload_n c175_18 rfl
theorem c175_19 : cod 175 19 = some (.bipush (-2), 2) := cod_of b175 dX8_then_19
theorem t175_19 {d : Nat} {h : Hp} {Q : Pst} {ls : List Value} {st : List Value} : T d 175 19 ls st h Q ↔ T d 175 21 ls (.int (-2) :: st) h Q := T_bipushV c175_19 (by decide)
theorem c175_21 : cod 175 21 = some (.invokevirtual 45, 3) := cod_of b175 dX8_then_21
theorem t175_21 {d : Nat} {h : Hp} {Q : Pst} {a0 : Int32} {a : Nat} {ls : List Value} (ho : isO (h.2.2 a) 7) : T (d + 1) 175 21 ls [.int a0, .ref a] h Q ↔ T d 129 0 [.ref a, .int a0] [] h (fun x h2 => T (d + 1) 175 24 ls (rl x []) h2 Q) := T_virtualR (as := [.int a0]) (r := []) m175 m129 c175_21 k8_45  rfl (by decide) rfl (by simp [wrd, Value.category]) (by simp [stk, Value.category]) rfl (by decide +kernel) ho
theorem c175_24 : cod 175 24 = some (.ireturn, 1) := cod_of b175 dX8_then_24
theorem t175_24 {d : Nat} {h : Hp} {Q : Pst} {x : Int32} {ls : List Value} : T d 175 24 ls [.int x] h Q ↔ Q (some (.int x)) h := T_iretR m175 c175_24 rfl
theorem b176 : (mR 176).2.2.1 = cX8_when := by rw [m176]
theorem c176_0 : cod 176 0 = some (.aload_n 0, 1) := cod_of b176 dX8_when_0
theorem t176_0 {d : Nat} {h : Hp} {Q : Pst} {l1 l2 l3 : Value} {x : Nat} {st : List Value} : T d 176 0 [.ref x, l1, l2, l3] st h Q ↔ T d 176 1 [.ref x, l1, l2, l3] (.ref x :: st) h Q := T_aload_n c176_0 rfl
theorem c176_1 : cod 176 1 = some (.iload_n 1, 1) := cod_of b176 dX8_when_1
theorem t176_1 {d : Nat} {h : Hp} {Q : Pst} {l0 l2 l3 : Value} {x : Int32} {st : List Value} : T d 176 1 [l0, .int x, l2, l3] st h Q ↔ T d 176 2 [l0, .int x, l2, l3] (.int x :: st) h Q := T_iload_n c176_1 rfl
theorem c176_2 : cod 176 2 = some (.invokevirtual 160, 3) := cod_of b176 dX8_when_2
theorem t176_2 {d : Nat} {h : Hp} {Q : Pst} {a0 : Int32} {a : Nat} {ls : List Value} (ho : isO (h.2.2 a) 7) : T (d + 1) 176 2 ls [.int a0, .ref a] h Q ↔ T d 164 0 [.ref a, .int a0] [] h (fun x h2 => T (d + 1) 176 5 ls (rl x []) h2 Q) := T_virtualR (as := [.int a0]) (r := []) m176 m164 c176_2 k8_160  rfl (by decide) rfl (by simp [wrd, Value.category]) (by simp [stk, Value.category]) rfl (by decide +kernel) ho
theorem c176_5 : cod 176 5 = some (.ifCond .eq 14, 3) := cod_of b176 dX8_when_5
theorem t176_5 {d : Nat} {h : Hp} {Q : Pst} {x : Int32} {ls : List Value} {st : List Value} : T d 176 5 ls (.int x :: st) h Q ↔ (if x = 0 then T d 176 19 ls st h Q else T d 176 8 ls st h Q) := T_if_eq c176_5 (by decide)
theorem c176_8 : cod 176 8 = some (.iload_n 2, 1) := cod_of b176 dX8_when_8
theorem t176_8 {d : Nat} {h : Hp} {Q : Pst} {l0 l1 l3 : Value} {x : Int32} {st : List Value} : T d 176 8 [l0, l1, .int x, l3] st h Q ↔ T d 176 9 [l0, l1, .int x, l3] (.int x :: st) h Q := T_iload_n c176_8 rfl
theorem c176_9 : cod 176 9 = some (.iconst 1, 1) := cod_of b176 dX8_when_9
theorem t176_9 {d : Nat} {h : Hp} {Q : Pst} {ls : List Value} {st : List Value} : T d 176 9 ls st h Q ↔ T d 176 10 ls (.int 1 :: st) h Q := T_iconstV c176_9 (by decide)
theorem c176_10 : cod 176 10 = some (.sipush 999, 3) := cod_of b176 dX8_when_10
theorem t176_10 {d : Nat} {h : Hp} {Q : Pst} {ls : List Value} {st : List Value} : T d 176 10 ls st h Q ↔ T d 176 13 ls (.int 999 :: st) h Q := T_sipushV c176_10 (by decide)
theorem c176_13 : cod 176 13 = some (.invokestatic 49, 3) := cod_of b176 dX8_when_13
theorem t176_13 {d : Nat} {h : Hp} {Q : Pst} {a0 a1 a2 : Int32} {ls : List Value} : T (d + 1) 176 13 ls [.int a2, .int a1, .int a0] h Q ↔ T d 126 0 [.int a0, .int a1, .int a2] [] h (fun x h2 => T (d + 1) 176 16 ls (rl x []) h2 Q) := T_staticR (as := [.int a0, .int a1, .int a2]) (r := []) m176 m126 c176_13 k8_49 (Or.inl rfl) rfl (by decide) rfl (by simp [wrd, Value.category]) (by simp [stk, Value.category]) rfl
theorem c176_16 : cod 176 16 = some (.ifCond .ne 10, 3) := cod_of b176 dX8_when_16
theorem t176_16 {d : Nat} {h : Hp} {Q : Pst} {x : Int32} {ls : List Value} {st : List Value} : T d 176 16 ls (.int x :: st) h Q ↔ (if ¬ x = 0 then T d 176 26 ls st h Q else T d 176 19 ls st h Q) := T_if_ne c176_16 (by decide)
theorem c176_26 : cod 176 26 = some (.aload_n 0, 1) := cod_of b176 dX8_when_26
theorem t176_26 {d : Nat} {h : Hp} {Q : Pst} {l1 l2 l3 : Value} {x : Nat} {st : List Value} : T d 176 26 [.ref x, l1, l2, l3] st h Q ↔ T d 176 27 [.ref x, l1, l2, l3] (.ref x :: st) h Q := T_aload_n c176_26 rfl
theorem c176_27 : cod 176 27 = some (.invokevirtual 169, 3) := cod_of b176 dX8_when_27
theorem t176_27 {d : Nat} {h : Hp} {Q : Pst} {a : Nat} {ls : List Value} (ho : isO (h.2.2 a) 7) : T (d + 1) 176 27 ls [.ref a] h Q ↔ T d 174 0 [.ref a, un] [] h (fun x h2 => T (d + 1) 176 30 ls (rl x []) h2 Q) := T_virtualR (as := []) (r := []) m176 m174 c176_27 k8_169  rfl (by decide) rfl (by simp [wrd, Value.category]) (by simp [stk, Value.category]) rfl (by decide +kernel) ho
theorem c176_30 : cod 176 30 = some (.iconst 0, 1) := cod_of b176 dX8_when_30
theorem t176_30 {d : Nat} {h : Hp} {Q : Pst} {ls : List Value} {st : List Value} : T d 176 30 ls st h Q ↔ T d 176 31 ls (.int 0 :: st) h Q := T_iconstV c176_30 (by decide)
theorem c176_31 : cod 176 31 = some (.istore_n 3, 1) := cod_of b176 dX8_when_31
theorem t176_31 {d : Nat} {h : Hp} {Q : Pst} {l0 l1 l2 l3 : Value} {x : Int32} {st : List Value} : T d 176 31 [l0, l1, l2, l3] (.int x :: st) h Q ↔ T d 176 32 [l0, l1, kil l2, .int x] st h Q := T_istore_n c176_31 (Nat.le_of_ble_eq_true rfl)
theorem c176_32 : cod 176 32 = some (.iload_n 3, 1) := cod_of b176 dX8_when_32
theorem t176_32 {d : Nat} {h : Hp} {Q : Pst} {l0 l1 l2 : Value} {x : Int32} {st : List Value} : T d 176 32 [l0, l1, l2, .int x] st h Q ↔ T d 176 33 [l0, l1, l2, .int x] (.int x :: st) h Q := T_iload_n c176_32 rfl
theorem c176_33 : cod 176 33 = some (.bipush 61, 2) := cod_of b176 dX8_when_33
theorem t176_33 {d : Nat} {h : Hp} {Q : Pst} {ls : List Value} {st : List Value} : T d 176 33 ls st h Q ↔ T d 176 35 ls (.int 61 :: st) h Q := T_bipushV c176_33 (by decide)
theorem c176_35 : cod 176 35 = some (.if_icmp .ge 32, 3) := cod_of b176 dX8_when_35
theorem t176_35 {d : Nat} {h : Hp} {Q : Pst} {x y : Int32} {ls : List Value} {st : List Value} : T d 176 35 ls (.int y :: .int x :: st) h Q ↔ (if y ≤ x then T d 176 67 ls st h Q else T d 176 38 ls st h Q) := T_icmp_ge c176_35 (by decide)
theorem c176_38 : cod 176 38 = some (.aload_n 0, 1) := cod_of b176 dX8_when_38
theorem t176_38 {d : Nat} {h : Hp} {Q : Pst} {l1 l2 l3 : Value} {x : Nat} {st : List Value} : T d 176 38 [.ref x, l1, l2, l3] st h Q ↔ T d 176 39 [.ref x, l1, l2, l3] (.ref x :: st) h Q := T_aload_n c176_38 rfl
theorem c176_39 : cod 176 39 = some (.getfield 7, 3) := cod_of b176 dX8_when_39
theorem t176_39 {d : Nat} {h : Hp} {Q : Pst} {a : Nat} {ls : List Value} {st : List Value} : T d 176 39 ls (.ref a :: st) h Q ↔ gF (h.2.2 a) 7 0 (fun v => T d 176 42 ls (v :: st) h Q) := T_getfieldR m176 c176_39 f8_7
theorem c176_42 : cod 176 42 = some (.sipush 630, 3) := cod_of b176 dX8_when_42
theorem t176_42 {d : Nat} {h : Hp} {Q : Pst} {ls : List Value} {st : List Value} : T d 176 42 ls st h Q ↔ T d 176 45 ls (.int 630 :: st) h Q := T_sipushV c176_42 (by decide)
theorem c176_45 : cod 176 45 = some (.iload_n 1, 1) := cod_of b176 dX8_when_45
theorem t176_45 {d : Nat} {h : Hp} {Q : Pst} {l0 l2 l3 : Value} {x : Int32} {st : List Value} : T d 176 45 [l0, .int x, l2, l3] st h Q ↔ T d 176 46 [l0, .int x, l2, l3] (.int x :: st) h Q := T_iload_n c176_45 rfl
theorem c176_46 : cod 176 46 = some (.iadd, 1) := cod_of b176 dX8_when_46
theorem t176_46 {d : Nat} {h : Hp} {Q : Pst} {x y : Int32} {ls : List Value} {st : List Value} : T d 176 46 ls (.int y :: .int x :: st) h Q ↔ T d 176 47 ls (.int (x + y) :: st) h Q := T_iadd c176_46
theorem c176_47 : cod 176 47 = some (.iaload, 1) := cod_of b176 dX8_when_47
theorem t176_47 {d : Nat} {h : Hp} {Q : Pst} {a : Nat} {i : Int32} {ls : List Value} {st : List Value} : T d 176 47 ls (.int i :: .ref a :: st) h Q ↔ aL (h.2.2 a) i (fun x => T d 176 48 ls (.int x :: st) h Q) := T_iaload c176_47
theorem c176_48 : cod 176 48 = some (.iload_n 2, 1) := cod_of b176 dX8_when_48
theorem t176_48 {d : Nat} {h : Hp} {Q : Pst} {l0 l1 l3 : Value} {x : Int32} {st : List Value} : T d 176 48 [l0, l1, .int x, l3] st h Q ↔ T d 176 49 [l0, l1, .int x, l3] (.int x :: st) h Q := T_iload_n c176_48 rfl
theorem c176_49 : cod 176 49 = some (.if_icmp .lt 5, 3) := cod_of b176 dX8_when_49
theorem t176_49 {d : Nat} {h : Hp} {Q : Pst} {x y : Int32} {ls : List Value} {st : List Value} : T d 176 49 ls (.int y :: .int x :: st) h Q ↔ (if x < y then T d 176 54 ls st h Q else T d 176 52 ls st h Q) := T_icmp_lt c176_49 (by decide)
theorem c176_52 : cod 176 52 = some (.iload_n 3, 1) := cod_of b176 dX8_when_52
theorem t176_52 {d : Nat} {h : Hp} {Q : Pst} {l0 l1 l2 : Value} {x : Int32} {st : List Value} : T d 176 52 [l0, l1, l2, .int x] st h Q ↔ T d 176 53 [l0, l1, l2, .int x] (.int x :: st) h Q := T_iload_n c176_52 rfl
theorem c176_53 : cod 176 53 = some (.ireturn, 1) := cod_of b176 dX8_when_53
theorem t176_53 {d : Nat} {h : Hp} {Q : Pst} {x : Int32} {ls : List Value} : T d 176 53 ls [.int x] h Q ↔ Q (some (.int x)) h := T_iretR m176 c176_53 rfl
theorem c176_54 : cod 176 54 = some (.aload_n 0, 1) := cod_of b176 dX8_when_54
theorem t176_54 {d : Nat} {h : Hp} {Q : Pst} {l1 l2 l3 : Value} {x : Nat} {st : List Value} : T d 176 54 [.ref x, l1, l2, l3] st h Q ↔ T d 176 55 [.ref x, l1, l2, l3] (.ref x :: st) h Q := T_aload_n c176_54 rfl
theorem c176_55 : cod 176 55 = some (.sipush 624, 3) := cod_of b176 dX8_when_55
theorem t176_55 {d : Nat} {h : Hp} {Q : Pst} {ls : List Value} {st : List Value} : T d 176 55 ls st h Q ↔ T d 176 58 ls (.int 624 :: st) h Q := T_sipushV c176_55 (by decide)
theorem c176_58 : cod 176 58 = some (.invokevirtual 154, 3) := cod_of b176 dX8_when_58
theorem t176_58 {d : Nat} {h : Hp} {Q : Pst} {a0 : Int32} {a : Nat} {ls : List Value} (ho : isO (h.2.2 a) 7) : T (d + 1) 176 58 ls [.int a0, .ref a] h Q ↔ T d 159 0 [.ref a, .int a0, un, un] [] h (fun x h2 => T (d + 1) 176 61 ls (rl x []) h2 Q) := T_virtualR (as := [.int a0]) (r := []) m176 m159 c176_58 k8_154  rfl (by decide) rfl (by simp [wrd, Value.category]) (by simp [stk, Value.category]) rfl (by decide +kernel) ho
theorem c176_61 : cod 176 61 = some (.iinc 3 1, 3) := cod_of b176 dX8_when_61
theorem t176_61 {d : Nat} {h : Hp} {Q : Pst} {l0 l1 l2 : Value} {x : Int32} {st : List Value} : T d 176 61 [l0, l1, l2, .int x] st h Q ↔ T d 176 64 [l0, l1, kil l2, .int (x + 1)] st h Q := T_iincV c176_61 rfl (Nat.le_of_ble_eq_true rfl) (by decide) rfl
theorem c176_64 : cod 176 64 = some (.goto (-32), 3) := cod_of b176 dX8_when_64
theorem t176_64 {d : Nat} {h : Hp} {Q : Pst} {ls : List Value} {st : List Value} : T d 176 64 ls st h Q ↔ T d 176 32 ls st h Q := T_goto c176_64 (by decide)
theorem c176_67 : cod 176 67 = some (.iconst (-1), 1) := cod_of b176 dX8_when_67
theorem t176_67 {d : Nat} {h : Hp} {Q : Pst} {ls : List Value} {st : List Value} : T d 176 67 ls st h Q ↔ T d 176 68 ls (.int (-1) :: st) h Q := T_iconstV c176_67 (by decide)
theorem c176_68 : cod 176 68 = some (.ireturn, 1) := cod_of b176 dX8_when_68
theorem t176_68 {d : Nat} {h : Hp} {Q : Pst} {x : Int32} {ls : List Value} : T d 176 68 ls [.int x] h Q ↔ Q (some (.int x)) h := T_iretR m176 c176_68 rfl
theorem c176_19 : cod 176 19 = some (.aload_n 0, 1) := cod_of b176 dX8_when_19
theorem t176_19 {d : Nat} {h : Hp} {Q : Pst} {l1 l2 l3 : Value} {x : Nat} {st : List Value} : T d 176 19 [.ref x, l1, l2, l3] st h Q ↔ T d 176 20 [.ref x, l1, l2, l3] (.ref x :: st) h Q := T_aload_n c176_19 rfl
theorem c176_20 : cod 176 20 = some (.bipush (-2), 2) := cod_of b176 dX8_when_20
theorem t176_20 {d : Nat} {h : Hp} {Q : Pst} {ls : List Value} {st : List Value} : T d 176 20 ls st h Q ↔ T d 176 22 ls (.int (-2) :: st) h Q := T_bipushV c176_20 (by decide)
theorem c176_22 : cod 176 22 = some (.invokevirtual 45, 3) := cod_of b176 dX8_when_22
theorem t176_22 {d : Nat} {h : Hp} {Q : Pst} {a0 : Int32} {a : Nat} {ls : List Value} (ho : isO (h.2.2 a) 7) : T (d + 1) 176 22 ls [.int a0, .ref a] h Q ↔ T d 129 0 [.ref a, .int a0] [] h (fun x h2 => T (d + 1) 176 25 ls (rl x []) h2 Q) := T_virtualR (as := [.int a0]) (r := []) m176 m129 c176_22 k8_45  rfl (by decide) rfl (by simp [wrd, Value.category]) (by simp [stk, Value.category]) rfl (by decide +kernel) ho
theorem c176_25 : cod 176 25 = some (.ireturn, 1) := cod_of b176 dX8_when_25
theorem t176_25 {d : Nat} {h : Hp} {Q : Pst} {x : Int32} {ls : List Value} : T d 176 25 ls [.int x] h Q ↔ Q (some (.int x)) h := T_iretR m176 c176_25 rfl
theorem b177 : (mR 177).2.2.1 = cX8_most := by rw [m177]
theorem c177_0 : cod 177 0 = some (.aload_n 0, 1) := cod_of b177 dX8_most_0
theorem t177_0 {d : Nat} {h : Hp} {Q : Pst} {l1 l2 l3 l4 l5 l6 : Value} {x : Nat} {st : List Value} : T d 177 0 [.ref x, l1, l2, l3, l4, l5, l6] st h Q ↔ T d 177 1 [.ref x, l1, l2, l3, l4, l5, l6] (.ref x :: st) h Q := T_aload_n c177_0 rfl
theorem c177_1 : cod 177 1 = some (.iload_n 1, 1) := cod_of b177 dX8_most_1
theorem t177_1 {d : Nat} {h : Hp} {Q : Pst} {l0 l2 l3 l4 l5 l6 : Value} {x : Int32} {st : List Value} : T d 177 1 [l0, .int x, l2, l3, l4, l5, l6] st h Q ↔ T d 177 2 [l0, .int x, l2, l3, l4, l5, l6] (.int x :: st) h Q := T_iload_n c177_1 rfl
theorem c177_2 : cod 177 2 = some (.invokevirtual 157, 3) := cod_of b177 dX8_most_2
theorem t177_2 {d : Nat} {h : Hp} {Q : Pst} {a0 : Int32} {a : Nat} {ls : List Value} (ho : isO (h.2.2 a) 7) : T (d + 1) 177 2 ls [.int a0, .ref a] h Q ↔ T d 163 0 [.ref a, .int a0] [] h (fun x h2 => T (d + 1) 177 5 ls (rl x []) h2 Q) := T_virtualR (as := [.int a0]) (r := []) m177 m163 c177_2 k8_157  rfl (by decide) rfl (by simp [wrd, Value.category]) (by simp [stk, Value.category]) rfl (by decide +kernel) ho
theorem c177_5 : cod 177 5 = some (.ifCond .eq 12, 3) := cod_of b177 dX8_most_5
theorem t177_5 {d : Nat} {h : Hp} {Q : Pst} {x : Int32} {ls : List Value} {st : List Value} : T d 177 5 ls (.int x :: st) h Q ↔ (if x = 0 then T d 177 17 ls st h Q else T d 177 8 ls st h Q) := T_if_eq c177_5 (by decide)
theorem c177_8 : cod 177 8 = some (.iload_n 2, 1) := cod_of b177 dX8_most_8
theorem t177_8 {d : Nat} {h : Hp} {Q : Pst} {l0 l1 l3 l4 l5 l6 : Value} {x : Int32} {st : List Value} : T d 177 8 [l0, l1, .int x, l3, l4, l5, l6] st h Q ↔ T d 177 9 [l0, l1, .int x, l3, l4, l5, l6] (.int x :: st) h Q := T_iload_n c177_8 rfl
theorem c177_9 : cod 177 9 = some (.iconst 0, 1) := cod_of b177 dX8_most_9
theorem t177_9 {d : Nat} {h : Hp} {Q : Pst} {ls : List Value} {st : List Value} : T d 177 9 ls st h Q ↔ T d 177 10 ls (.int 0 :: st) h Q := T_iconstV c177_9 (by decide)
theorem c177_10 : cod 177 10 = some (.iconst 1, 1) := cod_of b177 dX8_most_10
theorem t177_10 {d : Nat} {h : Hp} {Q : Pst} {ls : List Value} {st : List Value} : T d 177 10 ls st h Q ↔ T d 177 11 ls (.int 1 :: st) h Q := T_iconstV c177_10 (by decide)
theorem c177_11 : cod 177 11 = some (.invokestatic 49, 3) := cod_of b177 dX8_most_11
theorem t177_11 {d : Nat} {h : Hp} {Q : Pst} {a0 a1 a2 : Int32} {ls : List Value} : T (d + 1) 177 11 ls [.int a2, .int a1, .int a0] h Q ↔ T d 126 0 [.int a0, .int a1, .int a2] [] h (fun x h2 => T (d + 1) 177 14 ls (rl x []) h2 Q) := T_staticR (as := [.int a0, .int a1, .int a2]) (r := []) m177 m126 c177_11 k8_49 (Or.inl rfl) rfl (by decide) rfl (by simp [wrd, Value.category]) (by simp [stk, Value.category]) rfl
theorem c177_14 : cod 177 14 = some (.ifCond .ne 10, 3) := cod_of b177 dX8_most_14
theorem t177_14 {d : Nat} {h : Hp} {Q : Pst} {x : Int32} {ls : List Value} {st : List Value} : T d 177 14 ls (.int x :: st) h Q ↔ (if ¬ x = 0 then T d 177 24 ls st h Q else T d 177 17 ls st h Q) := T_if_ne c177_14 (by decide)
theorem c177_24 : cod 177 24 = some (.iconst (-1), 1) := cod_of b177 dX8_most_24
theorem t177_24 {d : Nat} {h : Hp} {Q : Pst} {ls : List Value} {st : List Value} : T d 177 24 ls st h Q ↔ T d 177 25 ls (.int (-1) :: st) h Q := T_iconstV c177_24 (by decide)
theorem c177_25 : cod 177 25 = some (.istore_n 3, 1) := cod_of b177 dX8_most_25
theorem t177_25 {d : Nat} {h : Hp} {Q : Pst} {l0 l1 l2 l3 l4 l5 l6 : Value} {x : Int32} {st : List Value} : T d 177 25 [l0, l1, l2, l3, l4, l5, l6] (.int x :: st) h Q ↔ T d 177 26 [l0, l1, kil l2, .int x, l4, l5, l6] st h Q := T_istore_n c177_25 (Nat.le_of_ble_eq_true rfl)
theorem c177_26 : cod 177 26 = some (.iconst (-1), 1) := cod_of b177 dX8_most_26
theorem t177_26 {d : Nat} {h : Hp} {Q : Pst} {ls : List Value} {st : List Value} : T d 177 26 ls st h Q ↔ T d 177 27 ls (.int (-1) :: st) h Q := T_iconstV c177_26 (by decide)
theorem c177_27 : cod 177 27 = some (.istore 4, 2) := cod_of b177 dX8_most_27
theorem t177_27 {d : Nat} {h : Hp} {Q : Pst} {l0 l1 l2 l3 l4 l5 l6 : Value} {x : Int32} {st : List Value} : T d 177 27 [l0, l1, l2, l3, l4, l5, l6] (.int x :: st) h Q ↔ T d 177 29 [l0, l1, l2, kil l3, .int x, l5, l6] st h Q := T_istore c177_27 (Nat.le_of_ble_eq_true rfl)
theorem c177_29 : cod 177 29 = some (.iconst 0, 1) := cod_of b177 dX8_most_29
theorem t177_29 {d : Nat} {h : Hp} {Q : Pst} {ls : List Value} {st : List Value} : T d 177 29 ls st h Q ↔ T d 177 30 ls (.int 0 :: st) h Q := T_iconstV c177_29 (by decide)
theorem c177_30 : cod 177 30 = some (.istore 5, 2) := cod_of b177 dX8_most_30
theorem t177_30 {d : Nat} {h : Hp} {Q : Pst} {l0 l1 l2 l3 l4 l5 l6 : Value} {x : Int32} {st : List Value} : T d 177 30 [l0, l1, l2, l3, l4, l5, l6] (.int x :: st) h Q ↔ T d 177 32 [l0, l1, l2, l3, kil l4, .int x, l6] st h Q := T_istore c177_30 (Nat.le_of_ble_eq_true rfl)
theorem c177_32 : cod 177 32 = some (.iload 5, 2) := cod_of b177 dX8_most_32
theorem t177_32 {d : Nat} {h : Hp} {Q : Pst} {l0 l1 l2 l3 l4 l6 : Value} {x : Int32} {st : List Value} : T d 177 32 [l0, l1, l2, l3, l4, .int x, l6] st h Q ↔ T d 177 34 [l0, l1, l2, l3, l4, .int x, l6] (.int x :: st) h Q := T_iload c177_32 rfl
theorem c177_34 : cod 177 34 = some (.aload_n 0, 1) := cod_of b177 dX8_most_34
theorem t177_34 {d : Nat} {h : Hp} {Q : Pst} {l1 l2 l3 l4 l5 l6 : Value} {x : Nat} {st : List Value} : T d 177 34 [.ref x, l1, l2, l3, l4, l5, l6] st h Q ↔ T d 177 35 [.ref x, l1, l2, l3, l4, l5, l6] (.ref x :: st) h Q := T_aload_n c177_34 rfl
theorem c177_35 : cod 177 35 = some (.getfield 7, 3) := cod_of b177 dX8_most_35
theorem t177_35 {d : Nat} {h : Hp} {Q : Pst} {a : Nat} {ls : List Value} {st : List Value} : T d 177 35 ls (.ref a :: st) h Q ↔ gF (h.2.2 a) 7 0 (fun v => T d 177 38 ls (v :: st) h Q) := T_getfieldR m177 c177_35 f8_7
theorem c177_38 : cod 177 38 = some (.bipush 25, 2) := cod_of b177 dX8_most_38
theorem t177_38 {d : Nat} {h : Hp} {Q : Pst} {ls : List Value} {st : List Value} : T d 177 38 ls st h Q ↔ T d 177 40 ls (.int 25 :: st) h Q := T_bipushV c177_38 (by decide)
theorem c177_40 : cod 177 40 = some (.iaload, 1) := cod_of b177 dX8_most_40
theorem t177_40 {d : Nat} {h : Hp} {Q : Pst} {a : Nat} {i : Int32} {ls : List Value} {st : List Value} : T d 177 40 ls (.int i :: .ref a :: st) h Q ↔ aL (h.2.2 a) i (fun x => T d 177 41 ls (.int x :: st) h Q) := T_iaload c177_40
theorem c177_41 : cod 177 41 = some (.if_icmp .ge 58, 3) := cod_of b177 dX8_most_41
theorem t177_41 {d : Nat} {h : Hp} {Q : Pst} {x y : Int32} {ls : List Value} {st : List Value} : T d 177 41 ls (.int y :: .int x :: st) h Q ↔ (if y ≤ x then T d 177 99 ls st h Q else T d 177 44 ls st h Q) := T_icmp_ge c177_41 (by decide)
theorem c177_44 : cod 177 44 = some (.aload_n 0, 1) := cod_of b177 dX8_most_44
theorem t177_44 {d : Nat} {h : Hp} {Q : Pst} {l1 l2 l3 l4 l5 l6 : Value} {x : Nat} {st : List Value} : T d 177 44 [.ref x, l1, l2, l3, l4, l5, l6] st h Q ↔ T d 177 45 [.ref x, l1, l2, l3, l4, l5, l6] (.ref x :: st) h Q := T_aload_n c177_44 rfl
theorem c177_45 : cod 177 45 = some (.iload_n 1, 1) := cod_of b177 dX8_most_45
theorem t177_45 {d : Nat} {h : Hp} {Q : Pst} {l0 l2 l3 l4 l5 l6 : Value} {x : Int32} {st : List Value} : T d 177 45 [l0, .int x, l2, l3, l4, l5, l6] st h Q ↔ T d 177 46 [l0, .int x, l2, l3, l4, l5, l6] (.int x :: st) h Q := T_iload_n c177_45 rfl
theorem c177_46 : cod 177 46 = some (.iload 5, 2) := cod_of b177 dX8_most_46
theorem t177_46 {d : Nat} {h : Hp} {Q : Pst} {l0 l1 l2 l3 l4 l6 : Value} {x : Int32} {st : List Value} : T d 177 46 [l0, l1, l2, l3, l4, .int x, l6] st h Q ↔ T d 177 48 [l0, l1, l2, l3, l4, .int x, l6] (.int x :: st) h Q := T_iload c177_46 rfl
theorem c177_48 : cod 177 48 = some (.aload_n 0, 1) := cod_of b177 dX8_most_48
theorem t177_48 {d : Nat} {h : Hp} {Q : Pst} {l1 l2 l3 l4 l5 l6 : Value} {x : Nat} {st : List Value} : T d 177 48 [.ref x, l1, l2, l3, l4, l5, l6] st h Q ↔ T d 177 49 [.ref x, l1, l2, l3, l4, l5, l6] (.ref x :: st) h Q := T_aload_n c177_48 rfl
theorem c177_49 : cod 177 49 = some (.getfield 7, 3) := cod_of b177 dX8_most_49
theorem t177_49 {d : Nat} {h : Hp} {Q : Pst} {a : Nat} {ls : List Value} {st : List Value} : T d 177 49 ls (.ref a :: st) h Q ↔ gF (h.2.2 a) 7 0 (fun v => T d 177 52 ls (v :: st) h Q) := T_getfieldR m177 c177_49 f8_7
theorem c177_52 : cod 177 52 = some (.bipush 10, 2) := cod_of b177 dX8_most_52
theorem t177_52 {d : Nat} {h : Hp} {Q : Pst} {ls : List Value} {st : List Value} : T d 177 52 ls st h Q ↔ T d 177 54 ls (.int 10 :: st) h Q := T_bipushV c177_52 (by decide)
theorem c177_54 : cod 177 54 = some (.iaload, 1) := cod_of b177 dX8_most_54
theorem t177_54 {d : Nat} {h : Hp} {Q : Pst} {a : Nat} {i : Int32} {ls : List Value} {st : List Value} : T d 177 54 ls (.int i :: .ref a :: st) h Q ↔ aL (h.2.2 a) i (fun x => T d 177 55 ls (.int x :: st) h Q) := T_iaload c177_54
theorem c177_55 : cod 177 55 = some (.invokevirtual 145, 3) := cod_of b177 dX8_most_55
theorem t177_55 {d : Nat} {h : Hp} {Q : Pst} {a0 a1 a2 : Int32} {a : Nat} {ls : List Value} (ho : isO (h.2.2 a) 7) : T (d + 1) 177 55 ls [.int a2, .int a1, .int a0, .ref a] h Q ↔ T d 157 0 [.ref a, .int a0, .int a1, .int a2] [] h (fun x h2 => T (d + 1) 177 58 ls (rl x []) h2 Q) := T_virtualR (as := [.int a0, .int a1, .int a2]) (r := []) m177 m157 c177_55 k8_145  rfl (by decide) rfl (by simp [wrd, Value.category]) (by simp [stk, Value.category]) rfl (by decide +kernel) ho
theorem c177_58 : cod 177 58 = some (.invokestatic 148, 3) := cod_of b177 dX8_most_58
theorem t177_58 {d : Nat} {h : Hp} {Q : Pst} {a0 : Int32} {ls : List Value} : T (d + 1) 177 58 ls [.int a0] h Q ↔ T d 128 0 [.int a0, un, un] [] h (fun x h2 => T (d + 1) 177 61 ls (rl x []) h2 Q) := T_staticR (as := [.int a0]) (r := []) m177 m128 c177_58 k8_148 (Or.inl rfl) rfl (by decide) rfl (by simp [wrd, Value.category]) (by simp [stk, Value.category]) rfl
theorem c177_61 : cod 177 61 = some (.istore 6, 2) := cod_of b177 dX8_most_61
theorem t177_61 {d : Nat} {h : Hp} {Q : Pst} {l0 l1 l2 l3 l4 l5 l6 : Value} {x : Int32} {st : List Value} : T d 177 61 [l0, l1, l2, l3, l4, l5, l6] (.int x :: st) h Q ↔ T d 177 63 [l0, l1, l2, l3, l4, kil l5, .int x] st h Q := T_istore c177_61 (Nat.le_of_ble_eq_true rfl)
theorem c177_63 : cod 177 63 = some (.iload 6, 2) := cod_of b177 dX8_most_63
theorem t177_63 {d : Nat} {h : Hp} {Q : Pst} {l0 l1 l2 l3 l4 l5 : Value} {x : Int32} {st : List Value} : T d 177 63 [l0, l1, l2, l3, l4, l5, .int x] st h Q ↔ T d 177 65 [l0, l1, l2, l3, l4, l5, .int x] (.int x :: st) h Q := T_iload c177_63 rfl
theorem c177_65 : cod 177 65 = some (.iload 4, 2) := cod_of b177 dX8_most_65
theorem t177_65 {d : Nat} {h : Hp} {Q : Pst} {l0 l1 l2 l3 l5 l6 : Value} {x : Int32} {st : List Value} : T d 177 65 [l0, l1, l2, l3, .int x, l5, l6] st h Q ↔ T d 177 67 [l0, l1, l2, l3, .int x, l5, l6] (.int x :: st) h Q := T_iload c177_65 rfl
theorem c177_67 : cod 177 67 = some (.if_icmp .le 8, 3) := cod_of b177 dX8_most_67
theorem t177_67 {d : Nat} {h : Hp} {Q : Pst} {x y : Int32} {ls : List Value} {st : List Value} : T d 177 67 ls (.int y :: .int x :: st) h Q ↔ (if x ≤ y then T d 177 75 ls st h Q else T d 177 70 ls st h Q) := T_icmp_le c177_67 (by decide)
theorem c177_70 : cod 177 70 = some (.iload 5, 2) := cod_of b177 dX8_most_70
theorem t177_70 {d : Nat} {h : Hp} {Q : Pst} {l0 l1 l2 l3 l4 l6 : Value} {x : Int32} {st : List Value} : T d 177 70 [l0, l1, l2, l3, l4, .int x, l6] st h Q ↔ T d 177 72 [l0, l1, l2, l3, l4, .int x, l6] (.int x :: st) h Q := T_iload c177_70 rfl
theorem c177_72 : cod 177 72 = some (.goto 4, 3) := cod_of b177 dX8_most_72
theorem t177_72 {d : Nat} {h : Hp} {Q : Pst} {ls : List Value} {st : List Value} : T d 177 72 ls st h Q ↔ T d 177 76 ls st h Q := T_goto c177_72 (by decide)
theorem c177_76 : cod 177 76 = some (.istore_n 3, 1) := cod_of b177 dX8_most_76
theorem t177_76 {d : Nat} {h : Hp} {Q : Pst} {l0 l1 l2 l3 l4 l5 l6 : Value} {x : Int32} {st : List Value} : T d 177 76 [l0, l1, l2, l3, l4, l5, l6] (.int x :: st) h Q ↔ T d 177 77 [l0, l1, kil l2, .int x, l4, l5, l6] st h Q := T_istore_n c177_76 (Nat.le_of_ble_eq_true rfl)
theorem c177_77 : cod 177 77 = some (.iload 6, 2) := cod_of b177 dX8_most_77
theorem t177_77 {d : Nat} {h : Hp} {Q : Pst} {l0 l1 l2 l3 l4 l5 : Value} {x : Int32} {st : List Value} : T d 177 77 [l0, l1, l2, l3, l4, l5, .int x] st h Q ↔ T d 177 79 [l0, l1, l2, l3, l4, l5, .int x] (.int x :: st) h Q := T_iload c177_77 rfl
theorem c177_79 : cod 177 79 = some (.iload 4, 2) := cod_of b177 dX8_most_79
theorem t177_79 {d : Nat} {h : Hp} {Q : Pst} {l0 l1 l2 l3 l5 l6 : Value} {x : Int32} {st : List Value} : T d 177 79 [l0, l1, l2, l3, .int x, l5, l6] st h Q ↔ T d 177 81 [l0, l1, l2, l3, .int x, l5, l6] (.int x :: st) h Q := T_iload c177_79 rfl
theorem c177_81 : cod 177 81 = some (.if_icmp .le 8, 3) := cod_of b177 dX8_most_81
theorem t177_81 {d : Nat} {h : Hp} {Q : Pst} {x y : Int32} {ls : List Value} {st : List Value} : T d 177 81 ls (.int y :: .int x :: st) h Q ↔ (if x ≤ y then T d 177 89 ls st h Q else T d 177 84 ls st h Q) := T_icmp_le c177_81 (by decide)
theorem c177_84 : cod 177 84 = some (.iload 6, 2) := cod_of b177 dX8_most_84
theorem t177_84 {d : Nat} {h : Hp} {Q : Pst} {l0 l1 l2 l3 l4 l5 : Value} {x : Int32} {st : List Value} : T d 177 84 [l0, l1, l2, l3, l4, l5, .int x] st h Q ↔ T d 177 86 [l0, l1, l2, l3, l4, l5, .int x] (.int x :: st) h Q := T_iload c177_84 rfl
theorem c177_86 : cod 177 86 = some (.goto 5, 3) := cod_of b177 dX8_most_86
theorem t177_86 {d : Nat} {h : Hp} {Q : Pst} {ls : List Value} {st : List Value} : T d 177 86 ls st h Q ↔ T d 177 91 ls st h Q := T_goto c177_86 (by decide)
theorem c177_91 : cod 177 91 = some (.istore 4, 2) := cod_of b177 dX8_most_91
theorem t177_91 {d : Nat} {h : Hp} {Q : Pst} {l0 l1 l2 l3 l4 l5 l6 : Value} {x : Int32} {st : List Value} : T d 177 91 [l0, l1, l2, l3, l4, l5, l6] (.int x :: st) h Q ↔ T d 177 93 [l0, l1, l2, kil l3, .int x, l5, l6] st h Q := T_istore c177_91 (Nat.le_of_ble_eq_true rfl)
theorem c177_93 : cod 177 93 = some (.iinc 5 1, 3) := cod_of b177 dX8_most_93
theorem t177_93 {d : Nat} {h : Hp} {Q : Pst} {l0 l1 l2 l3 l4 l6 : Value} {x : Int32} {st : List Value} : T d 177 93 [l0, l1, l2, l3, l4, .int x, l6] st h Q ↔ T d 177 96 [l0, l1, l2, l3, kil l4, .int (x + 1), l6] st h Q := T_iincV c177_93 rfl (Nat.le_of_ble_eq_true rfl) (by decide) rfl
theorem c177_96 : cod 177 96 = some (.goto (-64), 3) := cod_of b177 dX8_most_96
theorem t177_96 {d : Nat} {h : Hp} {Q : Pst} {ls : List Value} {st : List Value} : T d 177 96 ls st h Q ↔ T d 177 32 ls st h Q := T_goto c177_96 (by decide)
theorem c177_89 : cod 177 89 = some (.iload 4, 2) := cod_of b177 dX8_most_89
theorem t177_89 {d : Nat} {h : Hp} {Q : Pst} {l0 l1 l2 l3 l5 l6 : Value} {x : Int32} {st : List Value} : T d 177 89 [l0, l1, l2, l3, .int x, l5, l6] st h Q ↔ T d 177 91 [l0, l1, l2, l3, .int x, l5, l6] (.int x :: st) h Q := T_iload c177_89 rfl
theorem c177_75 : cod 177 75 = some (.iload_n 3, 1) := cod_of b177 dX8_most_75
theorem t177_75 {d : Nat} {h : Hp} {Q : Pst} {l0 l1 l2 l4 l5 l6 : Value} {x : Int32} {st : List Value} : T d 177 75 [l0, l1, l2, .int x, l4, l5, l6] st h Q ↔ T d 177 76 [l0, l1, l2, .int x, l4, l5, l6] (.int x :: st) h Q := T_iload_n c177_75 rfl
theorem c177_99 : cod 177 99 = some (.iload_n 2, 1) := cod_of b177 dX8_most_99
theorem t177_99 {d : Nat} {h : Hp} {Q : Pst} {l0 l1 l3 l4 l5 l6 : Value} {x : Int32} {st : List Value} : T d 177 99 [l0, l1, .int x, l3, l4, l5, l6] st h Q ↔ T d 177 100 [l0, l1, .int x, l3, l4, l5, l6] (.int x :: st) h Q := T_iload_n c177_99 rfl
theorem c177_100 : cod 177 100 = some (.ifCond .ne 7, 3) := cod_of b177 dX8_most_100
theorem t177_100 {d : Nat} {h : Hp} {Q : Pst} {x : Int32} {ls : List Value} {st : List Value} : T d 177 100 ls (.int x :: st) h Q ↔ (if ¬ x = 0 then T d 177 107 ls st h Q else T d 177 103 ls st h Q) := T_if_ne c177_100 (by decide)
theorem c177_103 : cod 177 103 = some (.iload_n 3, 1) := cod_of b177 dX8_most_103
theorem t177_103 {d : Nat} {h : Hp} {Q : Pst} {l0 l1 l2 l4 l5 l6 : Value} {x : Int32} {st : List Value} : T d 177 103 [l0, l1, l2, .int x, l4, l5, l6] st h Q ↔ T d 177 104 [l0, l1, l2, .int x, l4, l5, l6] (.int x :: st) h Q := T_iload_n c177_103 rfl
theorem c177_104 : cod 177 104 = some (.goto 14, 3) := cod_of b177 dX8_most_104
theorem t177_104 {d : Nat} {h : Hp} {Q : Pst} {ls : List Value} {st : List Value} : T d 177 104 ls st h Q ↔ T d 177 118 ls st h Q := T_goto c177_104 (by decide)
theorem c177_118 : cod 177 118 = some (.ireturn, 1) := cod_of b177 dX8_most_118
theorem t177_118 {d : Nat} {h : Hp} {Q : Pst} {x : Int32} {ls : List Value} : T d 177 118 ls [.int x] h Q ↔ Q (some (.int x)) h := T_iretR m177 c177_118 rfl
theorem c177_107 : cod 177 107 = some (.iload_n 3, 1) := cod_of b177 dX8_most_107
theorem t177_107 {d : Nat} {h : Hp} {Q : Pst} {l0 l1 l2 l4 l5 l6 : Value} {x : Int32} {st : List Value} : T d 177 107 [l0, l1, l2, .int x, l4, l5, l6] st h Q ↔ T d 177 108 [l0, l1, l2, .int x, l4, l5, l6] (.int x :: st) h Q := T_iload_n c177_107 rfl
theorem c177_108 : cod 177 108 = some (.iconst (-1), 1) := cod_of b177 dX8_most_108
theorem t177_108 {d : Nat} {h : Hp} {Q : Pst} {ls : List Value} {st : List Value} : T d 177 108 ls st h Q ↔ T d 177 109 ls (.int (-1) :: st) h Q := T_iconstV c177_108 (by decide)
theorem c177_109 : cod 177 109 = some (.if_icmp .ne 7, 3) := cod_of b177 dX8_most_109
theorem t177_109 {d : Nat} {h : Hp} {Q : Pst} {x y : Int32} {ls : List Value} {st : List Value} : T d 177 109 ls (.int y :: .int x :: st) h Q ↔ (if ¬ x = y then T d 177 116 ls st h Q else T d 177 112 ls st h Q) := T_icmp_ne c177_109 (by decide)
theorem c177_112 : cod 177 112 = some (.iconst 0, 1) := cod_of b177 dX8_most_112
theorem t177_112 {d : Nat} {h : Hp} {Q : Pst} {ls : List Value} {st : List Value} : T d 177 112 ls st h Q ↔ T d 177 113 ls (.int 0 :: st) h Q := T_iconstV c177_112 (by decide)
theorem c177_113 : cod 177 113 = some (.goto 5, 3) := cod_of b177 dX8_most_113
theorem t177_113 {d : Nat} {h : Hp} {Q : Pst} {ls : List Value} {st : List Value} : T d 177 113 ls st h Q ↔ T d 177 118 ls st h Q := T_goto c177_113 (by decide)
theorem c177_116 : cod 177 116 = some (.iload 4, 2) := cod_of b177 dX8_most_116
theorem t177_116 {d : Nat} {h : Hp} {Q : Pst} {l0 l1 l2 l3 l5 l6 : Value} {x : Int32} {st : List Value} : T d 177 116 [l0, l1, l2, l3, .int x, l5, l6] st h Q ↔ T d 177 118 [l0, l1, l2, l3, .int x, l5, l6] (.int x :: st) h Q := T_iload c177_116 rfl
theorem c177_17 : cod 177 17 = some (.aload_n 0, 1) := cod_of b177 dX8_most_17
theorem t177_17 {d : Nat} {h : Hp} {Q : Pst} {l1 l2 l3 l4 l5 l6 : Value} {x : Nat} {st : List Value} : T d 177 17 [.ref x, l1, l2, l3, l4, l5, l6] st h Q ↔ T d 177 18 [.ref x, l1, l2, l3, l4, l5, l6] (.ref x :: st) h Q := T_aload_n c177_17 rfl
theorem c177_18 : cod 177 18 = some (.bipush (-2), 2) := cod_of b177 dX8_most_18
theorem t177_18 {d : Nat} {h : Hp} {Q : Pst} {ls : List Value} {st : List Value} : T d 177 18 ls st h Q ↔ T d 177 20 ls (.int (-2) :: st) h Q := T_bipushV c177_18 (by decide)
theorem c177_20 : cod 177 20 = some (.invokevirtual 45, 3) := cod_of b177 dX8_most_20
theorem t177_20 {d : Nat} {h : Hp} {Q : Pst} {a0 : Int32} {a : Nat} {ls : List Value} (ho : isO (h.2.2 a) 7) : T (d + 1) 177 20 ls [.int a0, .ref a] h Q ↔ T d 129 0 [.ref a, .int a0] [] h (fun x h2 => T (d + 1) 177 23 ls (rl x []) h2 Q) := T_virtualR (as := [.int a0]) (r := []) m177 m129 c177_20 k8_45  rfl (by decide) rfl (by simp [wrd, Value.category]) (by simp [stk, Value.category]) rfl (by decide +kernel) ho
theorem c177_23 : cod 177 23 = some (.ireturn, 1) := cod_of b177 dX8_most_23
theorem t177_23 {d : Nat} {h : Hp} {Q : Pst} {x : Int32} {ls : List Value} : T d 177 23 ls [.int x] h Q ↔ Q (some (.int x)) h := T_iretR m177 c177_23 rfl
theorem b178 : (mR 178).2.2.1 = cX8_round := by rw [m178]
theorem c178_0 : cod 178 0 = some (.aload_n 0, 1) := cod_of b178 dX8_round_0
theorem t178_0 {d : Nat} {h : Hp} {Q : Pst} {l1 l2 l3 l4 l5 : Value} {x : Nat} {st : List Value} : T d 178 0 [.ref x, l1, l2, l3, l4, l5] st h Q ↔ T d 178 1 [.ref x, l1, l2, l3, l4, l5] (.ref x :: st) h Q := T_aload_n c178_0 rfl
theorem c178_1 : cod 178 1 = some (.iload_n 1, 1) := cod_of b178 dX8_round_1
theorem t178_1 {d : Nat} {h : Hp} {Q : Pst} {l0 l2 l3 l4 l5 : Value} {x : Int32} {st : List Value} : T d 178 1 [l0, .int x, l2, l3, l4, l5] st h Q ↔ T d 178 2 [l0, .int x, l2, l3, l4, l5] (.int x :: st) h Q := T_iload_n c178_1 rfl
theorem c178_2 : cod 178 2 = some (.invokevirtual 157, 3) := cod_of b178 dX8_round_2
theorem t178_2 {d : Nat} {h : Hp} {Q : Pst} {a0 : Int32} {a : Nat} {ls : List Value} (ho : isO (h.2.2 a) 7) : T (d + 1) 178 2 ls [.int a0, .ref a] h Q ↔ T d 163 0 [.ref a, .int a0] [] h (fun x h2 => T (d + 1) 178 5 ls (rl x []) h2 Q) := T_virtualR (as := [.int a0]) (r := []) m178 m163 c178_2 k8_157  rfl (by decide) rfl (by simp [wrd, Value.category]) (by simp [stk, Value.category]) rfl (by decide +kernel) ho
theorem c178_5 : cod 178 5 = some (.ifCond .ne 10, 3) := cod_of b178 dX8_round_5
theorem t178_5 {d : Nat} {h : Hp} {Q : Pst} {x : Int32} {ls : List Value} {st : List Value} : T d 178 5 ls (.int x :: st) h Q ↔ (if ¬ x = 0 then T d 178 15 ls st h Q else T d 178 8 ls st h Q) := T_if_ne c178_5 (by decide)
theorem c178_8 : cod 178 8 = some (.aload_n 0, 1) := cod_of b178 dX8_round_8
theorem t178_8 {d : Nat} {h : Hp} {Q : Pst} {l1 l2 l3 l4 l5 : Value} {x : Nat} {st : List Value} : T d 178 8 [.ref x, l1, l2, l3, l4, l5] st h Q ↔ T d 178 9 [.ref x, l1, l2, l3, l4, l5] (.ref x :: st) h Q := T_aload_n c178_8 rfl
theorem c178_9 : cod 178 9 = some (.bipush (-2), 2) := cod_of b178 dX8_round_9
theorem t178_9 {d : Nat} {h : Hp} {Q : Pst} {ls : List Value} {st : List Value} : T d 178 9 ls st h Q ↔ T d 178 11 ls (.int (-2) :: st) h Q := T_bipushV c178_9 (by decide)
theorem c178_11 : cod 178 11 = some (.invokevirtual 45, 3) := cod_of b178 dX8_round_11
theorem t178_11 {d : Nat} {h : Hp} {Q : Pst} {a0 : Int32} {a : Nat} {ls : List Value} (ho : isO (h.2.2 a) 7) : T (d + 1) 178 11 ls [.int a0, .ref a] h Q ↔ T d 129 0 [.ref a, .int a0] [] h (fun x h2 => T (d + 1) 178 14 ls (rl x []) h2 Q) := T_virtualR (as := [.int a0]) (r := []) m178 m129 c178_11 k8_45  rfl (by decide) rfl (by simp [wrd, Value.category]) (by simp [stk, Value.category]) rfl (by decide +kernel) ho
theorem c178_14 : cod 178 14 = some (.ireturn, 1) := cod_of b178 dX8_round_14
theorem t178_14 {d : Nat} {h : Hp} {Q : Pst} {x : Int32} {ls : List Value} : T d 178 14 ls [.int x] h Q ↔ Q (some (.int x)) h := T_iretR m178 c178_14 rfl
theorem c178_15 : cod 178 15 = some (.iconst (-1), 1) := cod_of b178 dX8_round_15
theorem t178_15 {d : Nat} {h : Hp} {Q : Pst} {ls : List Value} {st : List Value} : T d 178 15 ls st h Q ↔ T d 178 16 ls (.int (-1) :: st) h Q := T_iconstV c178_15 (by decide)
theorem c178_16 : cod 178 16 = some (.istore_n 2, 1) := cod_of b178 dX8_round_16
theorem t178_16 {d : Nat} {h : Hp} {Q : Pst} {l0 l1 l2 l3 l4 l5 : Value} {x : Int32} {st : List Value} : T d 178 16 [l0, l1, l2, l3, l4, l5] (.int x :: st) h Q ↔ T d 178 17 [l0, kil l1, .int x, l3, l4, l5] st h Q := T_istore_n c178_16 (Nat.le_of_ble_eq_true rfl)
theorem c178_17 : cod 178 17 = some (.iconst 0, 1) := cod_of b178 dX8_round_17
theorem t178_17 {d : Nat} {h : Hp} {Q : Pst} {ls : List Value} {st : List Value} : T d 178 17 ls st h Q ↔ T d 178 18 ls (.int 0 :: st) h Q := T_iconstV c178_17 (by decide)
theorem c178_18 : cod 178 18 = some (.istore_n 3, 1) := cod_of b178 dX8_round_18
theorem t178_18 {d : Nat} {h : Hp} {Q : Pst} {l0 l1 l2 l3 l4 l5 : Value} {x : Int32} {st : List Value} : T d 178 18 [l0, l1, l2, l3, l4, l5] (.int x :: st) h Q ↔ T d 178 19 [l0, l1, kil l2, .int x, l4, l5] st h Q := T_istore_n c178_18 (Nat.le_of_ble_eq_true rfl)
theorem c178_19 : cod 178 19 = some (.iload_n 3, 1) := cod_of b178 dX8_round_19
theorem t178_19 {d : Nat} {h : Hp} {Q : Pst} {l0 l1 l2 l4 l5 : Value} {x : Int32} {st : List Value} : T d 178 19 [l0, l1, l2, .int x, l4, l5] st h Q ↔ T d 178 20 [l0, l1, l2, .int x, l4, l5] (.int x :: st) h Q := T_iload_n c178_19 rfl
theorem c178_20 : cod 178 20 = some (.iconst 1, 1) := cod_of b178 dX8_round_20
theorem t178_20 {d : Nat} {h : Hp} {Q : Pst} {ls : List Value} {st : List Value} : T d 178 20 ls st h Q ↔ T d 178 21 ls (.int 1 :: st) h Q := T_iconstV c178_20 (by decide)
theorem c178_21 : cod 178 21 = some (.aload_n 0, 1) := cod_of b178 dX8_round_21
theorem t178_21 {d : Nat} {h : Hp} {Q : Pst} {l1 l2 l3 l4 l5 : Value} {x : Nat} {st : List Value} : T d 178 21 [.ref x, l1, l2, l3, l4, l5] st h Q ↔ T d 178 22 [.ref x, l1, l2, l3, l4, l5] (.ref x :: st) h Q := T_aload_n c178_21 rfl
theorem c178_22 : cod 178 22 = some (.getfield 7, 3) := cod_of b178 dX8_round_22
theorem t178_22 {d : Nat} {h : Hp} {Q : Pst} {a : Nat} {ls : List Value} {st : List Value} : T d 178 22 ls (.ref a :: st) h Q ↔ gF (h.2.2 a) 7 0 (fun v => T d 178 25 ls (v :: st) h Q) := T_getfieldR m178 c178_22 f8_7
theorem c178_25 : cod 178 25 = some (.bipush 25, 2) := cod_of b178 dX8_round_25
theorem t178_25 {d : Nat} {h : Hp} {Q : Pst} {ls : List Value} {st : List Value} : T d 178 25 ls st h Q ↔ T d 178 27 ls (.int 25 :: st) h Q := T_bipushV c178_25 (by decide)
theorem c178_27 : cod 178 27 = some (.iaload, 1) := cod_of b178 dX8_round_27
theorem t178_27 {d : Nat} {h : Hp} {Q : Pst} {a : Nat} {i : Int32} {ls : List Value} {st : List Value} : T d 178 27 ls (.int i :: .ref a :: st) h Q ↔ aL (h.2.2 a) i (fun x => T d 178 28 ls (.int x :: st) h Q) := T_iaload c178_27
theorem c178_28 : cod 178 28 = some (.ishl, 1) := cod_of b178 dX8_round_28
theorem t178_28 {d : Nat} {h : Hp} {Q : Pst} {x y : Int32} {ls : List Value} {st : List Value} : T d 178 28 ls (.int y :: .int x :: st) h Q ↔ T d 178 29 ls (.int (x <<< (y &&& 31)) :: st) h Q := T_ishl c178_28
theorem c178_29 : cod 178 29 = some (.if_icmp .ge 94, 3) := cod_of b178 dX8_round_29
theorem t178_29 {d : Nat} {h : Hp} {Q : Pst} {x y : Int32} {ls : List Value} {st : List Value} : T d 178 29 ls (.int y :: .int x :: st) h Q ↔ (if y ≤ x then T d 178 123 ls st h Q else T d 178 32 ls st h Q) := T_icmp_ge c178_29 (by decide)
theorem c178_32 : cod 178 32 = some (.iconst 0, 1) := cod_of b178 dX8_round_32
theorem t178_32 {d : Nat} {h : Hp} {Q : Pst} {ls : List Value} {st : List Value} : T d 178 32 ls st h Q ↔ T d 178 33 ls (.int 0 :: st) h Q := T_iconstV c178_32 (by decide)
theorem c178_33 : cod 178 33 = some (.istore 4, 2) := cod_of b178 dX8_round_33
theorem t178_33 {d : Nat} {h : Hp} {Q : Pst} {l0 l1 l2 l3 l4 l5 : Value} {x : Int32} {st : List Value} : T d 178 33 [l0, l1, l2, l3, l4, l5] (.int x :: st) h Q ↔ T d 178 35 [l0, l1, l2, kil l3, .int x, l5] st h Q := T_istore c178_33 (Nat.le_of_ble_eq_true rfl)
theorem c178_35 : cod 178 35 = some (.iconst 0, 1) := cod_of b178 dX8_round_35
theorem t178_35 {d : Nat} {h : Hp} {Q : Pst} {ls : List Value} {st : List Value} : T d 178 35 ls st h Q ↔ T d 178 36 ls (.int 0 :: st) h Q := T_iconstV c178_35 (by decide)
theorem c178_36 : cod 178 36 = some (.istore 5, 2) := cod_of b178 dX8_round_36
theorem t178_36 {d : Nat} {h : Hp} {Q : Pst} {l0 l1 l2 l3 l4 l5 : Value} {x : Int32} {st : List Value} : T d 178 36 [l0, l1, l2, l3, l4, l5] (.int x :: st) h Q ↔ T d 178 38 [l0, l1, l2, l3, kil l4, .int x] st h Q := T_istore c178_36 (Nat.le_of_ble_eq_true rfl)
theorem c178_38 : cod 178 38 = some (.iload 5, 2) := cod_of b178 dX8_round_38
theorem t178_38 {d : Nat} {h : Hp} {Q : Pst} {l0 l1 l2 l3 l4 : Value} {x : Int32} {st : List Value} : T d 178 38 [l0, l1, l2, l3, l4, .int x] st h Q ↔ T d 178 40 [l0, l1, l2, l3, l4, .int x] (.int x :: st) h Q := T_iload c178_38 rfl
theorem c178_40 : cod 178 40 = some (.aload_n 0, 1) := cod_of b178 dX8_round_40
theorem t178_40 {d : Nat} {h : Hp} {Q : Pst} {l1 l2 l3 l4 l5 : Value} {x : Nat} {st : List Value} : T d 178 40 [.ref x, l1, l2, l3, l4, l5] st h Q ↔ T d 178 41 [.ref x, l1, l2, l3, l4, l5] (.ref x :: st) h Q := T_aload_n c178_40 rfl
theorem c178_41 : cod 178 41 = some (.getfield 7, 3) := cod_of b178 dX8_round_41
theorem t178_41 {d : Nat} {h : Hp} {Q : Pst} {a : Nat} {ls : List Value} {st : List Value} : T d 178 41 ls (.ref a :: st) h Q ↔ gF (h.2.2 a) 7 0 (fun v => T d 178 44 ls (v :: st) h Q) := T_getfieldR m178 c178_41 f8_7
theorem c178_44 : cod 178 44 = some (.bipush 25, 2) := cod_of b178 dX8_round_44
theorem t178_44 {d : Nat} {h : Hp} {Q : Pst} {ls : List Value} {st : List Value} : T d 178 44 ls st h Q ↔ T d 178 46 ls (.int 25 :: st) h Q := T_bipushV c178_44 (by decide)
theorem c178_46 : cod 178 46 = some (.iaload, 1) := cod_of b178 dX8_round_46
theorem t178_46 {d : Nat} {h : Hp} {Q : Pst} {a : Nat} {i : Int32} {ls : List Value} {st : List Value} : T d 178 46 ls (.int i :: .ref a :: st) h Q ↔ aL (h.2.2 a) i (fun x => T d 178 47 ls (.int x :: st) h Q) := T_iaload c178_46
theorem c178_47 : cod 178 47 = some (.if_icmp .ge 41, 3) := cod_of b178 dX8_round_47
theorem t178_47 {d : Nat} {h : Hp} {Q : Pst} {x y : Int32} {ls : List Value} {st : List Value} : T d 178 47 ls (.int y :: .int x :: st) h Q ↔ (if y ≤ x then T d 178 88 ls st h Q else T d 178 50 ls st h Q) := T_icmp_ge c178_47 (by decide)
theorem c178_50 : cod 178 50 = some (.iload 4, 2) := cod_of b178 dX8_round_50
theorem t178_50 {d : Nat} {h : Hp} {Q : Pst} {l0 l1 l2 l3 l5 : Value} {x : Int32} {st : List Value} : T d 178 50 [l0, l1, l2, l3, .int x, l5] st h Q ↔ T d 178 52 [l0, l1, l2, l3, .int x, l5] (.int x :: st) h Q := T_iload c178_50 rfl
theorem c178_52 : cod 178 52 = some (.iload_n 3, 1) := cod_of b178 dX8_round_52
theorem t178_52 {d : Nat} {h : Hp} {Q : Pst} {l0 l1 l2 l4 l5 : Value} {x : Int32} {st : List Value} : T d 178 52 [l0, l1, l2, .int x, l4, l5] st h Q ↔ T d 178 53 [l0, l1, l2, .int x, l4, l5] (.int x :: st) h Q := T_iload_n c178_52 rfl
theorem c178_53 : cod 178 53 = some (.iload 5, 2) := cod_of b178 dX8_round_53
theorem t178_53 {d : Nat} {h : Hp} {Q : Pst} {l0 l1 l2 l3 l4 : Value} {x : Int32} {st : List Value} : T d 178 53 [l0, l1, l2, l3, l4, .int x] st h Q ↔ T d 178 55 [l0, l1, l2, l3, l4, .int x] (.int x :: st) h Q := T_iload c178_53 rfl
theorem c178_55 : cod 178 55 = some (.invokestatic 172, 3) := cod_of b178 dX8_round_55
theorem t178_55 {d : Nat} {h : Hp} {Q : Pst} {a0 a1 s0 : Int32} {ls : List Value} : T (d + 1) 178 55 ls [.int a1, .int a0, .int s0] h Q ↔ T d 127 0 [.int a0, .int a1] [] h (fun x h2 => T (d + 1) 178 58 ls (rl x [.int s0]) h2 Q) := T_staticR (as := [.int a0, .int a1]) (r := [.int s0]) m178 m127 c178_55 k8_172 (Or.inl rfl) rfl (by decide) rfl (by simp [wrd, Value.category]) (by simp [stk, Value.category]) rfl
theorem c178_58 : cod 178 58 = some (.ifCond .eq 20, 3) := cod_of b178 dX8_round_58
theorem t178_58 {d : Nat} {h : Hp} {Q : Pst} {x : Int32} {ls : List Value} {st : List Value} : T d 178 58 ls (.int x :: st) h Q ↔ (if x = 0 then T d 178 78 ls st h Q else T d 178 61 ls st h Q) := T_if_eq c178_58 (by decide)
theorem c178_61 : cod 178 61 = some (.aload_n 0, 1) := cod_of b178 dX8_round_61
theorem t178_61 {d : Nat} {h : Hp} {Q : Pst} {l1 l2 l3 l4 l5 : Value} {x : Nat} {st : List Value} : T d 178 61 [.ref x, l1, l2, l3, l4, l5] st h Q ↔ T d 178 62 [.ref x, l1, l2, l3, l4, l5] (.ref x :: st) h Q := T_aload_n c178_61 rfl
theorem c178_62 : cod 178 62 = some (.iload_n 1, 1) := cod_of b178 dX8_round_62
theorem t178_62 {d : Nat} {h : Hp} {Q : Pst} {l0 l2 l3 l4 l5 : Value} {x : Int32} {st : List Value} : T d 178 62 [l0, .int x, l2, l3, l4, l5] st h Q ↔ T d 178 63 [l0, .int x, l2, l3, l4, l5] (.int x :: st) h Q := T_iload_n c178_62 rfl
theorem c178_63 : cod 178 63 = some (.iload 5, 2) := cod_of b178 dX8_round_63
theorem t178_63 {d : Nat} {h : Hp} {Q : Pst} {l0 l1 l2 l3 l4 : Value} {x : Int32} {st : List Value} : T d 178 63 [l0, l1, l2, l3, l4, .int x] st h Q ↔ T d 178 65 [l0, l1, l2, l3, l4, .int x] (.int x :: st) h Q := T_iload c178_63 rfl
theorem c178_65 : cod 178 65 = some (.aload_n 0, 1) := cod_of b178 dX8_round_65
theorem t178_65 {d : Nat} {h : Hp} {Q : Pst} {l1 l2 l3 l4 l5 : Value} {x : Nat} {st : List Value} : T d 178 65 [.ref x, l1, l2, l3, l4, l5] st h Q ↔ T d 178 66 [.ref x, l1, l2, l3, l4, l5] (.ref x :: st) h Q := T_aload_n c178_65 rfl
theorem c178_66 : cod 178 66 = some (.getfield 7, 3) := cod_of b178 dX8_round_66
theorem t178_66 {d : Nat} {h : Hp} {Q : Pst} {a : Nat} {ls : List Value} {st : List Value} : T d 178 66 ls (.ref a :: st) h Q ↔ gF (h.2.2 a) 7 0 (fun v => T d 178 69 ls (v :: st) h Q) := T_getfieldR m178 c178_66 f8_7
theorem c178_69 : cod 178 69 = some (.bipush 10, 2) := cod_of b178 dX8_round_69
theorem t178_69 {d : Nat} {h : Hp} {Q : Pst} {ls : List Value} {st : List Value} : T d 178 69 ls st h Q ↔ T d 178 71 ls (.int 10 :: st) h Q := T_bipushV c178_69 (by decide)
theorem c178_71 : cod 178 71 = some (.iaload, 1) := cod_of b178 dX8_round_71
theorem t178_71 {d : Nat} {h : Hp} {Q : Pst} {a : Nat} {i : Int32} {ls : List Value} {st : List Value} : T d 178 71 ls (.int i :: .ref a :: st) h Q ↔ aL (h.2.2 a) i (fun x => T d 178 72 ls (.int x :: st) h Q) := T_iaload c178_71
theorem c178_72 : cod 178 72 = some (.invokevirtual 145, 3) := cod_of b178 dX8_round_72
theorem t178_72 {d : Nat} {h : Hp} {Q : Pst} {a0 a1 a2 s0 : Int32} {a : Nat} {ls : List Value} (ho : isO (h.2.2 a) 7) : T (d + 1) 178 72 ls [.int a2, .int a1, .int a0, .ref a, .int s0] h Q ↔ T d 157 0 [.ref a, .int a0, .int a1, .int a2] [] h (fun x h2 => T (d + 1) 178 75 ls (rl x [.int s0]) h2 Q) := T_virtualR (as := [.int a0, .int a1, .int a2]) (r := [.int s0]) m178 m157 c178_72 k8_145  rfl (by decide) rfl (by simp [wrd, Value.category]) (by simp [stk, Value.category]) rfl (by decide +kernel) ho
theorem c178_75 : cod 178 75 = some (.goto 4, 3) := cod_of b178 dX8_round_75
theorem t178_75 {d : Nat} {h : Hp} {Q : Pst} {ls : List Value} {st : List Value} : T d 178 75 ls st h Q ↔ T d 178 79 ls st h Q := T_goto c178_75 (by decide)
theorem c178_79 : cod 178 79 = some (.ior, 1) := cod_of b178 dX8_round_79
theorem t178_79 {d : Nat} {h : Hp} {Q : Pst} {x y : Int32} {ls : List Value} {st : List Value} : T d 178 79 ls (.int y :: .int x :: st) h Q ↔ T d 178 80 ls (.int (x ||| y) :: st) h Q := T_ior c178_79
theorem c178_80 : cod 178 80 = some (.istore 4, 2) := cod_of b178 dX8_round_80
theorem t178_80 {d : Nat} {h : Hp} {Q : Pst} {l0 l1 l2 l3 l4 l5 : Value} {x : Int32} {st : List Value} : T d 178 80 [l0, l1, l2, l3, l4, l5] (.int x :: st) h Q ↔ T d 178 82 [l0, l1, l2, kil l3, .int x, l5] st h Q := T_istore c178_80 (Nat.le_of_ble_eq_true rfl)
theorem c178_82 : cod 178 82 = some (.iinc 5 1, 3) := cod_of b178 dX8_round_82
theorem t178_82 {d : Nat} {h : Hp} {Q : Pst} {l0 l1 l2 l3 l4 : Value} {x : Int32} {st : List Value} : T d 178 82 [l0, l1, l2, l3, l4, .int x] st h Q ↔ T d 178 85 [l0, l1, l2, l3, kil l4, .int (x + 1)] st h Q := T_iincV c178_82 rfl (Nat.le_of_ble_eq_true rfl) (by decide) rfl
theorem c178_85 : cod 178 85 = some (.goto (-47), 3) := cod_of b178 dX8_round_85
theorem t178_85 {d : Nat} {h : Hp} {Q : Pst} {ls : List Value} {st : List Value} : T d 178 85 ls st h Q ↔ T d 178 38 ls st h Q := T_goto c178_85 (by decide)
theorem c178_78 : cod 178 78 = some (.iconst 0, 1) := cod_of b178 dX8_round_78
theorem t178_78 {d : Nat} {h : Hp} {Q : Pst} {ls : List Value} {st : List Value} : T d 178 78 ls st h Q ↔ T d 178 79 ls (.int 0 :: st) h Q := T_iconstV c178_78 (by decide)
theorem c178_88 : cod 178 88 = some (.iload 4, 2) := cod_of b178 dX8_round_88
theorem t178_88 {d : Nat} {h : Hp} {Q : Pst} {l0 l1 l2 l3 l5 : Value} {x : Int32} {st : List Value} : T d 178 88 [l0, l1, l2, l3, .int x, l5] st h Q ↔ T d 178 90 [l0, l1, l2, l3, .int x, l5] (.int x :: st) h Q := T_iload c178_88 rfl
theorem c178_90 : cod 178 90 = some (.bipush 31, 2) := cod_of b178 dX8_round_90
theorem t178_90 {d : Nat} {h : Hp} {Q : Pst} {ls : List Value} {st : List Value} : T d 178 90 ls st h Q ↔ T d 178 92 ls (.int 31 :: st) h Q := T_bipushV c178_90 (by decide)
theorem c178_92 : cod 178 92 = some (.if_icmp .ne 23, 3) := cod_of b178 dX8_round_92
theorem t178_92 {d : Nat} {h : Hp} {Q : Pst} {x y : Int32} {ls : List Value} {st : List Value} : T d 178 92 ls (.int y :: .int x :: st) h Q ↔ (if ¬ x = y then T d 178 115 ls st h Q else T d 178 95 ls st h Q) := T_icmp_ne c178_92 (by decide)
theorem c178_95 : cod 178 95 = some (.iload_n 2, 1) := cod_of b178 dX8_round_95
theorem t178_95 {d : Nat} {h : Hp} {Q : Pst} {l0 l1 l3 l4 l5 : Value} {x : Int32} {st : List Value} : T d 178 95 [l0, l1, .int x, l3, l4, l5] st h Q ↔ T d 178 96 [l0, l1, .int x, l3, l4, l5] (.int x :: st) h Q := T_iload_n c178_95 rfl
theorem c178_96 : cod 178 96 = some (.iconst (-1), 1) := cod_of b178 dX8_round_96
theorem t178_96 {d : Nat} {h : Hp} {Q : Pst} {ls : List Value} {st : List Value} : T d 178 96 ls st h Q ↔ T d 178 97 ls (.int (-1) :: st) h Q := T_iconstV c178_96 (by decide)
theorem c178_97 : cod 178 97 = some (.if_icmp .eq 14, 3) := cod_of b178 dX8_round_97
theorem t178_97 {d : Nat} {h : Hp} {Q : Pst} {x y : Int32} {ls : List Value} {st : List Value} : T d 178 97 ls (.int y :: .int x :: st) h Q ↔ (if x = y then T d 178 111 ls st h Q else T d 178 100 ls st h Q) := T_icmp_eq c178_97 (by decide)
theorem c178_100 : cod 178 100 = some (.iload_n 3, 1) := cod_of b178 dX8_round_100
theorem t178_100 {d : Nat} {h : Hp} {Q : Pst} {l0 l1 l2 l4 l5 : Value} {x : Int32} {st : List Value} : T d 178 100 [l0, l1, l2, .int x, l4, l5] st h Q ↔ T d 178 101 [l0, l1, l2, .int x, l4, l5] (.int x :: st) h Q := T_iload_n c178_100 rfl
theorem c178_101 : cod 178 101 = some (.invokestatic 148, 3) := cod_of b178 dX8_round_101
theorem t178_101 {d : Nat} {h : Hp} {Q : Pst} {a0 : Int32} {ls : List Value} : T (d + 1) 178 101 ls [.int a0] h Q ↔ T d 128 0 [.int a0, un, un] [] h (fun x h2 => T (d + 1) 178 104 ls (rl x []) h2 Q) := T_staticR (as := [.int a0]) (r := []) m178 m128 c178_101 k8_148 (Or.inl rfl) rfl (by decide) rfl (by simp [wrd, Value.category]) (by simp [stk, Value.category]) rfl
theorem c178_104 : cod 178 104 = some (.iload_n 2, 1) := cod_of b178 dX8_round_104
theorem t178_104 {d : Nat} {h : Hp} {Q : Pst} {l0 l1 l3 l4 l5 : Value} {x : Int32} {st : List Value} : T d 178 104 [l0, l1, .int x, l3, l4, l5] st h Q ↔ T d 178 105 [l0, l1, .int x, l3, l4, l5] (.int x :: st) h Q := T_iload_n c178_104 rfl
theorem c178_105 : cod 178 105 = some (.invokestatic 148, 3) := cod_of b178 dX8_round_105
theorem t178_105 {d : Nat} {h : Hp} {Q : Pst} {a0 s0 : Int32} {ls : List Value} : T (d + 1) 178 105 ls [.int a0, .int s0] h Q ↔ T d 128 0 [.int a0, un, un] [] h (fun x h2 => T (d + 1) 178 108 ls (rl x [.int s0]) h2 Q) := T_staticR (as := [.int a0]) (r := [.int s0]) m178 m128 c178_105 k8_148 (Or.inl rfl) rfl (by decide) rfl (by simp [wrd, Value.category]) (by simp [stk, Value.category]) rfl
theorem c178_108 : cod 178 108 = some (.if_icmp .ge 7, 3) := cod_of b178 dX8_round_108
theorem t178_108 {d : Nat} {h : Hp} {Q : Pst} {x y : Int32} {ls : List Value} {st : List Value} : T d 178 108 ls (.int y :: .int x :: st) h Q ↔ (if y ≤ x then T d 178 115 ls st h Q else T d 178 111 ls st h Q) := T_icmp_ge c178_108 (by decide)
theorem c178_111 : cod 178 111 = some (.iload_n 3, 1) := cod_of b178 dX8_round_111
theorem t178_111 {d : Nat} {h : Hp} {Q : Pst} {l0 l1 l2 l4 l5 : Value} {x : Int32} {st : List Value} : T d 178 111 [l0, l1, l2, .int x, l4, l5] st h Q ↔ T d 178 112 [l0, l1, l2, .int x, l4, l5] (.int x :: st) h Q := T_iload_n c178_111 rfl
theorem c178_112 : cod 178 112 = some (.goto 4, 3) := cod_of b178 dX8_round_112
theorem t178_112 {d : Nat} {h : Hp} {Q : Pst} {ls : List Value} {st : List Value} : T d 178 112 ls st h Q ↔ T d 178 116 ls st h Q := T_goto c178_112 (by decide)
theorem c178_116 : cod 178 116 = some (.istore_n 2, 1) := cod_of b178 dX8_round_116
theorem t178_116 {d : Nat} {h : Hp} {Q : Pst} {l0 l1 l2 l3 l4 l5 : Value} {x : Int32} {st : List Value} : T d 178 116 [l0, l1, l2, l3, l4, l5] (.int x :: st) h Q ↔ T d 178 117 [l0, kil l1, .int x, l3, l4, l5] st h Q := T_istore_n c178_116 (Nat.le_of_ble_eq_true rfl)
theorem c178_117 : cod 178 117 = some (.iinc 3 1, 3) := cod_of b178 dX8_round_117
theorem t178_117 {d : Nat} {h : Hp} {Q : Pst} {l0 l1 l2 l4 l5 : Value} {x : Int32} {st : List Value} : T d 178 117 [l0, l1, l2, .int x, l4, l5] st h Q ↔ T d 178 120 [l0, l1, kil l2, .int (x + 1), l4, l5] st h Q := T_iincV c178_117 rfl (Nat.le_of_ble_eq_true rfl) (by decide) rfl
theorem c178_120 : cod 178 120 = some (.goto (-101), 3) := cod_of b178 dX8_round_120
theorem t178_120 {d : Nat} {h : Hp} {Q : Pst} {ls : List Value} {st : List Value} : T d 178 120 ls st h Q ↔ T d 178 19 ls st h Q := T_goto c178_120 (by decide)
theorem c178_115 : cod 178 115 = some (.iload_n 2, 1) := cod_of b178 dX8_round_115
theorem t178_115 {d : Nat} {h : Hp} {Q : Pst} {l0 l1 l3 l4 l5 : Value} {x : Int32} {st : List Value} : T d 178 115 [l0, l1, .int x, l3, l4, l5] st h Q ↔ T d 178 116 [l0, l1, .int x, l3, l4, l5] (.int x :: st) h Q := T_iload_n c178_115 rfl
theorem c178_123 : cod 178 123 = some (.iload_n 2, 1) := cod_of b178 dX8_round_123
theorem t178_123 {d : Nat} {h : Hp} {Q : Pst} {l0 l1 l3 l4 l5 : Value} {x : Int32} {st : List Value} : T d 178 123 [l0, l1, .int x, l3, l4, l5] st h Q ↔ T d 178 124 [l0, l1, .int x, l3, l4, l5] (.int x :: st) h Q := T_iload_n c178_123 rfl
theorem c178_124 : cod 178 124 = some (.ireturn, 1) := cod_of b178 dX8_round_124
theorem t178_124 {d : Nat} {h : Hp} {Q : Pst} {x : Int32} {ls : List Value} : T d 178 124 ls [.int x] h Q ↔ Q (some (.int x)) h := T_iretR m178 c178_124 rfl
theorem b179 : (mR 179).2.2.1 = cX8_mesh := by rw [m179]
theorem c179_0 : cod 179 0 = some (.aload_n 0, 1) := cod_of b179 dX8_mesh_0
theorem t179_0 {d : Nat} {h : Hp} {Q : Pst} {l1 l2 l3 l4 : Value} {x : Nat} {st : List Value} : T d 179 0 [.ref x, l1, l2, l3, l4] st h Q ↔ T d 179 1 [.ref x, l1, l2, l3, l4] (.ref x :: st) h Q := T_aload_n c179_0 rfl
theorem c179_1 : cod 179 1 = some (.iload_n 1, 1) := cod_of b179 dX8_mesh_1
theorem t179_1 {d : Nat} {h : Hp} {Q : Pst} {l0 l2 l3 l4 : Value} {x : Int32} {st : List Value} : T d 179 1 [l0, .int x, l2, l3, l4] st h Q ↔ T d 179 2 [l0, .int x, l2, l3, l4] (.int x :: st) h Q := T_iload_n c179_1 rfl
theorem c179_2 : cod 179 2 = some (.invokevirtual 157, 3) := cod_of b179 dX8_mesh_2
theorem t179_2 {d : Nat} {h : Hp} {Q : Pst} {a0 : Int32} {a : Nat} {ls : List Value} (ho : isO (h.2.2 a) 7) : T (d + 1) 179 2 ls [.int a0, .ref a] h Q ↔ T d 163 0 [.ref a, .int a0] [] h (fun x h2 => T (d + 1) 179 5 ls (rl x []) h2 Q) := T_virtualR (as := [.int a0]) (r := []) m179 m163 c179_2 k8_157  rfl (by decide) rfl (by simp [wrd, Value.category]) (by simp [stk, Value.category]) rfl (by decide +kernel) ho
theorem c179_5 : cod 179 5 = some (.ifCond .eq 20, 3) := cod_of b179 dX8_mesh_5
theorem t179_5 {d : Nat} {h : Hp} {Q : Pst} {x : Int32} {ls : List Value} {st : List Value} : T d 179 5 ls (.int x :: st) h Q ↔ (if x = 0 then T d 179 25 ls st h Q else T d 179 8 ls st h Q) := T_if_eq c179_5 (by decide)
theorem c179_8 : cod 179 8 = some (.aload_n 0, 1) := cod_of b179 dX8_mesh_8
theorem t179_8 {d : Nat} {h : Hp} {Q : Pst} {l1 l2 l3 l4 : Value} {x : Nat} {st : List Value} : T d 179 8 [.ref x, l1, l2, l3, l4] st h Q ↔ T d 179 9 [.ref x, l1, l2, l3, l4] (.ref x :: st) h Q := T_aload_n c179_8 rfl
theorem c179_9 : cod 179 9 = some (.iload_n 2, 1) := cod_of b179 dX8_mesh_9
theorem t179_9 {d : Nat} {h : Hp} {Q : Pst} {l0 l1 l3 l4 : Value} {x : Int32} {st : List Value} : T d 179 9 [l0, l1, .int x, l3, l4] st h Q ↔ T d 179 10 [l0, l1, .int x, l3, l4] (.int x :: st) h Q := T_iload_n c179_9 rfl
theorem c179_10 : cod 179 10 = some (.invokevirtual 160, 3) := cod_of b179 dX8_mesh_10
theorem t179_10 {d : Nat} {h : Hp} {Q : Pst} {a0 : Int32} {a : Nat} {ls : List Value} (ho : isO (h.2.2 a) 7) : T (d + 1) 179 10 ls [.int a0, .ref a] h Q ↔ T d 164 0 [.ref a, .int a0] [] h (fun x h2 => T (d + 1) 179 13 ls (rl x []) h2 Q) := T_virtualR (as := [.int a0]) (r := []) m179 m164 c179_10 k8_160  rfl (by decide) rfl (by simp [wrd, Value.category]) (by simp [stk, Value.category]) rfl (by decide +kernel) ho
theorem c179_13 : cod 179 13 = some (.ifCond .eq 12, 3) := cod_of b179 dX8_mesh_13
theorem t179_13 {d : Nat} {h : Hp} {Q : Pst} {x : Int32} {ls : List Value} {st : List Value} : T d 179 13 ls (.int x :: st) h Q ↔ (if x = 0 then T d 179 25 ls st h Q else T d 179 16 ls st h Q) := T_if_eq c179_13 (by decide)
theorem c179_16 : cod 179 16 = some (.iload_n 3, 1) := cod_of b179 dX8_mesh_16
theorem t179_16 {d : Nat} {h : Hp} {Q : Pst} {l0 l1 l2 l4 : Value} {x : Int32} {st : List Value} : T d 179 16 [l0, l1, l2, .int x, l4] st h Q ↔ T d 179 17 [l0, l1, l2, .int x, l4] (.int x :: st) h Q := T_iload_n c179_16 rfl
theorem c179_17 : cod 179 17 = some (.iconst 0, 1) := cod_of b179 dX8_mesh_17
theorem t179_17 {d : Nat} {h : Hp} {Q : Pst} {ls : List Value} {st : List Value} : T d 179 17 ls st h Q ↔ T d 179 18 ls (.int 0 :: st) h Q := T_iconstV c179_17 (by decide)
theorem c179_18 : cod 179 18 = some (.iconst 5, 1) := cod_of b179 dX8_mesh_18
theorem t179_18 {d : Nat} {h : Hp} {Q : Pst} {ls : List Value} {st : List Value} : T d 179 18 ls st h Q ↔ T d 179 19 ls (.int 5 :: st) h Q := T_iconstV c179_18 (by decide)
theorem c179_19 : cod 179 19 = some (.invokestatic 49, 3) := cod_of b179 dX8_mesh_19
theorem t179_19 {d : Nat} {h : Hp} {Q : Pst} {a0 a1 a2 : Int32} {ls : List Value} : T (d + 1) 179 19 ls [.int a2, .int a1, .int a0] h Q ↔ T d 126 0 [.int a0, .int a1, .int a2] [] h (fun x h2 => T (d + 1) 179 22 ls (rl x []) h2 Q) := T_staticR (as := [.int a0, .int a1, .int a2]) (r := []) m179 m126 c179_19 k8_49 (Or.inl rfl) rfl (by decide) rfl (by simp [wrd, Value.category]) (by simp [stk, Value.category]) rfl
theorem c179_22 : cod 179 22 = some (.ifCond .ne 10, 3) := cod_of b179 dX8_mesh_22
theorem t179_22 {d : Nat} {h : Hp} {Q : Pst} {x : Int32} {ls : List Value} {st : List Value} : T d 179 22 ls (.int x :: st) h Q ↔ (if ¬ x = 0 then T d 179 32 ls st h Q else T d 179 25 ls st h Q) := T_if_ne c179_22 (by decide)
theorem c179_32 : cod 179 32 = some (.bipush 30, 2) := cod_of b179 dX8_mesh_32
theorem t179_32 {d : Nat} {h : Hp} {Q : Pst} {ls : List Value} {st : List Value} : T d 179 32 ls st h Q ↔ T d 179 34 ls (.int 30 :: st) h Q := T_bipushV c179_32 (by decide)
theorem c179_34 : cod 179 34 = some (.istore 4, 2) := cod_of b179 dX8_mesh_34
theorem t179_34 {d : Nat} {h : Hp} {Q : Pst} {l0 l1 l2 l3 l4 : Value} {x : Int32} {st : List Value} : T d 179 34 [l0, l1, l2, l3, l4] (.int x :: st) h Q ↔ T d 179 36 [l0, l1, l2, kil l3, .int x] st h Q := T_istore c179_34 (Nat.le_of_ble_eq_true rfl)
theorem c179_36 : cod 179 36 = some (.iload 4, 2) := cod_of b179 dX8_mesh_36
theorem t179_36 {d : Nat} {h : Hp} {Q : Pst} {l0 l1 l2 l3 : Value} {x : Int32} {st : List Value} : T d 179 36 [l0, l1, l2, l3, .int x] st h Q ↔ T d 179 38 [l0, l1, l2, l3, .int x] (.int x :: st) h Q := T_iload c179_36 rfl
theorem c179_38 : cod 179 38 = some (.ifCond .le 61, 3) := cod_of b179 dX8_mesh_38
theorem t179_38 {d : Nat} {h : Hp} {Q : Pst} {x : Int32} {ls : List Value} {st : List Value} : T d 179 38 ls (.int x :: st) h Q ↔ (if x ≤ 0 then T d 179 99 ls st h Q else T d 179 41 ls st h Q) := T_if_le c179_38 (by decide)
theorem c179_41 : cod 179 41 = some (.aload_n 0, 1) := cod_of b179 dX8_mesh_41
theorem t179_41 {d : Nat} {h : Hp} {Q : Pst} {l1 l2 l3 l4 : Value} {x : Nat} {st : List Value} : T d 179 41 [.ref x, l1, l2, l3, l4] st h Q ↔ T d 179 42 [.ref x, l1, l2, l3, l4] (.ref x :: st) h Q := T_aload_n c179_41 rfl
theorem c179_42 : cod 179 42 = some (.getfield 7, 3) := cod_of b179 dX8_mesh_42
theorem t179_42 {d : Nat} {h : Hp} {Q : Pst} {a : Nat} {ls : List Value} {st : List Value} : T d 179 42 ls (.ref a :: st) h Q ↔ gF (h.2.2 a) 7 0 (fun v => T d 179 45 ls (v :: st) h Q) := T_getfieldR m179 c179_42 f8_7
theorem c179_45 : cod 179 45 = some (.bipush 13, 2) := cod_of b179 dX8_mesh_45
theorem t179_45 {d : Nat} {h : Hp} {Q : Pst} {ls : List Value} {st : List Value} : T d 179 45 ls st h Q ↔ T d 179 47 ls (.int 13 :: st) h Q := T_bipushV c179_45 (by decide)
theorem c179_47 : cod 179 47 = some (.iload_n 1, 1) := cod_of b179 dX8_mesh_47
theorem t179_47 {d : Nat} {h : Hp} {Q : Pst} {l0 l2 l3 l4 : Value} {x : Int32} {st : List Value} : T d 179 47 [l0, .int x, l2, l3, l4] st h Q ↔ T d 179 48 [l0, .int x, l2, l3, l4] (.int x :: st) h Q := T_iload_n c179_47 rfl
theorem c179_48 : cod 179 48 = some (.iadd, 1) := cod_of b179 dX8_mesh_48
theorem t179_48 {d : Nat} {h : Hp} {Q : Pst} {x y : Int32} {ls : List Value} {st : List Value} : T d 179 48 ls (.int y :: .int x :: st) h Q ↔ T d 179 49 ls (.int (x + y) :: st) h Q := T_iadd c179_48
theorem c179_49 : cod 179 49 = some (.iaload, 1) := cod_of b179 dX8_mesh_49
theorem t179_49 {d : Nat} {h : Hp} {Q : Pst} {a : Nat} {i : Int32} {ls : List Value} {st : List Value} : T d 179 49 ls (.int i :: .ref a :: st) h Q ↔ aL (h.2.2 a) i (fun x => T d 179 50 ls (.int x :: st) h Q) := T_iaload c179_49
theorem c179_50 : cod 179 50 = some (.aload_n 0, 1) := cod_of b179 dX8_mesh_50
theorem t179_50 {d : Nat} {h : Hp} {Q : Pst} {l1 l2 l3 l4 : Value} {x : Nat} {st : List Value} : T d 179 50 [.ref x, l1, l2, l3, l4] st h Q ↔ T d 179 51 [.ref x, l1, l2, l3, l4] (.ref x :: st) h Q := T_aload_n c179_50 rfl
theorem c179_51 : cod 179 51 = some (.getfield 7, 3) := cod_of b179 dX8_mesh_51
theorem t179_51 {d : Nat} {h : Hp} {Q : Pst} {a : Nat} {ls : List Value} {st : List Value} : T d 179 51 ls (.ref a :: st) h Q ↔ gF (h.2.2 a) 7 0 (fun v => T d 179 54 ls (v :: st) h Q) := T_getfieldR m179 c179_51 f8_7
theorem c179_54 : cod 179 54 = some (.bipush 19, 2) := cod_of b179 dX8_mesh_54
theorem t179_54 {d : Nat} {h : Hp} {Q : Pst} {ls : List Value} {st : List Value} : T d 179 54 ls st h Q ↔ T d 179 56 ls (.int 19 :: st) h Q := T_bipushV c179_54 (by decide)
theorem c179_56 : cod 179 56 = some (.iload_n 1, 1) := cod_of b179 dX8_mesh_56
theorem t179_56 {d : Nat} {h : Hp} {Q : Pst} {l0 l2 l3 l4 : Value} {x : Int32} {st : List Value} : T d 179 56 [l0, .int x, l2, l3, l4] st h Q ↔ T d 179 57 [l0, .int x, l2, l3, l4] (.int x :: st) h Q := T_iload_n c179_56 rfl
theorem c179_57 : cod 179 57 = some (.iadd, 1) := cod_of b179 dX8_mesh_57
theorem t179_57 {d : Nat} {h : Hp} {Q : Pst} {x y : Int32} {ls : List Value} {st : List Value} : T d 179 57 ls (.int y :: .int x :: st) h Q ↔ T d 179 58 ls (.int (x + y) :: st) h Q := T_iadd c179_57
theorem c179_58 : cod 179 58 = some (.iaload, 1) := cod_of b179 dX8_mesh_58
theorem t179_58 {d : Nat} {h : Hp} {Q : Pst} {a : Nat} {i : Int32} {ls : List Value} {st : List Value} : T d 179 58 ls (.int i :: .ref a :: st) h Q ↔ aL (h.2.2 a) i (fun x => T d 179 59 ls (.int x :: st) h Q) := T_iaload c179_58
theorem c179_59 : cod 179 59 = some (.aload_n 0, 1) := cod_of b179 dX8_mesh_59
theorem t179_59 {d : Nat} {h : Hp} {Q : Pst} {l1 l2 l3 l4 : Value} {x : Nat} {st : List Value} : T d 179 59 [.ref x, l1, l2, l3, l4] st h Q ↔ T d 179 60 [.ref x, l1, l2, l3, l4] (.ref x :: st) h Q := T_aload_n c179_59 rfl
theorem c179_60 : cod 179 60 = some (.getfield 7, 3) := cod_of b179 dX8_mesh_60
theorem t179_60 {d : Nat} {h : Hp} {Q : Pst} {a : Nat} {ls : List Value} {st : List Value} : T d 179 60 ls (.ref a :: st) h Q ↔ gF (h.2.2 a) 7 0 (fun v => T d 179 63 ls (v :: st) h Q) := T_getfieldR m179 c179_60 f8_7
theorem c179_63 : cod 179 63 = some (.bipush 26, 2) := cod_of b179 dX8_mesh_63
theorem t179_63 {d : Nat} {h : Hp} {Q : Pst} {ls : List Value} {st : List Value} : T d 179 63 ls st h Q ↔ T d 179 65 ls (.int 26 :: st) h Q := T_bipushV c179_63 (by decide)
theorem c179_65 : cod 179 65 = some (.iload_n 2, 1) := cod_of b179 dX8_mesh_65
theorem t179_65 {d : Nat} {h : Hp} {Q : Pst} {l0 l1 l3 l4 : Value} {x : Int32} {st : List Value} : T d 179 65 [l0, l1, .int x, l3, l4] st h Q ↔ T d 179 66 [l0, l1, .int x, l3, l4] (.int x :: st) h Q := T_iload_n c179_65 rfl
theorem c179_66 : cod 179 66 = some (.iadd, 1) := cod_of b179 dX8_mesh_66
theorem t179_66 {d : Nat} {h : Hp} {Q : Pst} {x y : Int32} {ls : List Value} {st : List Value} : T d 179 66 ls (.int y :: .int x :: st) h Q ↔ T d 179 67 ls (.int (x + y) :: st) h Q := T_iadd c179_66
theorem c179_67 : cod 179 67 = some (.iaload, 1) := cod_of b179 dX8_mesh_67
theorem t179_67 {d : Nat} {h : Hp} {Q : Pst} {a : Nat} {i : Int32} {ls : List Value} {st : List Value} : T d 179 67 ls (.int i :: .ref a :: st) h Q ↔ aL (h.2.2 a) i (fun x => T d 179 68 ls (.int x :: st) h Q) := T_iaload c179_67
theorem c179_68 : cod 179 68 = some (.iload 4, 2) := cod_of b179 dX8_mesh_68
theorem t179_68 {d : Nat} {h : Hp} {Q : Pst} {l0 l1 l2 l3 : Value} {x : Int32} {st : List Value} : T d 179 68 [l0, l1, l2, l3, .int x] st h Q ↔ T d 179 70 [l0, l1, l2, l3, .int x] (.int x :: st) h Q := T_iload c179_68 rfl
theorem c179_70 : cod 179 70 = some (.aload_n 0, 1) := cod_of b179 dX8_mesh_70
theorem t179_70 {d : Nat} {h : Hp} {Q : Pst} {l1 l2 l3 l4 : Value} {x : Nat} {st : List Value} : T d 179 70 [.ref x, l1, l2, l3, l4] st h Q ↔ T d 179 71 [.ref x, l1, l2, l3, l4] (.ref x :: st) h Q := T_aload_n c179_70 rfl
theorem c179_71 : cod 179 71 = some (.getfield 7, 3) := cod_of b179 dX8_mesh_71
theorem t179_71 {d : Nat} {h : Hp} {Q : Pst} {a : Nat} {ls : List Value} {st : List Value} : T d 179 71 ls (.ref a :: st) h Q ↔ gF (h.2.2 a) 7 0 (fun v => T d 179 74 ls (v :: st) h Q) := T_getfieldR m179 c179_71 f8_7
theorem c179_74 : cod 179 74 = some (.bipush 10, 2) := cod_of b179 dX8_mesh_74
theorem t179_74 {d : Nat} {h : Hp} {Q : Pst} {ls : List Value} {st : List Value} : T d 179 74 ls st h Q ↔ T d 179 76 ls (.int 10 :: st) h Q := T_bipushV c179_74 (by decide)
theorem c179_76 : cod 179 76 = some (.iaload, 1) := cod_of b179 dX8_mesh_76
theorem t179_76 {d : Nat} {h : Hp} {Q : Pst} {a : Nat} {i : Int32} {ls : List Value} {st : List Value} : T d 179 76 ls (.int i :: .ref a :: st) h Q ↔ aL (h.2.2 a) i (fun x => T d 179 77 ls (.int x :: st) h Q) := T_iaload c179_76
theorem c179_77 : cod 179 77 = some (.invokestatic 136, 3) := cod_of b179 dX8_mesh_77
theorem t179_77 {d : Nat} {h : Hp} {Q : Pst} {a0 a1 a2 s0 s1 : Int32} {ls : List Value} : T (d + 1) 179 77 ls [.int a2, .int a1, .int a0, .int s0, .int s1] h Q ↔ T d 154 0 [.int a0, .int a1, .int a2, un, un] [] h (fun x h2 => T (d + 1) 179 80 ls (rl x [.int s0, .int s1]) h2 Q) := T_staticR (as := [.int a0, .int a1, .int a2]) (r := [.int s0, .int s1]) m179 m154 c179_77 k8_136 (Or.inl rfl) rfl (by decide) rfl (by simp [wrd, Value.category]) (by simp [stk, Value.category]) rfl
theorem c179_80 : cod 179 80 = some (.invokestatic 142, 3) := cod_of b179 dX8_mesh_80
theorem t179_80 {d : Nat} {h : Hp} {Q : Pst} {a0 a1 a2 : Int32} {ls : List Value} : T (d + 1) 179 80 ls [.int a2, .int a1, .int a0] h Q ↔ T d 155 0 [.int a0, .int a1, .int a2, un, un] [] h (fun x h2 => T (d + 1) 179 83 ls (rl x []) h2 Q) := T_staticR (as := [.int a0, .int a1, .int a2]) (r := []) m179 m155 c179_80 k8_142 (Or.inl rfl) rfl (by decide) rfl (by simp [wrd, Value.category]) (by simp [stk, Value.category]) rfl
theorem c179_83 : cod 179 83 = some (.invokestatic 148, 3) := cod_of b179 dX8_mesh_83
theorem t179_83 {d : Nat} {h : Hp} {Q : Pst} {a0 : Int32} {ls : List Value} : T (d + 1) 179 83 ls [.int a0] h Q ↔ T d 128 0 [.int a0, un, un] [] h (fun x h2 => T (d + 1) 179 86 ls (rl x []) h2 Q) := T_staticR (as := [.int a0]) (r := []) m179 m128 c179_83 k8_148 (Or.inl rfl) rfl (by decide) rfl (by simp [wrd, Value.category]) (by simp [stk, Value.category]) rfl
theorem c179_86 : cod 179 86 = some (.iload_n 3, 1) := cod_of b179 dX8_mesh_86
theorem t179_86 {d : Nat} {h : Hp} {Q : Pst} {l0 l1 l2 l4 : Value} {x : Int32} {st : List Value} : T d 179 86 [l0, l1, l2, .int x, l4] st h Q ↔ T d 179 87 [l0, l1, l2, .int x, l4] (.int x :: st) h Q := T_iload_n c179_86 rfl
theorem c179_87 : cod 179 87 = some (.if_icmp .lt 6, 3) := cod_of b179 dX8_mesh_87
theorem t179_87 {d : Nat} {h : Hp} {Q : Pst} {x y : Int32} {ls : List Value} {st : List Value} : T d 179 87 ls (.int y :: .int x :: st) h Q ↔ (if x < y then T d 179 93 ls st h Q else T d 179 90 ls st h Q) := T_icmp_lt c179_87 (by decide)
theorem c179_90 : cod 179 90 = some (.iload 4, 2) := cod_of b179 dX8_mesh_90
theorem t179_90 {d : Nat} {h : Hp} {Q : Pst} {l0 l1 l2 l3 : Value} {x : Int32} {st : List Value} : T d 179 90 [l0, l1, l2, l3, .int x] st h Q ↔ T d 179 92 [l0, l1, l2, l3, .int x] (.int x :: st) h Q := T_iload c179_90 rfl
theorem c179_92 : cod 179 92 = some (.ireturn, 1) := cod_of b179 dX8_mesh_92
theorem t179_92 {d : Nat} {h : Hp} {Q : Pst} {x : Int32} {ls : List Value} : T d 179 92 ls [.int x] h Q ↔ Q (some (.int x)) h := T_iretR m179 c179_92 rfl
theorem c179_93 : cod 179 93 = some (.iinc 4 (-1), 3) := cod_of b179 dX8_mesh_93
theorem t179_93 {d : Nat} {h : Hp} {Q : Pst} {l0 l1 l2 l3 : Value} {x : Int32} {st : List Value} : T d 179 93 [l0, l1, l2, l3, .int x] st h Q ↔ T d 179 96 [l0, l1, l2, kil l3, .int (x + (-1))] st h Q := T_iincV c179_93 rfl (Nat.le_of_ble_eq_true rfl) (by decide) rfl
theorem c179_96 : cod 179 96 = some (.goto (-60), 3) := cod_of b179 dX8_mesh_96
theorem t179_96 {d : Nat} {h : Hp} {Q : Pst} {ls : List Value} {st : List Value} : T d 179 96 ls st h Q ↔ T d 179 36 ls st h Q := T_goto c179_96 (by decide)
theorem c179_99 : cod 179 99 = some (.iconst (-1), 1) := cod_of b179 dX8_mesh_99
theorem t179_99 {d : Nat} {h : Hp} {Q : Pst} {ls : List Value} {st : List Value} : T d 179 99 ls st h Q ↔ T d 179 100 ls (.int (-1) :: st) h Q := T_iconstV c179_99 (by decide)
theorem c179_100 : cod 179 100 = some (.ireturn, 1) := cod_of b179 dX8_mesh_100
theorem t179_100 {d : Nat} {h : Hp} {Q : Pst} {x : Int32} {ls : List Value} : T d 179 100 ls [.int x] h Q ↔ Q (some (.int x)) h := T_iretR m179 c179_100 rfl
theorem c179_25 : cod 179 25 = some (.aload_n 0, 1) := cod_of b179 dX8_mesh_25
theorem t179_25 {d : Nat} {h : Hp} {Q : Pst} {l1 l2 l3 l4 : Value} {x : Nat} {st : List Value} : T d 179 25 [.ref x, l1, l2, l3, l4] st h Q ↔ T d 179 26 [.ref x, l1, l2, l3, l4] (.ref x :: st) h Q := T_aload_n c179_25 rfl
theorem c179_26 : cod 179 26 = some (.bipush (-2), 2) := cod_of b179 dX8_mesh_26
theorem t179_26 {d : Nat} {h : Hp} {Q : Pst} {ls : List Value} {st : List Value} : T d 179 26 ls st h Q ↔ T d 179 28 ls (.int (-2) :: st) h Q := T_bipushV c179_26 (by decide)
theorem c179_28 : cod 179 28 = some (.invokevirtual 45, 3) := cod_of b179 dX8_mesh_28
theorem t179_28 {d : Nat} {h : Hp} {Q : Pst} {a0 : Int32} {a : Nat} {ls : List Value} (ho : isO (h.2.2 a) 7) : T (d + 1) 179 28 ls [.int a0, .ref a] h Q ↔ T d 129 0 [.ref a, .int a0] [] h (fun x h2 => T (d + 1) 179 31 ls (rl x []) h2 Q) := T_virtualR (as := [.int a0]) (r := []) m179 m129 c179_28 k8_45  rfl (by decide) rfl (by simp [wrd, Value.category]) (by simp [stk, Value.category]) rfl (by decide +kernel) ho
theorem c179_31 : cod 179 31 = some (.ireturn, 1) := cod_of b179 dX8_mesh_31
theorem t179_31 {d : Nat} {h : Hp} {Q : Pst} {x : Int32} {ls : List Value} : T d 179 31 ls [.int x] h Q ↔ Q (some (.int x)) h := T_iretR m179 c179_31 rfl
theorem b180 : (mR 180).2.2.1 = cX8_gainBy := by rw [m180]
theorem c180_0 : cod 180 0 = some (.aload_n 0, 1) := cod_of b180 dX8_gainBy_0
theorem t180_0 {d : Nat} {h : Hp} {Q : Pst} {l1 l2 : Value} {x : Nat} {st : List Value} : T d 180 0 [.ref x, l1, l2] st h Q ↔ T d 180 1 [.ref x, l1, l2] (.ref x :: st) h Q := T_aload_n c180_0 rfl
theorem c180_1 : cod 180 1 = some (.invokevirtual 169, 3) := cod_of b180 dX8_gainBy_1
theorem t180_1 {d : Nat} {h : Hp} {Q : Pst} {a : Nat} {ls : List Value} (ho : isO (h.2.2 a) 7) : T (d + 1) 180 1 ls [.ref a] h Q ↔ T d 174 0 [.ref a, un] [] h (fun x h2 => T (d + 1) 180 4 ls (rl x []) h2 Q) := T_virtualR (as := []) (r := []) m180 m174 c180_1 k8_169  rfl (by decide) rfl (by simp [wrd, Value.category]) (by simp [stk, Value.category]) rfl (by decide +kernel) ho
theorem c180_4 : cod 180 4 = some (.iconst 0, 1) := cod_of b180 dX8_gainBy_4
theorem t180_4 {d : Nat} {h : Hp} {Q : Pst} {ls : List Value} {st : List Value} : T d 180 4 ls st h Q ↔ T d 180 5 ls (.int 0 :: st) h Q := T_iconstV c180_4 (by decide)
theorem c180_5 : cod 180 5 = some (.istore_n 1, 1) := cod_of b180 dX8_gainBy_5
theorem t180_5 {d : Nat} {h : Hp} {Q : Pst} {l0 l1 l2 : Value} {x : Int32} {st : List Value} : T d 180 5 [l0, l1, l2] (.int x :: st) h Q ↔ T d 180 6 [kil l0, .int x, l2] st h Q := T_istore_n c180_5 (Nat.le_of_ble_eq_true rfl)
theorem c180_6 : cod 180 6 = some (.iload_n 1, 1) := cod_of b180 dX8_gainBy_6
theorem t180_6 {d : Nat} {h : Hp} {Q : Pst} {l0 l2 : Value} {x : Int32} {st : List Value} : T d 180 6 [l0, .int x, l2] st h Q ↔ T d 180 7 [l0, .int x, l2] (.int x :: st) h Q := T_iload_n c180_6 rfl
theorem c180_7 : cod 180 7 = some (.aload_n 0, 1) := cod_of b180 dX8_gainBy_7
theorem t180_7 {d : Nat} {h : Hp} {Q : Pst} {l1 l2 : Value} {x : Nat} {st : List Value} : T d 180 7 [.ref x, l1, l2] st h Q ↔ T d 180 8 [.ref x, l1, l2] (.ref x :: st) h Q := T_aload_n c180_7 rfl
theorem c180_8 : cod 180 8 = some (.getfield 7, 3) := cod_of b180 dX8_gainBy_8
theorem t180_8 {d : Nat} {h : Hp} {Q : Pst} {a : Nat} {ls : List Value} {st : List Value} : T d 180 8 ls (.ref a :: st) h Q ↔ gF (h.2.2 a) 7 0 (fun v => T d 180 11 ls (v :: st) h Q) := T_getfieldR m180 c180_8 f8_7
theorem c180_11 : cod 180 11 = some (.bipush 12, 2) := cod_of b180 dX8_gainBy_11
theorem t180_11 {d : Nat} {h : Hp} {Q : Pst} {ls : List Value} {st : List Value} : T d 180 11 ls st h Q ↔ T d 180 13 ls (.int 12 :: st) h Q := T_bipushV c180_11 (by decide)
theorem c180_13 : cod 180 13 = some (.iaload, 1) := cod_of b180 dX8_gainBy_13
theorem t180_13 {d : Nat} {h : Hp} {Q : Pst} {a : Nat} {i : Int32} {ls : List Value} {st : List Value} : T d 180 13 ls (.int i :: .ref a :: st) h Q ↔ aL (h.2.2 a) i (fun x => T d 180 14 ls (.int x :: st) h Q) := T_iaload c180_13
theorem c180_14 : cod 180 14 = some (.if_icmp .ge 27, 3) := cod_of b180 dX8_gainBy_14
theorem t180_14 {d : Nat} {h : Hp} {Q : Pst} {x y : Int32} {ls : List Value} {st : List Value} : T d 180 14 ls (.int y :: .int x :: st) h Q ↔ (if y ≤ x then T d 180 41 ls st h Q else T d 180 17 ls st h Q) := T_icmp_ge c180_14 (by decide)
theorem c180_17 : cod 180 17 = some (.aload_n 0, 1) := cod_of b180 dX8_gainBy_17
theorem t180_17 {d : Nat} {h : Hp} {Q : Pst} {l1 l2 : Value} {x : Nat} {st : List Value} : T d 180 17 [.ref x, l1, l2] st h Q ↔ T d 180 18 [.ref x, l1, l2] (.ref x :: st) h Q := T_aload_n c180_17 rfl
theorem c180_18 : cod 180 18 = some (.getfield 7, 3) := cod_of b180 dX8_gainBy_18
theorem t180_18 {d : Nat} {h : Hp} {Q : Pst} {a : Nat} {ls : List Value} {st : List Value} : T d 180 18 ls (.ref a :: st) h Q ↔ gF (h.2.2 a) 7 0 (fun v => T d 180 21 ls (v :: st) h Q) := T_getfieldR m180 c180_18 f8_7
theorem c180_21 : cod 180 21 = some (.sipush 624, 3) := cod_of b180 dX8_gainBy_21
theorem t180_21 {d : Nat} {h : Hp} {Q : Pst} {ls : List Value} {st : List Value} : T d 180 21 ls st h Q ↔ T d 180 24 ls (.int 624 :: st) h Q := T_sipushV c180_21 (by decide)
theorem c180_24 : cod 180 24 = some (.iload_n 1, 1) := cod_of b180 dX8_gainBy_24
theorem t180_24 {d : Nat} {h : Hp} {Q : Pst} {l0 l2 : Value} {x : Int32} {st : List Value} : T d 180 24 [l0, .int x, l2] st h Q ↔ T d 180 25 [l0, .int x, l2] (.int x :: st) h Q := T_iload_n c180_24 rfl
theorem c180_25 : cod 180 25 = some (.iadd, 1) := cod_of b180 dX8_gainBy_25
theorem t180_25 {d : Nat} {h : Hp} {Q : Pst} {x y : Int32} {ls : List Value} {st : List Value} : T d 180 25 ls (.int y :: .int x :: st) h Q ↔ T d 180 26 ls (.int (x + y) :: st) h Q := T_iadd c180_25
theorem c180_26 : cod 180 26 = some (.aload_n 0, 1) := cod_of b180 dX8_gainBy_26
theorem t180_26 {d : Nat} {h : Hp} {Q : Pst} {l1 l2 : Value} {x : Nat} {st : List Value} : T d 180 26 [.ref x, l1, l2] st h Q ↔ T d 180 27 [.ref x, l1, l2] (.ref x :: st) h Q := T_aload_n c180_26 rfl
theorem c180_27 : cod 180 27 = some (.getfield 30, 3) := cod_of b180 dX8_gainBy_27
theorem t180_27 {d : Nat} {h : Hp} {Q : Pst} {a : Nat} {ls : List Value} {st : List Value} : T d 180 27 ls (.ref a :: st) h Q ↔ gF (h.2.2 a) 7 13 (fun v => T d 180 30 ls (v :: st) h Q) := T_getfieldR m180 c180_27 f8_30
theorem c180_30 : cod 180 30 = some (.iload_n 1, 1) := cod_of b180 dX8_gainBy_30
theorem t180_30 {d : Nat} {h : Hp} {Q : Pst} {l0 l2 : Value} {x : Int32} {st : List Value} : T d 180 30 [l0, .int x, l2] st h Q ↔ T d 180 31 [l0, .int x, l2] (.int x :: st) h Q := T_iload_n c180_30 rfl
theorem c180_31 : cod 180 31 = some (.iaload, 1) := cod_of b180 dX8_gainBy_31
theorem t180_31 {d : Nat} {h : Hp} {Q : Pst} {a : Nat} {i : Int32} {ls : List Value} {st : List Value} : T d 180 31 ls (.int i :: .ref a :: st) h Q ↔ aL (h.2.2 a) i (fun x => T d 180 32 ls (.int x :: st) h Q) := T_iaload c180_31
theorem c180_32 : cod 180 32 = some (.iconst 1, 1) := cod_of b180 dX8_gainBy_32
theorem t180_32 {d : Nat} {h : Hp} {Q : Pst} {ls : List Value} {st : List Value} : T d 180 32 ls st h Q ↔ T d 180 33 ls (.int 1 :: st) h Q := T_iconstV c180_32 (by decide)
theorem c180_33 : cod 180 33 = some (.isub, 1) := cod_of b180 dX8_gainBy_33
theorem t180_33 {d : Nat} {h : Hp} {Q : Pst} {x y : Int32} {ls : List Value} {st : List Value} : T d 180 33 ls (.int y :: .int x :: st) h Q ↔ T d 180 34 ls (.int (x - y) :: st) h Q := T_isub c180_33
theorem c180_34 : cod 180 34 = some (.iastore, 1) := cod_of b180 dX8_gainBy_34
theorem t180_34 {d : Nat} {h : Hp} {Q : Pst} {a : Nat} {i x : Int32} {ls : List Value} {st : List Value} : T d 180 34 ls (.int x :: .int i :: .ref a :: st) h Q ↔ aS (h.2.2 a) i x (fun cell => T d 180 35 ls st (hup h a cell) Q) := T_iastore c180_34
theorem c180_35 : cod 180 35 = some (.iinc 1 1, 3) := cod_of b180 dX8_gainBy_35
theorem t180_35 {d : Nat} {h : Hp} {Q : Pst} {l0 l2 : Value} {x : Int32} {st : List Value} : T d 180 35 [l0, .int x, l2] st h Q ↔ T d 180 38 [kil l0, .int (x + 1), l2] st h Q := T_iincV c180_35 rfl (Nat.le_of_ble_eq_true rfl) (by decide) rfl
theorem c180_38 : cod 180 38 = some (.goto (-32), 3) := cod_of b180 dX8_gainBy_38
theorem t180_38 {d : Nat} {h : Hp} {Q : Pst} {ls : List Value} {st : List Value} : T d 180 38 ls st h Q ↔ T d 180 6 ls st h Q := T_goto c180_38 (by decide)
theorem c180_41 : cod 180 41 = some (.iconst 0, 1) := cod_of b180 dX8_gainBy_41
theorem t180_41 {d : Nat} {h : Hp} {Q : Pst} {ls : List Value} {st : List Value} : T d 180 41 ls st h Q ↔ T d 180 42 ls (.int 0 :: st) h Q := T_iconstV c180_41 (by decide)
theorem c180_42 : cod 180 42 = some (.istore_n 1, 1) := cod_of b180 dX8_gainBy_42
theorem t180_42 {d : Nat} {h : Hp} {Q : Pst} {l0 l1 l2 : Value} {x : Int32} {st : List Value} : T d 180 42 [l0, l1, l2] (.int x :: st) h Q ↔ T d 180 43 [kil l0, .int x, l2] st h Q := T_istore_n c180_42 (Nat.le_of_ble_eq_true rfl)
theorem c180_43 : cod 180 43 = some (.iconst 0, 1) := cod_of b180 dX8_gainBy_43
theorem t180_43 {d : Nat} {h : Hp} {Q : Pst} {ls : List Value} {st : List Value} : T d 180 43 ls st h Q ↔ T d 180 44 ls (.int 0 :: st) h Q := T_iconstV c180_43 (by decide)
theorem c180_44 : cod 180 44 = some (.istore_n 2, 1) := cod_of b180 dX8_gainBy_44
theorem t180_44 {d : Nat} {h : Hp} {Q : Pst} {l0 l1 l2 : Value} {x : Int32} {st : List Value} : T d 180 44 [l0, l1, l2] (.int x :: st) h Q ↔ T d 180 45 [l0, kil l1, .int x] st h Q := T_istore_n c180_44 (Nat.le_of_ble_eq_true rfl)
theorem c180_45 : cod 180 45 = some (.iload_n 2, 1) := cod_of b180 dX8_gainBy_45
theorem t180_45 {d : Nat} {h : Hp} {Q : Pst} {l0 l1 : Value} {x : Int32} {st : List Value} : T d 180 45 [l0, l1, .int x] st h Q ↔ T d 180 46 [l0, l1, .int x] (.int x :: st) h Q := T_iload_n c180_45 rfl
theorem c180_46 : cod 180 46 = some (.aload_n 0, 1) := cod_of b180 dX8_gainBy_46
theorem t180_46 {d : Nat} {h : Hp} {Q : Pst} {l1 l2 : Value} {x : Nat} {st : List Value} : T d 180 46 [.ref x, l1, l2] st h Q ↔ T d 180 47 [.ref x, l1, l2] (.ref x :: st) h Q := T_aload_n c180_46 rfl
theorem c180_47 : cod 180 47 = some (.getfield 7, 3) := cod_of b180 dX8_gainBy_47
theorem t180_47 {d : Nat} {h : Hp} {Q : Pst} {a : Nat} {ls : List Value} {st : List Value} : T d 180 47 ls (.ref a :: st) h Q ↔ gF (h.2.2 a) 7 0 (fun v => T d 180 50 ls (v :: st) h Q) := T_getfieldR m180 c180_47 f8_7
theorem c180_50 : cod 180 50 = some (.bipush 25, 2) := cod_of b180 dX8_gainBy_50
theorem t180_50 {d : Nat} {h : Hp} {Q : Pst} {ls : List Value} {st : List Value} : T d 180 50 ls st h Q ↔ T d 180 52 ls (.int 25 :: st) h Q := T_bipushV c180_50 (by decide)
theorem c180_52 : cod 180 52 = some (.iaload, 1) := cod_of b180 dX8_gainBy_52
theorem t180_52 {d : Nat} {h : Hp} {Q : Pst} {a : Nat} {i : Int32} {ls : List Value} {st : List Value} : T d 180 52 ls (.int i :: .ref a :: st) h Q ↔ aL (h.2.2 a) i (fun x => T d 180 53 ls (.int x :: st) h Q) := T_iaload c180_52
theorem c180_53 : cod 180 53 = some (.if_icmp .ge 33, 3) := cod_of b180 dX8_gainBy_53
theorem t180_53 {d : Nat} {h : Hp} {Q : Pst} {x y : Int32} {ls : List Value} {st : List Value} : T d 180 53 ls (.int y :: .int x :: st) h Q ↔ (if y ≤ x then T d 180 86 ls st h Q else T d 180 56 ls st h Q) := T_icmp_ge c180_53 (by decide)
theorem c180_56 : cod 180 56 = some (.iload_n 1, 1) := cod_of b180 dX8_gainBy_56
theorem t180_56 {d : Nat} {h : Hp} {Q : Pst} {l0 l2 : Value} {x : Int32} {st : List Value} : T d 180 56 [l0, .int x, l2] st h Q ↔ T d 180 57 [l0, .int x, l2] (.int x :: st) h Q := T_iload_n c180_56 rfl
theorem c180_57 : cod 180 57 = some (.aload_n 0, 1) := cod_of b180 dX8_gainBy_57
theorem t180_57 {d : Nat} {h : Hp} {Q : Pst} {l1 l2 : Value} {x : Nat} {st : List Value} : T d 180 57 [.ref x, l1, l2] st h Q ↔ T d 180 58 [.ref x, l1, l2] (.ref x :: st) h Q := T_aload_n c180_57 rfl
theorem c180_58 : cod 180 58 = some (.sipush 624, 3) := cod_of b180 dX8_gainBy_58
theorem t180_58 {d : Nat} {h : Hp} {Q : Pst} {ls : List Value} {st : List Value} : T d 180 58 ls st h Q ↔ T d 180 61 ls (.int 624 :: st) h Q := T_sipushV c180_58 (by decide)
theorem c180_61 : cod 180 61 = some (.iload_n 2, 1) := cod_of b180 dX8_gainBy_61
theorem t180_61 {d : Nat} {h : Hp} {Q : Pst} {l0 l1 : Value} {x : Int32} {st : List Value} : T d 180 61 [l0, l1, .int x] st h Q ↔ T d 180 62 [l0, l1, .int x] (.int x :: st) h Q := T_iload_n c180_61 rfl
theorem c180_62 : cod 180 62 = some (.iconst 0, 1) := cod_of b180 dX8_gainBy_62
theorem t180_62 {d : Nat} {h : Hp} {Q : Pst} {ls : List Value} {st : List Value} : T d 180 62 ls st h Q ↔ T d 180 63 ls (.int 0 :: st) h Q := T_iconstV c180_62 (by decide)
theorem c180_63 : cod 180 63 = some (.invokevirtual 151, 3) := cod_of b180 dX8_gainBy_63
theorem t180_63 {d : Nat} {h : Hp} {Q : Pst} {a0 a1 a2 s0 : Int32} {a : Nat} {ls : List Value} (ho : isO (h.2.2 a) 7) : T (d + 1) 180 63 ls [.int a2, .int a1, .int a0, .ref a, .int s0] h Q ↔ T d 158 0 [.ref a, .int a0, .int a1, .int a2, un, un, un, un] [] h (fun x h2 => T (d + 1) 180 66 ls (rl x [.int s0]) h2 Q) := T_virtualR (as := [.int a0, .int a1, .int a2]) (r := [.int s0]) m180 m158 c180_63 k8_151  rfl (by decide) rfl (by simp [wrd, Value.category]) (by simp [stk, Value.category]) rfl (by decide +kernel) ho
theorem c180_66 : cod 180 66 = some (.iconst 2, 1) := cod_of b180 dX8_gainBy_66
theorem t180_66 {d : Nat} {h : Hp} {Q : Pst} {ls : List Value} {st : List Value} : T d 180 66 ls st h Q ↔ T d 180 67 ls (.int 2 :: st) h Q := T_iconstV c180_66 (by decide)
theorem c180_67 : cod 180 67 = some (.aload_n 0, 1) := cod_of b180 dX8_gainBy_67
theorem t180_67 {d : Nat} {h : Hp} {Q : Pst} {l1 l2 : Value} {x : Nat} {st : List Value} : T d 180 67 [.ref x, l1, l2] st h Q ↔ T d 180 68 [.ref x, l1, l2] (.ref x :: st) h Q := T_aload_n c180_67 rfl
theorem c180_68 : cod 180 68 = some (.sipush 624, 3) := cod_of b180 dX8_gainBy_68
theorem t180_68 {d : Nat} {h : Hp} {Q : Pst} {ls : List Value} {st : List Value} : T d 180 68 ls st h Q ↔ T d 180 71 ls (.int 624 :: st) h Q := T_sipushV c180_68 (by decide)
theorem c180_71 : cod 180 71 = some (.iload_n 2, 1) := cod_of b180 dX8_gainBy_71
theorem t180_71 {d : Nat} {h : Hp} {Q : Pst} {l0 l1 : Value} {x : Int32} {st : List Value} : T d 180 71 [l0, l1, .int x] st h Q ↔ T d 180 72 [l0, l1, .int x] (.int x :: st) h Q := T_iload_n c180_71 rfl
theorem c180_72 : cod 180 72 = some (.iconst 1, 1) := cod_of b180 dX8_gainBy_72
theorem t180_72 {d : Nat} {h : Hp} {Q : Pst} {ls : List Value} {st : List Value} : T d 180 72 ls st h Q ↔ T d 180 73 ls (.int 1 :: st) h Q := T_iconstV c180_72 (by decide)
theorem c180_73 : cod 180 73 = some (.invokevirtual 151, 3) := cod_of b180 dX8_gainBy_73
theorem t180_73 {d : Nat} {h : Hp} {Q : Pst} {a0 a1 a2 s0 s1 s2 : Int32} {a : Nat} {ls : List Value} (ho : isO (h.2.2 a) 7) : T (d + 1) 180 73 ls [.int a2, .int a1, .int a0, .ref a, .int s0, .int s1, .int s2] h Q ↔ T d 158 0 [.ref a, .int a0, .int a1, .int a2, un, un, un, un] [] h (fun x h2 => T (d + 1) 180 76 ls (rl x [.int s0, .int s1, .int s2]) h2 Q) := T_virtualR (as := [.int a0, .int a1, .int a2]) (r := [.int s0, .int s1, .int s2]) m180 m158 c180_73 k8_151  rfl (by decide) rfl (by simp [wrd, Value.category]) (by simp [stk, Value.category]) rfl (by decide +kernel) ho
theorem c180_76 : cod 180 76 = some (.imul, 1) := cod_of b180 dX8_gainBy_76
theorem t180_76 {d : Nat} {h : Hp} {Q : Pst} {x y : Int32} {ls : List Value} {st : List Value} : T d 180 76 ls (.int y :: .int x :: st) h Q ↔ T d 180 77 ls (.int (x * y) :: st) h Q := T_imul c180_76
theorem c180_77 : cod 180 77 = some (.iadd, 1) := cod_of b180 dX8_gainBy_77
theorem t180_77 {d : Nat} {h : Hp} {Q : Pst} {x y : Int32} {ls : List Value} {st : List Value} : T d 180 77 ls (.int y :: .int x :: st) h Q ↔ T d 180 78 ls (.int (x + y) :: st) h Q := T_iadd c180_77
theorem c180_78 : cod 180 78 = some (.iadd, 1) := cod_of b180 dX8_gainBy_78
theorem t180_78 {d : Nat} {h : Hp} {Q : Pst} {x y : Int32} {ls : List Value} {st : List Value} : T d 180 78 ls (.int y :: .int x :: st) h Q ↔ T d 180 79 ls (.int (x + y) :: st) h Q := T_iadd c180_78
theorem c180_79 : cod 180 79 = some (.istore_n 1, 1) := cod_of b180 dX8_gainBy_79
theorem t180_79 {d : Nat} {h : Hp} {Q : Pst} {l0 l1 l2 : Value} {x : Int32} {st : List Value} : T d 180 79 [l0, l1, l2] (.int x :: st) h Q ↔ T d 180 80 [kil l0, .int x, l2] st h Q := T_istore_n c180_79 (Nat.le_of_ble_eq_true rfl)
theorem c180_80 : cod 180 80 = some (.iinc 2 1, 3) := cod_of b180 dX8_gainBy_80
theorem t180_80 {d : Nat} {h : Hp} {Q : Pst} {l0 l1 : Value} {x : Int32} {st : List Value} : T d 180 80 [l0, l1, .int x] st h Q ↔ T d 180 83 [l0, kil l1, .int (x + 1)] st h Q := T_iincV c180_80 rfl (Nat.le_of_ble_eq_true rfl) (by decide) rfl
theorem c180_83 : cod 180 83 = some (.goto (-38), 3) := cod_of b180 dX8_gainBy_83
theorem t180_83 {d : Nat} {h : Hp} {Q : Pst} {ls : List Value} {st : List Value} : T d 180 83 ls st h Q ↔ T d 180 45 ls st h Q := T_goto c180_83 (by decide)
theorem c180_86 : cod 180 86 = some (.iload_n 1, 1) := cod_of b180 dX8_gainBy_86
theorem t180_86 {d : Nat} {h : Hp} {Q : Pst} {l0 l2 : Value} {x : Int32} {st : List Value} : T d 180 86 [l0, .int x, l2] st h Q ↔ T d 180 87 [l0, .int x, l2] (.int x :: st) h Q := T_iload_n c180_86 rfl
theorem c180_87 : cod 180 87 = some (.ireturn, 1) := cod_of b180 dX8_gainBy_87
theorem t180_87 {d : Nat} {h : Hp} {Q : Pst} {x : Int32} {ls : List Value} : T d 180 87 ls [.int x] h Q ↔ Q (some (.int x)) h := T_iretR m180 c180_87 rfl
theorem b181 : (mR 181).2.2.1 = cX8_nextLine := by rw [m181]
theorem c181_0 : cod 181 0 = some (.aload_n 0, 1) := cod_of b181 dX8_nextLine_0
theorem t181_0 {d : Nat} {h : Hp} {Q : Pst} {l1 : Value} {x : Nat} {st : List Value} : T d 181 0 [.ref x, l1] st h Q ↔ T d 181 1 [.ref x, l1] (.ref x :: st) h Q := T_aload_n c181_0 rfl
theorem c181_1 : cod 181 1 = some (.getfield 7, 3) := cod_of b181 dX8_nextLine_1
theorem t181_1 {d : Nat} {h : Hp} {Q : Pst} {a : Nat} {ls : List Value} {st : List Value} : T d 181 1 ls (.ref a :: st) h Q ↔ gF (h.2.2 a) 7 0 (fun v => T d 181 4 ls (v :: st) h Q) := T_getfieldR m181 c181_1 f8_7
theorem c181_4 : cod 181 4 = some (.bipush 12, 2) := cod_of b181 dX8_nextLine_4
theorem t181_4 {d : Nat} {h : Hp} {Q : Pst} {ls : List Value} {st : List Value} : T d 181 4 ls st h Q ↔ T d 181 6 ls (.int 12 :: st) h Q := T_bipushV c181_4 (by decide)
theorem c181_6 : cod 181 6 = some (.iaload, 1) := cod_of b181 dX8_nextLine_6
theorem t181_6 {d : Nat} {h : Hp} {Q : Pst} {a : Nat} {i : Int32} {ls : List Value} {st : List Value} : T d 181 6 ls (.int i :: .ref a :: st) h Q ↔ aL (h.2.2 a) i (fun x => T d 181 7 ls (.int x :: st) h Q) := T_iaload c181_6
theorem c181_7 : cod 181 7 = some (.iconst 1, 1) := cod_of b181 dX8_nextLine_7
theorem t181_7 {d : Nat} {h : Hp} {Q : Pst} {ls : List Value} {st : List Value} : T d 181 7 ls st h Q ↔ T d 181 8 ls (.int 1 :: st) h Q := T_iconstV c181_7 (by decide)
theorem c181_8 : cod 181 8 = some (.isub, 1) := cod_of b181 dX8_nextLine_8
theorem t181_8 {d : Nat} {h : Hp} {Q : Pst} {x y : Int32} {ls : List Value} {st : List Value} : T d 181 8 ls (.int y :: .int x :: st) h Q ↔ T d 181 9 ls (.int (x - y) :: st) h Q := T_isub c181_8
theorem c181_9 : cod 181 9 = some (.istore_n 1, 1) := cod_of b181 dX8_nextLine_9
theorem t181_9 {d : Nat} {h : Hp} {Q : Pst} {l0 l1 : Value} {x : Int32} {st : List Value} : T d 181 9 [l0, l1] (.int x :: st) h Q ↔ T d 181 10 [kil l0, .int x] st h Q := T_istore_n c181_9 (Nat.le_of_ble_eq_true rfl)
theorem c181_10 : cod 181 10 = some (.iload_n 1, 1) := cod_of b181 dX8_nextLine_10
theorem t181_10 {d : Nat} {h : Hp} {Q : Pst} {l0 : Value} {x : Int32} {st : List Value} : T d 181 10 [l0, .int x] st h Q ↔ T d 181 11 [l0, .int x] (.int x :: st) h Q := T_iload_n c181_10 rfl
theorem c181_11 : cod 181 11 = some (.ifCond .lt 32, 3) := cod_of b181 dX8_nextLine_11
theorem t181_11 {d : Nat} {h : Hp} {Q : Pst} {x : Int32} {ls : List Value} {st : List Value} : T d 181 11 ls (.int x :: st) h Q ↔ (if x < 0 then T d 181 43 ls st h Q else T d 181 14 ls st h Q) := T_if_lt c181_11 (by decide)
theorem c181_14 : cod 181 14 = some (.aload_n 0, 1) := cod_of b181 dX8_nextLine_14
theorem t181_14 {d : Nat} {h : Hp} {Q : Pst} {l1 : Value} {x : Nat} {st : List Value} : T d 181 14 [.ref x, l1] st h Q ↔ T d 181 15 [.ref x, l1] (.ref x :: st) h Q := T_aload_n c181_14 rfl
theorem c181_15 : cod 181 15 = some (.getfield 30, 3) := cod_of b181 dX8_nextLine_15
theorem t181_15 {d : Nat} {h : Hp} {Q : Pst} {a : Nat} {ls : List Value} {st : List Value} : T d 181 15 ls (.ref a :: st) h Q ↔ gF (h.2.2 a) 7 13 (fun v => T d 181 18 ls (v :: st) h Q) := T_getfieldR m181 c181_15 f8_30
theorem c181_18 : cod 181 18 = some (.iload_n 1, 1) := cod_of b181 dX8_nextLine_18
theorem t181_18 {d : Nat} {h : Hp} {Q : Pst} {l0 : Value} {x : Int32} {st : List Value} : T d 181 18 [l0, .int x] st h Q ↔ T d 181 19 [l0, .int x] (.int x :: st) h Q := T_iload_n c181_18 rfl
theorem c181_19 : cod 181 19 = some (.iaload, 1) := cod_of b181 dX8_nextLine_19
theorem t181_19 {d : Nat} {h : Hp} {Q : Pst} {a : Nat} {i : Int32} {ls : List Value} {st : List Value} : T d 181 19 ls (.int i :: .ref a :: st) h Q ↔ aL (h.2.2 a) i (fun x => T d 181 20 ls (.int x :: st) h Q) := T_iaload c181_19
theorem c181_20 : cod 181 20 = some (.aload_n 0, 1) := cod_of b181 dX8_nextLine_20
theorem t181_20 {d : Nat} {h : Hp} {Q : Pst} {l1 : Value} {x : Nat} {st : List Value} : T d 181 20 [.ref x, l1] st h Q ↔ T d 181 21 [.ref x, l1] (.ref x :: st) h Q := T_aload_n c181_20 rfl
theorem c181_21 : cod 181 21 = some (.getfield 7, 3) := cod_of b181 dX8_nextLine_21
theorem t181_21 {d : Nat} {h : Hp} {Q : Pst} {a : Nat} {ls : List Value} {st : List Value} : T d 181 21 ls (.ref a :: st) h Q ↔ gF (h.2.2 a) 7 0 (fun v => T d 181 24 ls (v :: st) h Q) := T_getfieldR m181 c181_21 f8_7
theorem c181_24 : cod 181 24 = some (.bipush 25, 2) := cod_of b181 dX8_nextLine_24
theorem t181_24 {d : Nat} {h : Hp} {Q : Pst} {ls : List Value} {st : List Value} : T d 181 24 ls st h Q ↔ T d 181 26 ls (.int 25 :: st) h Q := T_bipushV c181_24 (by decide)
theorem c181_26 : cod 181 26 = some (.iaload, 1) := cod_of b181 dX8_nextLine_26
theorem t181_26 {d : Nat} {h : Hp} {Q : Pst} {a : Nat} {i : Int32} {ls : List Value} {st : List Value} : T d 181 26 ls (.int i :: .ref a :: st) h Q ↔ aL (h.2.2 a) i (fun x => T d 181 27 ls (.int x :: st) h Q) := T_iaload c181_26
theorem c181_27 : cod 181 27 = some (.if_icmp .ne 16, 3) := cod_of b181 dX8_nextLine_27
theorem t181_27 {d : Nat} {h : Hp} {Q : Pst} {x y : Int32} {ls : List Value} {st : List Value} : T d 181 27 ls (.int y :: .int x :: st) h Q ↔ (if ¬ x = y then T d 181 43 ls st h Q else T d 181 30 ls st h Q) := T_icmp_ne c181_27 (by decide)
theorem c181_30 : cod 181 30 = some (.aload_n 0, 1) := cod_of b181 dX8_nextLine_30
theorem t181_30 {d : Nat} {h : Hp} {Q : Pst} {l1 : Value} {x : Nat} {st : List Value} : T d 181 30 [.ref x, l1] st h Q ↔ T d 181 31 [.ref x, l1] (.ref x :: st) h Q := T_aload_n c181_30 rfl
theorem c181_31 : cod 181 31 = some (.getfield 30, 3) := cod_of b181 dX8_nextLine_31
theorem t181_31 {d : Nat} {h : Hp} {Q : Pst} {a : Nat} {ls : List Value} {st : List Value} : T d 181 31 ls (.ref a :: st) h Q ↔ gF (h.2.2 a) 7 13 (fun v => T d 181 34 ls (v :: st) h Q) := T_getfieldR m181 c181_31 f8_30
theorem c181_34 : cod 181 34 = some (.iload_n 1, 1) := cod_of b181 dX8_nextLine_34
theorem t181_34 {d : Nat} {h : Hp} {Q : Pst} {l0 : Value} {x : Int32} {st : List Value} : T d 181 34 [l0, .int x] st h Q ↔ T d 181 35 [l0, .int x] (.int x :: st) h Q := T_iload_n c181_34 rfl
theorem c181_35 : cod 181 35 = some (.iconst 0, 1) := cod_of b181 dX8_nextLine_35
theorem t181_35 {d : Nat} {h : Hp} {Q : Pst} {ls : List Value} {st : List Value} : T d 181 35 ls st h Q ↔ T d 181 36 ls (.int 0 :: st) h Q := T_iconstV c181_35 (by decide)
theorem c181_36 : cod 181 36 = some (.iastore, 1) := cod_of b181 dX8_nextLine_36
theorem t181_36 {d : Nat} {h : Hp} {Q : Pst} {a : Nat} {i x : Int32} {ls : List Value} {st : List Value} : T d 181 36 ls (.int x :: .int i :: .ref a :: st) h Q ↔ aS (h.2.2 a) i x (fun cell => T d 181 37 ls st (hup h a cell) Q) := T_iastore c181_36
theorem c181_37 : cod 181 37 = some (.iinc 1 (-1), 3) := cod_of b181 dX8_nextLine_37
theorem t181_37 {d : Nat} {h : Hp} {Q : Pst} {l0 : Value} {x : Int32} {st : List Value} : T d 181 37 [l0, .int x] st h Q ↔ T d 181 40 [kil l0, .int (x + (-1))] st h Q := T_iincV c181_37 rfl (Nat.le_of_ble_eq_true rfl) (by decide) rfl
theorem c181_40 : cod 181 40 = some (.goto (-30), 3) := cod_of b181 dX8_nextLine_40
theorem t181_40 {d : Nat} {h : Hp} {Q : Pst} {ls : List Value} {st : List Value} : T d 181 40 ls st h Q ↔ T d 181 10 ls st h Q := T_goto c181_40 (by decide)
theorem c181_43 : cod 181 43 = some (.iload_n 1, 1) := cod_of b181 dX8_nextLine_43
theorem t181_43 {d : Nat} {h : Hp} {Q : Pst} {l0 : Value} {x : Int32} {st : List Value} : T d 181 43 [l0, .int x] st h Q ↔ T d 181 44 [l0, .int x] (.int x :: st) h Q := T_iload_n c181_43 rfl
theorem c181_44 : cod 181 44 = some (.ifCond .lt 13, 3) := cod_of b181 dX8_nextLine_44
theorem t181_44 {d : Nat} {h : Hp} {Q : Pst} {x : Int32} {ls : List Value} {st : List Value} : T d 181 44 ls (.int x :: st) h Q ↔ (if x < 0 then T d 181 57 ls st h Q else T d 181 47 ls st h Q) := T_if_lt c181_44 (by decide)
theorem c181_47 : cod 181 47 = some (.aload_n 0, 1) := cod_of b181 dX8_nextLine_47
theorem t181_47 {d : Nat} {h : Hp} {Q : Pst} {l1 : Value} {x : Nat} {st : List Value} : T d 181 47 [.ref x, l1] st h Q ↔ T d 181 48 [.ref x, l1] (.ref x :: st) h Q := T_aload_n c181_47 rfl
theorem c181_48 : cod 181 48 = some (.getfield 30, 3) := cod_of b181 dX8_nextLine_48
theorem t181_48 {d : Nat} {h : Hp} {Q : Pst} {a : Nat} {ls : List Value} {st : List Value} : T d 181 48 ls (.ref a :: st) h Q ↔ gF (h.2.2 a) 7 13 (fun v => T d 181 51 ls (v :: st) h Q) := T_getfieldR m181 c181_48 f8_30
theorem c181_51 : cod 181 51 = some (.iload_n 1, 1) := cod_of b181 dX8_nextLine_51
theorem t181_51 {d : Nat} {h : Hp} {Q : Pst} {l0 : Value} {x : Int32} {st : List Value} : T d 181 51 [l0, .int x] st h Q ↔ T d 181 52 [l0, .int x] (.int x :: st) h Q := T_iload_n c181_51 rfl
theorem c181_52 : cod 181 52 = some (.dup2, 1) := cod_of b181 dX8_nextLine_52
theorem t181_52 {d : Nat} {h : Hp} {Q : Pst} {x : Int32} {y : Nat} {ls : List Value} {st : List Value} : T d 181 52 ls (.int x :: .ref y :: st) h Q ↔ T d 181 53 ls (.int x :: .ref y :: .int x :: .ref y :: st) h Q := T_dup2 c181_52 rfl rfl
theorem c181_53 : cod 181 53 = some (.iaload, 1) := cod_of b181 dX8_nextLine_53
theorem t181_53 {d : Nat} {h : Hp} {Q : Pst} {a : Nat} {i : Int32} {ls : List Value} {st : List Value} : T d 181 53 ls (.int i :: .ref a :: st) h Q ↔ aL (h.2.2 a) i (fun x => T d 181 54 ls (.int x :: st) h Q) := T_iaload c181_53
theorem c181_54 : cod 181 54 = some (.iconst 1, 1) := cod_of b181 dX8_nextLine_54
theorem t181_54 {d : Nat} {h : Hp} {Q : Pst} {ls : List Value} {st : List Value} : T d 181 54 ls st h Q ↔ T d 181 55 ls (.int 1 :: st) h Q := T_iconstV c181_54 (by decide)
theorem c181_55 : cod 181 55 = some (.iadd, 1) := cod_of b181 dX8_nextLine_55
theorem t181_55 {d : Nat} {h : Hp} {Q : Pst} {x y : Int32} {ls : List Value} {st : List Value} : T d 181 55 ls (.int y :: .int x :: st) h Q ↔ T d 181 56 ls (.int (x + y) :: st) h Q := T_iadd c181_55
theorem c181_56 : cod 181 56 = some (.iastore, 1) := cod_of b181 dX8_nextLine_56
theorem t181_56 {d : Nat} {h : Hp} {Q : Pst} {a : Nat} {i x : Int32} {ls : List Value} {st : List Value} : T d 181 56 ls (.int x :: .int i :: .ref a :: st) h Q ↔ aS (h.2.2 a) i x (fun cell => T d 181 57 ls st (hup h a cell) Q) := T_iastore c181_56
theorem c181_57 : cod 181 57 = some (.iload_n 1, 1) := cod_of b181 dX8_nextLine_57
theorem t181_57 {d : Nat} {h : Hp} {Q : Pst} {l0 : Value} {x : Int32} {st : List Value} : T d 181 57 [l0, .int x] st h Q ↔ T d 181 58 [l0, .int x] (.int x :: st) h Q := T_iload_n c181_57 rfl
theorem c181_58 : cod 181 58 = some (.ifCond .lt 7, 3) := cod_of b181 dX8_nextLine_58
theorem t181_58 {d : Nat} {h : Hp} {Q : Pst} {x : Int32} {ls : List Value} {st : List Value} : T d 181 58 ls (.int x :: st) h Q ↔ (if x < 0 then T d 181 65 ls st h Q else T d 181 61 ls st h Q) := T_if_lt c181_58 (by decide)
theorem c181_61 : cod 181 61 = some (.iconst 1, 1) := cod_of b181 dX8_nextLine_61
theorem t181_61 {d : Nat} {h : Hp} {Q : Pst} {ls : List Value} {st : List Value} : T d 181 61 ls st h Q ↔ T d 181 62 ls (.int 1 :: st) h Q := T_iconstV c181_61 (by decide)
theorem c181_62 : cod 181 62 = some (.goto 4, 3) := cod_of b181 dX8_nextLine_62
theorem t181_62 {d : Nat} {h : Hp} {Q : Pst} {ls : List Value} {st : List Value} : T d 181 62 ls st h Q ↔ T d 181 66 ls st h Q := T_goto c181_62 (by decide)
theorem c181_66 : cod 181 66 = some (.ireturn, 1) := cod_of b181 dX8_nextLine_66
theorem t181_66 {d : Nat} {h : Hp} {Q : Pst} {x : Int32} {ls : List Value} : T d 181 66 ls [.int x] h Q ↔ (narrow .boolean (.int x) = .int x ∧ Q (some (.int x)) h) := T_zretR m181 c181_66 rfl
theorem c181_65 : cod 181 65 = some (.iconst 0, 1) := cod_of b181 dX8_nextLine_65
theorem t181_65 {d : Nat} {h : Hp} {Q : Pst} {ls : List Value} {st : List Value} : T d 181 65 ls st h Q ↔ T d 181 66 ls (.int 0 :: st) h Q := T_iconstV c181_65 (by decide)
theorem b182 : (mR 182).2.2.1 = cX8_place := by rw [m182]
theorem c182_0 : cod 182 0 = some (.iload_n 1, 1) := cod_of b182 dX8_place_0
theorem t182_0 {d : Nat} {h : Hp} {Q : Pst} {l0 l2 l3 l4 l5 : Value} {x : Int32} {st : List Value} : T d 182 0 [l0, .int x, l2, l3, l4, l5] st h Q ↔ T d 182 1 [l0, .int x, l2, l3, l4, l5] (.int x :: st) h Q := T_iload_n c182_0 rfl
theorem c182_1 : cod 182 1 = some (.iconst (-1), 1) := cod_of b182 dX8_place_1
theorem t182_1 {d : Nat} {h : Hp} {Q : Pst} {ls : List Value} {st : List Value} : T d 182 1 ls st h Q ↔ T d 182 2 ls (.int (-1) :: st) h Q := T_iconstV c182_1 (by decide)
theorem c182_2 : cod 182 2 = some (.if_icmp .eq 18, 3) := cod_of b182 dX8_place_2
theorem t182_2 {d : Nat} {h : Hp} {Q : Pst} {x y : Int32} {ls : List Value} {st : List Value} : T d 182 2 ls (.int y :: .int x :: st) h Q ↔ (if x = y then T d 182 20 ls st h Q else T d 182 5 ls st h Q) := T_icmp_eq c182_2 (by decide)
theorem c182_5 : cod 182 5 = some (.aload_n 0, 1) := cod_of b182 dX8_place_5
theorem t182_5 {d : Nat} {h : Hp} {Q : Pst} {l1 l2 l3 l4 l5 : Value} {x : Nat} {st : List Value} : T d 182 5 [.ref x, l1, l2, l3, l4, l5] st h Q ↔ T d 182 6 [.ref x, l1, l2, l3, l4, l5] (.ref x :: st) h Q := T_aload_n c182_5 rfl
theorem c182_6 : cod 182 6 = some (.iload_n 1, 1) := cod_of b182 dX8_place_6
theorem t182_6 {d : Nat} {h : Hp} {Q : Pst} {l0 l2 l3 l4 l5 : Value} {x : Int32} {st : List Value} : T d 182 6 [l0, .int x, l2, l3, l4, l5] st h Q ↔ T d 182 7 [l0, .int x, l2, l3, l4, l5] (.int x :: st) h Q := T_iload_n c182_6 rfl
theorem c182_7 : cod 182 7 = some (.invokevirtual 157, 3) := cod_of b182 dX8_place_7
theorem t182_7 {d : Nat} {h : Hp} {Q : Pst} {a0 : Int32} {a : Nat} {ls : List Value} (ho : isO (h.2.2 a) 7) : T (d + 1) 182 7 ls [.int a0, .ref a] h Q ↔ T d 163 0 [.ref a, .int a0] [] h (fun x h2 => T (d + 1) 182 10 ls (rl x []) h2 Q) := T_virtualR (as := [.int a0]) (r := []) m182 m163 c182_7 k8_157  rfl (by decide) rfl (by simp [wrd, Value.category]) (by simp [stk, Value.category]) rfl (by decide +kernel) ho
theorem c182_10 : cod 182 10 = some (.ifCond .ne 10, 3) := cod_of b182 dX8_place_10
theorem t182_10 {d : Nat} {h : Hp} {Q : Pst} {x : Int32} {ls : List Value} {st : List Value} : T d 182 10 ls (.int x :: st) h Q ↔ (if ¬ x = 0 then T d 182 20 ls st h Q else T d 182 13 ls st h Q) := T_if_ne c182_10 (by decide)
theorem c182_13 : cod 182 13 = some (.aload_n 0, 1) := cod_of b182 dX8_place_13
theorem t182_13 {d : Nat} {h : Hp} {Q : Pst} {l1 l2 l3 l4 l5 : Value} {x : Nat} {st : List Value} : T d 182 13 [.ref x, l1, l2, l3, l4, l5] st h Q ↔ T d 182 14 [.ref x, l1, l2, l3, l4, l5] (.ref x :: st) h Q := T_aload_n c182_13 rfl
theorem c182_14 : cod 182 14 = some (.bipush (-10), 2) := cod_of b182 dX8_place_14
theorem t182_14 {d : Nat} {h : Hp} {Q : Pst} {ls : List Value} {st : List Value} : T d 182 14 ls st h Q ↔ T d 182 16 ls (.int (-10) :: st) h Q := T_bipushV c182_14 (by decide)
theorem c182_16 : cod 182 16 = some (.invokevirtual 176, 3) := cod_of b182 dX8_place_16
theorem t182_16 {d : Nat} {h : Hp} {Q : Pst} {a0 : Int32} {a : Nat} {ls : List Value} (ho : isO (h.2.2 a) 7) : T (d + 1) 182 16 ls [.int a0, .ref a] h Q ↔ T d 130 0 [.ref a, .int a0] [] h (fun x h2 => T (d + 1) 182 19 ls (rl x []) h2 Q) := T_virtualR (as := [.int a0]) (r := []) m182 m130 c182_16 k8_176  rfl (by decide) rfl (by simp [wrd, Value.category]) (by simp [stk, Value.category]) rfl (by decide +kernel) ho
theorem c182_19 : cod 182 19 = some (.ireturn, 1) := cod_of b182 dX8_place_19
theorem t182_19 {d : Nat} {h : Hp} {Q : Pst} {x : Int32} {ls : List Value} : T d 182 19 ls [.int x] h Q ↔ Q (some (.int x)) h := T_iretR m182 c182_19 rfl
theorem c182_20 : cod 182 20 = some (.iconst 0, 1) := cod_of b182 dX8_place_20
theorem t182_20 {d : Nat} {h : Hp} {Q : Pst} {ls : List Value} {st : List Value} : T d 182 20 ls st h Q ↔ T d 182 21 ls (.int 0 :: st) h Q := T_iconstV c182_20 (by decide)
theorem c182_21 : cod 182 21 = some (.istore_n 2, 1) := cod_of b182 dX8_place_21
theorem t182_21 {d : Nat} {h : Hp} {Q : Pst} {l0 l1 l2 l3 l4 l5 : Value} {x : Int32} {st : List Value} : T d 182 21 [l0, l1, l2, l3, l4, l5] (.int x :: st) h Q ↔ T d 182 22 [l0, kil l1, .int x, l3, l4, l5] st h Q := T_istore_n c182_21 (Nat.le_of_ble_eq_true rfl)
theorem c182_22 : cod 182 22 = some (.iload_n 2, 1) := cod_of b182 dX8_place_22
theorem t182_22 {d : Nat} {h : Hp} {Q : Pst} {l0 l1 l3 l4 l5 : Value} {x : Int32} {st : List Value} : T d 182 22 [l0, l1, .int x, l3, l4, l5] st h Q ↔ T d 182 23 [l0, l1, .int x, l3, l4, l5] (.int x :: st) h Q := T_iload_n c182_22 rfl
theorem c182_23 : cod 182 23 = some (.bipush 6, 2) := cod_of b182 dX8_place_23
theorem t182_23 {d : Nat} {h : Hp} {Q : Pst} {ls : List Value} {st : List Value} : T d 182 23 ls st h Q ↔ T d 182 25 ls (.int 6 :: st) h Q := T_bipushV c182_23 (by decide)
theorem c182_25 : cod 182 25 = some (.if_icmp .ge 16, 3) := cod_of b182 dX8_place_25
theorem t182_25 {d : Nat} {h : Hp} {Q : Pst} {x y : Int32} {ls : List Value} {st : List Value} : T d 182 25 ls (.int y :: .int x :: st) h Q ↔ (if y ≤ x then T d 182 41 ls st h Q else T d 182 28 ls st h Q) := T_icmp_ge c182_25 (by decide)
theorem c182_28 : cod 182 28 = some (.aload_n 0, 1) := cod_of b182 dX8_place_28
theorem t182_28 {d : Nat} {h : Hp} {Q : Pst} {l1 l2 l3 l4 l5 : Value} {x : Nat} {st : List Value} : T d 182 28 [.ref x, l1, l2, l3, l4, l5] st h Q ↔ T d 182 29 [.ref x, l1, l2, l3, l4, l5] (.ref x :: st) h Q := T_aload_n c182_28 rfl
theorem c182_29 : cod 182 29 = some (.getfield 30, 3) := cod_of b182 dX8_place_29
theorem t182_29 {d : Nat} {h : Hp} {Q : Pst} {a : Nat} {ls : List Value} {st : List Value} : T d 182 29 ls (.ref a :: st) h Q ↔ gF (h.2.2 a) 7 13 (fun v => T d 182 32 ls (v :: st) h Q) := T_getfieldR m182 c182_29 f8_30
theorem c182_32 : cod 182 32 = some (.iload_n 2, 1) := cod_of b182 dX8_place_32
theorem t182_32 {d : Nat} {h : Hp} {Q : Pst} {l0 l1 l3 l4 l5 : Value} {x : Int32} {st : List Value} : T d 182 32 [l0, l1, .int x, l3, l4, l5] st h Q ↔ T d 182 33 [l0, l1, .int x, l3, l4, l5] (.int x :: st) h Q := T_iload_n c182_32 rfl
theorem c182_33 : cod 182 33 = some (.iconst 0, 1) := cod_of b182 dX8_place_33
theorem t182_33 {d : Nat} {h : Hp} {Q : Pst} {ls : List Value} {st : List Value} : T d 182 33 ls st h Q ↔ T d 182 34 ls (.int 0 :: st) h Q := T_iconstV c182_33 (by decide)
theorem c182_34 : cod 182 34 = some (.iastore, 1) := cod_of b182 dX8_place_34
theorem t182_34 {d : Nat} {h : Hp} {Q : Pst} {a : Nat} {i x : Int32} {ls : List Value} {st : List Value} : T d 182 34 ls (.int x :: .int i :: .ref a :: st) h Q ↔ aS (h.2.2 a) i x (fun cell => T d 182 35 ls st (hup h a cell) Q) := T_iastore c182_34
theorem c182_35 : cod 182 35 = some (.iinc 2 1, 3) := cod_of b182 dX8_place_35
theorem t182_35 {d : Nat} {h : Hp} {Q : Pst} {l0 l1 l3 l4 l5 : Value} {x : Int32} {st : List Value} : T d 182 35 [l0, l1, .int x, l3, l4, l5] st h Q ↔ T d 182 38 [l0, kil l1, .int (x + 1), l3, l4, l5] st h Q := T_iincV c182_35 rfl (Nat.le_of_ble_eq_true rfl) (by decide) rfl
theorem c182_38 : cod 182 38 = some (.goto (-16), 3) := cod_of b182 dX8_place_38
theorem t182_38 {d : Nat} {h : Hp} {Q : Pst} {ls : List Value} {st : List Value} : T d 182 38 ls st h Q ↔ T d 182 22 ls st h Q := T_goto c182_38 (by decide)
theorem c182_41 : cod 182 41 = some (.iconst (-1), 1) := cod_of b182 dX8_place_41
theorem t182_41 {d : Nat} {h : Hp} {Q : Pst} {ls : List Value} {st : List Value} : T d 182 41 ls st h Q ↔ T d 182 42 ls (.int (-1) :: st) h Q := T_iconstV c182_41 (by decide)
theorem c182_42 : cod 182 42 = some (.istore_n 2, 1) := cod_of b182 dX8_place_42
theorem t182_42 {d : Nat} {h : Hp} {Q : Pst} {l0 l1 l2 l3 l4 l5 : Value} {x : Int32} {st : List Value} : T d 182 42 [l0, l1, l2, l3, l4, l5] (.int x :: st) h Q ↔ T d 182 43 [l0, kil l1, .int x, l3, l4, l5] st h Q := T_istore_n c182_42 (Nat.le_of_ble_eq_true rfl)
theorem c182_43 : cod 182 43 = some (.iconst 1, 1) := cod_of b182 dX8_place_43
theorem t182_43 {d : Nat} {h : Hp} {Q : Pst} {ls : List Value} {st : List Value} : T d 182 43 ls st h Q ↔ T d 182 44 ls (.int 1 :: st) h Q := T_iconstV c182_43 (by decide)
theorem c182_44 : cod 182 44 = some (.istore_n 3, 1) := cod_of b182 dX8_place_44
theorem t182_44 {d : Nat} {h : Hp} {Q : Pst} {l0 l1 l2 l3 l4 l5 : Value} {x : Int32} {st : List Value} : T d 182 44 [l0, l1, l2, l3, l4, l5] (.int x :: st) h Q ↔ T d 182 45 [l0, l1, kil l2, .int x, l4, l5] st h Q := T_istore_n c182_44 (Nat.le_of_ble_eq_true rfl)
theorem c182_45 : cod 182 45 = some (.iload_n 3, 1) := cod_of b182 dX8_place_45
theorem t182_45 {d : Nat} {h : Hp} {Q : Pst} {l0 l1 l2 l4 l5 : Value} {x : Int32} {st : List Value} : T d 182 45 [l0, l1, l2, .int x, l4, l5] st h Q ↔ T d 182 46 [l0, l1, l2, .int x, l4, l5] (.int x :: st) h Q := T_iload_n c182_45 rfl
theorem c182_46 : cod 182 46 = some (.ifCond .eq 56, 3) := cod_of b182 dX8_place_46
theorem t182_46 {d : Nat} {h : Hp} {Q : Pst} {x : Int32} {ls : List Value} {st : List Value} : T d 182 46 ls (.int x :: st) h Q ↔ (if x = 0 then T d 182 102 ls st h Q else T d 182 49 ls st h Q) := T_if_eq c182_46 (by decide)
theorem c182_49 : cod 182 49 = some (.aload_n 0, 1) := cod_of b182 dX8_place_49
theorem t182_49 {d : Nat} {h : Hp} {Q : Pst} {l1 l2 l3 l4 l5 : Value} {x : Nat} {st : List Value} : T d 182 49 [.ref x, l1, l2, l3, l4, l5] st h Q ↔ T d 182 50 [.ref x, l1, l2, l3, l4, l5] (.ref x :: st) h Q := T_aload_n c182_49 rfl
theorem c182_50 : cod 182 50 = some (.invokevirtual 179, 3) := cod_of b182 dX8_place_50
theorem t182_50 {d : Nat} {h : Hp} {Q : Pst} {a : Nat} {ls : List Value} (ho : isO (h.2.2 a) 7) : T (d + 1) 182 50 ls [.ref a] h Q ↔ T d 180 0 [.ref a, un, un] [] h (fun x h2 => T (d + 1) 182 53 ls (rl x []) h2 Q) := T_virtualR (as := []) (r := []) m182 m180 c182_50 k8_179  rfl (by decide) rfl (by simp [wrd, Value.category]) (by simp [stk, Value.category]) rfl (by decide +kernel) ho
theorem c182_53 : cod 182 53 = some (.istore 4, 2) := cod_of b182 dX8_place_53
theorem t182_53 {d : Nat} {h : Hp} {Q : Pst} {l0 l1 l2 l3 l4 l5 : Value} {x : Int32} {st : List Value} : T d 182 53 [l0, l1, l2, l3, l4, l5] (.int x :: st) h Q ↔ T d 182 55 [l0, l1, l2, kil l3, .int x, l5] st h Q := T_istore c182_53 (Nat.le_of_ble_eq_true rfl)
theorem c182_55 : cod 182 55 = some (.iload 4, 2) := cod_of b182 dX8_place_55
theorem t182_55 {d : Nat} {h : Hp} {Q : Pst} {l0 l1 l2 l3 l5 : Value} {x : Int32} {st : List Value} : T d 182 55 [l0, l1, l2, l3, .int x, l5] st h Q ↔ T d 182 57 [l0, l1, l2, l3, .int x, l5] (.int x :: st) h Q := T_iload c182_55 rfl
theorem c182_57 : cod 182 57 = some (.iload_n 2, 1) := cod_of b182 dX8_place_57
theorem t182_57 {d : Nat} {h : Hp} {Q : Pst} {l0 l1 l3 l4 l5 : Value} {x : Int32} {st : List Value} : T d 182 57 [l0, l1, .int x, l3, l4, l5] st h Q ↔ T d 182 58 [l0, l1, .int x, l3, l4, l5] (.int x :: st) h Q := T_iload_n c182_57 rfl
theorem c182_58 : cod 182 58 = some (.if_icmp .le 36, 3) := cod_of b182 dX8_place_58
theorem t182_58 {d : Nat} {h : Hp} {Q : Pst} {x y : Int32} {ls : List Value} {st : List Value} : T d 182 58 ls (.int y :: .int x :: st) h Q ↔ (if x ≤ y then T d 182 94 ls st h Q else T d 182 61 ls st h Q) := T_icmp_le c182_58 (by decide)
theorem c182_61 : cod 182 61 = some (.iload 4, 2) := cod_of b182 dX8_place_61
theorem t182_61 {d : Nat} {h : Hp} {Q : Pst} {l0 l1 l2 l3 l5 : Value} {x : Int32} {st : List Value} : T d 182 61 [l0, l1, l2, l3, .int x, l5] st h Q ↔ T d 182 63 [l0, l1, l2, l3, .int x, l5] (.int x :: st) h Q := T_iload c182_61 rfl
theorem c182_63 : cod 182 63 = some (.istore_n 2, 1) := cod_of b182 dX8_place_63
theorem t182_63 {d : Nat} {h : Hp} {Q : Pst} {l0 l1 l2 l3 l4 l5 : Value} {x : Int32} {st : List Value} : T d 182 63 [l0, l1, l2, l3, l4, l5] (.int x :: st) h Q ↔ T d 182 64 [l0, kil l1, .int x, l3, l4, l5] st h Q := T_istore_n c182_63 (Nat.le_of_ble_eq_true rfl)
theorem c182_64 : cod 182 64 = some (.iconst 0, 1) := cod_of b182 dX8_place_64
theorem t182_64 {d : Nat} {h : Hp} {Q : Pst} {ls : List Value} {st : List Value} : T d 182 64 ls st h Q ↔ T d 182 65 ls (.int 0 :: st) h Q := T_iconstV c182_64 (by decide)
theorem c182_65 : cod 182 65 = some (.istore 5, 2) := cod_of b182 dX8_place_65
theorem t182_65 {d : Nat} {h : Hp} {Q : Pst} {l0 l1 l2 l3 l4 l5 : Value} {x : Int32} {st : List Value} : T d 182 65 [l0, l1, l2, l3, l4, l5] (.int x :: st) h Q ↔ T d 182 67 [l0, l1, l2, l3, kil l4, .int x] st h Q := T_istore c182_65 (Nat.le_of_ble_eq_true rfl)
theorem c182_67 : cod 182 67 = some (.iload 5, 2) := cod_of b182 dX8_place_67
theorem t182_67 {d : Nat} {h : Hp} {Q : Pst} {l0 l1 l2 l3 l4 : Value} {x : Int32} {st : List Value} : T d 182 67 [l0, l1, l2, l3, l4, .int x] st h Q ↔ T d 182 69 [l0, l1, l2, l3, l4, .int x] (.int x :: st) h Q := T_iload c182_67 rfl
theorem c182_69 : cod 182 69 = some (.bipush 6, 2) := cod_of b182 dX8_place_69
theorem t182_69 {d : Nat} {h : Hp} {Q : Pst} {ls : List Value} {st : List Value} : T d 182 69 ls st h Q ↔ T d 182 71 ls (.int 6 :: st) h Q := T_bipushV c182_69 (by decide)
theorem c182_71 : cod 182 71 = some (.if_icmp .ge 23, 3) := cod_of b182 dX8_place_71
theorem t182_71 {d : Nat} {h : Hp} {Q : Pst} {x y : Int32} {ls : List Value} {st : List Value} : T d 182 71 ls (.int y :: .int x :: st) h Q ↔ (if y ≤ x then T d 182 94 ls st h Q else T d 182 74 ls st h Q) := T_icmp_ge c182_71 (by decide)
theorem c182_74 : cod 182 74 = some (.aload_n 0, 1) := cod_of b182 dX8_place_74
theorem t182_74 {d : Nat} {h : Hp} {Q : Pst} {l1 l2 l3 l4 l5 : Value} {x : Nat} {st : List Value} : T d 182 74 [.ref x, l1, l2, l3, l4, l5] st h Q ↔ T d 182 75 [.ref x, l1, l2, l3, l4, l5] (.ref x :: st) h Q := T_aload_n c182_74 rfl
theorem c182_75 : cod 182 75 = some (.getfield 33, 3) := cod_of b182 dX8_place_75
theorem t182_75 {d : Nat} {h : Hp} {Q : Pst} {a : Nat} {ls : List Value} {st : List Value} : T d 182 75 ls (.ref a :: st) h Q ↔ gF (h.2.2 a) 7 14 (fun v => T d 182 78 ls (v :: st) h Q) := T_getfieldR m182 c182_75 f8_33
theorem c182_78 : cod 182 78 = some (.iload 5, 2) := cod_of b182 dX8_place_78
theorem t182_78 {d : Nat} {h : Hp} {Q : Pst} {l0 l1 l2 l3 l4 : Value} {x : Int32} {st : List Value} : T d 182 78 [l0, l1, l2, l3, l4, .int x] st h Q ↔ T d 182 80 [l0, l1, l2, l3, l4, .int x] (.int x :: st) h Q := T_iload c182_78 rfl
theorem c182_80 : cod 182 80 = some (.aload_n 0, 1) := cod_of b182 dX8_place_80
theorem t182_80 {d : Nat} {h : Hp} {Q : Pst} {l1 l2 l3 l4 l5 : Value} {x : Nat} {st : List Value} : T d 182 80 [.ref x, l1, l2, l3, l4, l5] st h Q ↔ T d 182 81 [.ref x, l1, l2, l3, l4, l5] (.ref x :: st) h Q := T_aload_n c182_80 rfl
theorem c182_81 : cod 182 81 = some (.getfield 30, 3) := cod_of b182 dX8_place_81
theorem t182_81 {d : Nat} {h : Hp} {Q : Pst} {a : Nat} {ls : List Value} {st : List Value} : T d 182 81 ls (.ref a :: st) h Q ↔ gF (h.2.2 a) 7 13 (fun v => T d 182 84 ls (v :: st) h Q) := T_getfieldR m182 c182_81 f8_30
theorem c182_84 : cod 182 84 = some (.iload 5, 2) := cod_of b182 dX8_place_84
theorem t182_84 {d : Nat} {h : Hp} {Q : Pst} {l0 l1 l2 l3 l4 : Value} {x : Int32} {st : List Value} : T d 182 84 [l0, l1, l2, l3, l4, .int x] st h Q ↔ T d 182 86 [l0, l1, l2, l3, l4, .int x] (.int x :: st) h Q := T_iload c182_84 rfl
theorem c182_86 : cod 182 86 = some (.iaload, 1) := cod_of b182 dX8_place_86
theorem t182_86 {d : Nat} {h : Hp} {Q : Pst} {a : Nat} {i : Int32} {ls : List Value} {st : List Value} : T d 182 86 ls (.int i :: .ref a :: st) h Q ↔ aL (h.2.2 a) i (fun x => T d 182 87 ls (.int x :: st) h Q) := T_iaload c182_86
theorem c182_87 : cod 182 87 = some (.iastore, 1) := cod_of b182 dX8_place_87
theorem t182_87 {d : Nat} {h : Hp} {Q : Pst} {a : Nat} {i x : Int32} {ls : List Value} {st : List Value} : T d 182 87 ls (.int x :: .int i :: .ref a :: st) h Q ↔ aS (h.2.2 a) i x (fun cell => T d 182 88 ls st (hup h a cell) Q) := T_iastore c182_87
theorem c182_88 : cod 182 88 = some (.iinc 5 1, 3) := cod_of b182 dX8_place_88
theorem t182_88 {d : Nat} {h : Hp} {Q : Pst} {l0 l1 l2 l3 l4 : Value} {x : Int32} {st : List Value} : T d 182 88 [l0, l1, l2, l3, l4, .int x] st h Q ↔ T d 182 91 [l0, l1, l2, l3, kil l4, .int (x + 1)] st h Q := T_iincV c182_88 rfl (Nat.le_of_ble_eq_true rfl) (by decide) rfl
theorem c182_91 : cod 182 91 = some (.goto (-24), 3) := cod_of b182 dX8_place_91
theorem t182_91 {d : Nat} {h : Hp} {Q : Pst} {ls : List Value} {st : List Value} : T d 182 91 ls st h Q ↔ T d 182 67 ls st h Q := T_goto c182_91 (by decide)
theorem c182_94 : cod 182 94 = some (.aload_n 0, 1) := cod_of b182 dX8_place_94
theorem t182_94 {d : Nat} {h : Hp} {Q : Pst} {l1 l2 l3 l4 l5 : Value} {x : Nat} {st : List Value} : T d 182 94 [.ref x, l1, l2, l3, l4, l5] st h Q ↔ T d 182 95 [.ref x, l1, l2, l3, l4, l5] (.ref x :: st) h Q := T_aload_n c182_94 rfl
theorem c182_95 : cod 182 95 = some (.invokevirtual 182, 3) := cod_of b182 dX8_place_95
theorem t182_95 {d : Nat} {h : Hp} {Q : Pst} {a : Nat} {ls : List Value} (ho : isO (h.2.2 a) 7) : T (d + 1) 182 95 ls [.ref a] h Q ↔ T d 181 0 [.ref a, un] [] h (fun x h2 => T (d + 1) 182 98 ls (rl x []) h2 Q) := T_virtualR (as := []) (r := []) m182 m181 c182_95 k8_182  rfl (by decide) rfl (by simp [wrd, Value.category]) (by simp [stk, Value.category]) rfl (by decide +kernel) ho
theorem c182_98 : cod 182 98 = some (.istore_n 3, 1) := cod_of b182 dX8_place_98
theorem t182_98 {d : Nat} {h : Hp} {Q : Pst} {l0 l1 l2 l3 l4 l5 : Value} {x : Int32} {st : List Value} : T d 182 98 [l0, l1, l2, l3, l4, l5] (.int x :: st) h Q ↔ T d 182 99 [l0, l1, kil l2, .int x, l4, l5] st h Q := T_istore_n c182_98 (Nat.le_of_ble_eq_true rfl)
theorem c182_99 : cod 182 99 = some (.goto (-54), 3) := cod_of b182 dX8_place_99
theorem t182_99 {d : Nat} {h : Hp} {Q : Pst} {ls : List Value} {st : List Value} : T d 182 99 ls st h Q ↔ T d 182 45 ls st h Q := T_goto c182_99 (by decide)
theorem c182_102 : cod 182 102 = some (.iload_n 1, 1) := cod_of b182 dX8_place_102
theorem t182_102 {d : Nat} {h : Hp} {Q : Pst} {l0 l2 l3 l4 l5 : Value} {x : Int32} {st : List Value} : T d 182 102 [l0, .int x, l2, l3, l4, l5] st h Q ↔ T d 182 103 [l0, .int x, l2, l3, l4, l5] (.int x :: st) h Q := T_iload_n c182_102 rfl
theorem c182_103 : cod 182 103 = some (.iconst (-1), 1) := cod_of b182 dX8_place_103
theorem t182_103 {d : Nat} {h : Hp} {Q : Pst} {ls : List Value} {st : List Value} : T d 182 103 ls st h Q ↔ T d 182 104 ls (.int (-1) :: st) h Q := T_iconstV c182_103 (by decide)
theorem c182_104 : cod 182 104 = some (.if_icmp .ne 7, 3) := cod_of b182 dX8_place_104
theorem t182_104 {d : Nat} {h : Hp} {Q : Pst} {x y : Int32} {ls : List Value} {st : List Value} : T d 182 104 ls (.int y :: .int x :: st) h Q ↔ (if ¬ x = y then T d 182 111 ls st h Q else T d 182 107 ls st h Q) := T_icmp_ne c182_104 (by decide)
theorem c182_107 : cod 182 107 = some (.iload_n 2, 1) := cod_of b182 dX8_place_107
theorem t182_107 {d : Nat} {h : Hp} {Q : Pst} {l0 l1 l3 l4 l5 : Value} {x : Int32} {st : List Value} : T d 182 107 [l0, l1, .int x, l3, l4, l5] st h Q ↔ T d 182 108 [l0, l1, .int x, l3, l4, l5] (.int x :: st) h Q := T_iload_n c182_107 rfl
theorem c182_108 : cod 182 108 = some (.goto 11, 3) := cod_of b182 dX8_place_108
theorem t182_108 {d : Nat} {h : Hp} {Q : Pst} {ls : List Value} {st : List Value} : T d 182 108 ls st h Q ↔ T d 182 119 ls st h Q := T_goto c182_108 (by decide)
theorem c182_119 : cod 182 119 = some (.ireturn, 1) := cod_of b182 dX8_place_119
theorem t182_119 {d : Nat} {h : Hp} {Q : Pst} {x : Int32} {ls : List Value} : T d 182 119 ls [.int x] h Q ↔ Q (some (.int x)) h := T_iretR m182 c182_119 rfl
theorem c182_111 : cod 182 111 = some (.aload_n 0, 1) := cod_of b182 dX8_place_111
theorem t182_111 {d : Nat} {h : Hp} {Q : Pst} {l1 l2 l3 l4 l5 : Value} {x : Nat} {st : List Value} : T d 182 111 [.ref x, l1, l2, l3, l4, l5] st h Q ↔ T d 182 112 [.ref x, l1, l2, l3, l4, l5] (.ref x :: st) h Q := T_aload_n c182_111 rfl
theorem c182_112 : cod 182 112 = some (.getfield 33, 3) := cod_of b182 dX8_place_112
theorem t182_112 {d : Nat} {h : Hp} {Q : Pst} {a : Nat} {ls : List Value} {st : List Value} : T d 182 112 ls (.ref a :: st) h Q ↔ gF (h.2.2 a) 7 14 (fun v => T d 182 115 ls (v :: st) h Q) := T_getfieldR m182 c182_112 f8_33
theorem c182_115 : cod 182 115 = some (.iload_n 1, 1) := cod_of b182 dX8_place_115
theorem t182_115 {d : Nat} {h : Hp} {Q : Pst} {l0 l2 l3 l4 l5 : Value} {x : Int32} {st : List Value} : T d 182 115 [l0, .int x, l2, l3, l4, l5] st h Q ↔ T d 182 116 [l0, .int x, l2, l3, l4, l5] (.int x :: st) h Q := T_iload_n c182_115 rfl
theorem c182_116 : cod 182 116 = some (.iaload, 1) := cod_of b182 dX8_place_116
theorem t182_116 {d : Nat} {h : Hp} {Q : Pst} {a : Nat} {i : Int32} {ls : List Value} {st : List Value} : T d 182 116 ls (.int i :: .ref a :: st) h Q ↔ aL (h.2.2 a) i (fun x => T d 182 117 ls (.int x :: st) h Q) := T_iaload c182_116
theorem c182_117 : cod 182 117 = some (.iconst 1, 1) := cod_of b182 dX8_place_117
theorem t182_117 {d : Nat} {h : Hp} {Q : Pst} {ls : List Value} {st : List Value} : T d 182 117 ls st h Q ↔ T d 182 118 ls (.int 1 :: st) h Q := T_iconstV c182_117 (by decide)
theorem c182_118 : cod 182 118 = some (.isub, 1) := cod_of b182 dX8_place_118
theorem t182_118 {d : Nat} {h : Hp} {Q : Pst} {x y : Int32} {ls : List Value} {st : List Value} : T d 182 118 ls (.int y :: .int x :: st) h Q ↔ T d 182 119 ls (.int (x - y) :: st) h Q := T_isub c182_118
theorem b183 : (mR 183).2.2.1 = cX8_seen := by rw [m183]
theorem c183_0 : cod 183 0 = some (.aload_n 0, 1) := cod_of b183 dX8_seen_0
theorem t183_0 {d : Nat} {h : Hp} {Q : Pst} {l1 l2 l3 l4 l5 : Value} {x : Nat} {st : List Value} : T d 183 0 [.ref x, l1, l2, l3, l4, l5] st h Q ↔ T d 183 1 [.ref x, l1, l2, l3, l4, l5] (.ref x :: st) h Q := T_aload_n c183_0 rfl
theorem c183_1 : cod 183 1 = some (.iload_n 1, 1) := cod_of b183 dX8_seen_1
theorem t183_1 {d : Nat} {h : Hp} {Q : Pst} {l0 l2 l3 l4 l5 : Value} {x : Int32} {st : List Value} : T d 183 1 [l0, .int x, l2, l3, l4, l5] st h Q ↔ T d 183 2 [l0, .int x, l2, l3, l4, l5] (.int x :: st) h Q := T_iload_n c183_1 rfl
theorem c183_2 : cod 183 2 = some (.invokevirtual 157, 3) := cod_of b183 dX8_seen_2
theorem t183_2 {d : Nat} {h : Hp} {Q : Pst} {a0 : Int32} {a : Nat} {ls : List Value} (ho : isO (h.2.2 a) 7) : T (d + 1) 183 2 ls [.int a0, .ref a] h Q ↔ T d 163 0 [.ref a, .int a0] [] h (fun x h2 => T (d + 1) 183 5 ls (rl x []) h2 Q) := T_virtualR (as := [.int a0]) (r := []) m183 m163 c183_2 k8_157  rfl (by decide) rfl (by simp [wrd, Value.category]) (by simp [stk, Value.category]) rfl (by decide +kernel) ho
theorem c183_5 : cod 183 5 = some (.ifCond .eq 30, 3) := cod_of b183 dX8_seen_5
theorem t183_5 {d : Nat} {h : Hp} {Q : Pst} {x : Int32} {ls : List Value} {st : List Value} : T d 183 5 ls (.int x :: st) h Q ↔ (if x = 0 then T d 183 35 ls st h Q else T d 183 8 ls st h Q) := T_if_eq c183_5 (by decide)
theorem c183_8 : cod 183 8 = some (.aload_n 0, 1) := cod_of b183 dX8_seen_8
theorem t183_8 {d : Nat} {h : Hp} {Q : Pst} {l1 l2 l3 l4 l5 : Value} {x : Nat} {st : List Value} : T d 183 8 [.ref x, l1, l2, l3, l4, l5] st h Q ↔ T d 183 9 [.ref x, l1, l2, l3, l4, l5] (.ref x :: st) h Q := T_aload_n c183_8 rfl
theorem c183_9 : cod 183 9 = some (.iload_n 2, 1) := cod_of b183 dX8_seen_9
theorem t183_9 {d : Nat} {h : Hp} {Q : Pst} {l0 l1 l3 l4 l5 : Value} {x : Int32} {st : List Value} : T d 183 9 [l0, l1, .int x, l3, l4, l5] st h Q ↔ T d 183 10 [l0, l1, .int x, l3, l4, l5] (.int x :: st) h Q := T_iload_n c183_9 rfl
theorem c183_10 : cod 183 10 = some (.invokevirtual 160, 3) := cod_of b183 dX8_seen_10
theorem t183_10 {d : Nat} {h : Hp} {Q : Pst} {a0 : Int32} {a : Nat} {ls : List Value} (ho : isO (h.2.2 a) 7) : T (d + 1) 183 10 ls [.int a0, .ref a] h Q ↔ T d 164 0 [.ref a, .int a0] [] h (fun x h2 => T (d + 1) 183 13 ls (rl x []) h2 Q) := T_virtualR (as := [.int a0]) (r := []) m183 m164 c183_10 k8_160  rfl (by decide) rfl (by simp [wrd, Value.category]) (by simp [stk, Value.category]) rfl (by decide +kernel) ho
theorem c183_13 : cod 183 13 = some (.ifCond .eq 22, 3) := cod_of b183 dX8_seen_13
theorem t183_13 {d : Nat} {h : Hp} {Q : Pst} {x : Int32} {ls : List Value} {st : List Value} : T d 183 13 ls (.int x :: st) h Q ↔ (if x = 0 then T d 183 35 ls st h Q else T d 183 16 ls st h Q) := T_if_eq c183_13 (by decide)
theorem c183_16 : cod 183 16 = some (.iload_n 3, 1) := cod_of b183 dX8_seen_16
theorem t183_16 {d : Nat} {h : Hp} {Q : Pst} {l0 l1 l2 l4 l5 : Value} {x : Int32} {st : List Value} : T d 183 16 [l0, l1, l2, .int x, l4, l5] st h Q ↔ T d 183 17 [l0, l1, l2, .int x, l4, l5] (.int x :: st) h Q := T_iload_n c183_16 rfl
theorem c183_17 : cod 183 17 = some (.iconst 0, 1) := cod_of b183 dX8_seen_17
theorem t183_17 {d : Nat} {h : Hp} {Q : Pst} {ls : List Value} {st : List Value} : T d 183 17 ls st h Q ↔ T d 183 18 ls (.int 0 :: st) h Q := T_iconstV c183_17 (by decide)
theorem c183_18 : cod 183 18 = some (.iconst 4, 1) := cod_of b183 dX8_seen_18
theorem t183_18 {d : Nat} {h : Hp} {Q : Pst} {ls : List Value} {st : List Value} : T d 183 18 ls st h Q ↔ T d 183 19 ls (.int 4 :: st) h Q := T_iconstV c183_18 (by decide)
theorem c183_19 : cod 183 19 = some (.invokestatic 49, 3) := cod_of b183 dX8_seen_19
theorem t183_19 {d : Nat} {h : Hp} {Q : Pst} {a0 a1 a2 : Int32} {ls : List Value} : T (d + 1) 183 19 ls [.int a2, .int a1, .int a0] h Q ↔ T d 126 0 [.int a0, .int a1, .int a2] [] h (fun x h2 => T (d + 1) 183 22 ls (rl x []) h2 Q) := T_staticR (as := [.int a0, .int a1, .int a2]) (r := []) m183 m126 c183_19 k8_49 (Or.inl rfl) rfl (by decide) rfl (by simp [wrd, Value.category]) (by simp [stk, Value.category]) rfl
theorem c183_22 : cod 183 22 = some (.ifCond .eq 13, 3) := cod_of b183 dX8_seen_22
theorem t183_22 {d : Nat} {h : Hp} {Q : Pst} {x : Int32} {ls : List Value} {st : List Value} : T d 183 22 ls (.int x :: st) h Q ↔ (if x = 0 then T d 183 35 ls st h Q else T d 183 25 ls st h Q) := T_if_eq c183_22 (by decide)
theorem c183_25 : cod 183 25 = some (.iload 4, 2) := cod_of b183 dX8_seen_25
theorem t183_25 {d : Nat} {h : Hp} {Q : Pst} {l0 l1 l2 l3 l5 : Value} {x : Int32} {st : List Value} : T d 183 25 [l0, l1, l2, l3, .int x, l5] st h Q ↔ T d 183 27 [l0, l1, l2, l3, .int x, l5] (.int x :: st) h Q := T_iload c183_25 rfl
theorem c183_27 : cod 183 27 = some (.iconst 0, 1) := cod_of b183 dX8_seen_27
theorem t183_27 {d : Nat} {h : Hp} {Q : Pst} {ls : List Value} {st : List Value} : T d 183 27 ls st h Q ↔ T d 183 28 ls (.int 0 :: st) h Q := T_iconstV c183_27 (by decide)
theorem c183_28 : cod 183 28 = some (.iconst 5, 1) := cod_of b183 dX8_seen_28
theorem t183_28 {d : Nat} {h : Hp} {Q : Pst} {ls : List Value} {st : List Value} : T d 183 28 ls st h Q ↔ T d 183 29 ls (.int 5 :: st) h Q := T_iconstV c183_28 (by decide)
theorem c183_29 : cod 183 29 = some (.invokestatic 49, 3) := cod_of b183 dX8_seen_29
theorem t183_29 {d : Nat} {h : Hp} {Q : Pst} {a0 a1 a2 : Int32} {ls : List Value} : T (d + 1) 183 29 ls [.int a2, .int a1, .int a0] h Q ↔ T d 126 0 [.int a0, .int a1, .int a2] [] h (fun x h2 => T (d + 1) 183 32 ls (rl x []) h2 Q) := T_staticR (as := [.int a0, .int a1, .int a2]) (r := []) m183 m126 c183_29 k8_49 (Or.inl rfl) rfl (by decide) rfl (by simp [wrd, Value.category]) (by simp [stk, Value.category]) rfl
theorem c183_32 : cod 183 32 = some (.ifCond .ne 10, 3) := cod_of b183 dX8_seen_32
theorem t183_32 {d : Nat} {h : Hp} {Q : Pst} {x : Int32} {ls : List Value} {st : List Value} : T d 183 32 ls (.int x :: st) h Q ↔ (if ¬ x = 0 then T d 183 42 ls st h Q else T d 183 35 ls st h Q) := T_if_ne c183_32 (by decide)
theorem c183_42 : cod 183 42 = some (.aload_n 0, 1) := cod_of b183 dX8_seen_42
theorem t183_42 {d : Nat} {h : Hp} {Q : Pst} {l1 l2 l3 l4 l5 : Value} {x : Nat} {st : List Value} : T d 183 42 [.ref x, l1, l2, l3, l4, l5] st h Q ↔ T d 183 43 [.ref x, l1, l2, l3, l4, l5] (.ref x :: st) h Q := T_aload_n c183_42 rfl
theorem c183_43 : cod 183 43 = some (.getfield 7, 3) := cod_of b183 dX8_seen_43
theorem t183_43 {d : Nat} {h : Hp} {Q : Pst} {a : Nat} {ls : List Value} {st : List Value} : T d 183 43 ls (.ref a :: st) h Q ↔ gF (h.2.2 a) 7 0 (fun v => T d 183 46 ls (v :: st) h Q) := T_getfieldR m183 c183_43 f8_7
theorem c183_46 : cod 183 46 = some (.bipush 34, 2) := cod_of b183 dX8_seen_46
theorem t183_46 {d : Nat} {h : Hp} {Q : Pst} {ls : List Value} {st : List Value} : T d 183 46 ls st h Q ↔ T d 183 48 ls (.int 34 :: st) h Q := T_bipushV c183_46 (by decide)
theorem c183_48 : cod 183 48 = some (.iaload, 1) := cod_of b183 dX8_seen_48
theorem t183_48 {d : Nat} {h : Hp} {Q : Pst} {a : Nat} {i : Int32} {ls : List Value} {st : List Value} : T d 183 48 ls (.int i :: .ref a :: st) h Q ↔ aL (h.2.2 a) i (fun x => T d 183 49 ls (.int x :: st) h Q) := T_iaload c183_48
theorem c183_49 : cod 183 49 = some (.iconst 5, 1) := cod_of b183 dX8_seen_49
theorem t183_49 {d : Nat} {h : Hp} {Q : Pst} {ls : List Value} {st : List Value} : T d 183 49 ls st h Q ↔ T d 183 50 ls (.int 5 :: st) h Q := T_iconstV c183_49 (by decide)
theorem c183_50 : cod 183 50 = some (.if_icmp .ne 10, 3) := cod_of b183 dX8_seen_50
theorem t183_50 {d : Nat} {h : Hp} {Q : Pst} {x y : Int32} {ls : List Value} {st : List Value} : T d 183 50 ls (.int y :: .int x :: st) h Q ↔ (if ¬ x = y then T d 183 60 ls st h Q else T d 183 53 ls st h Q) := T_icmp_ne c183_50 (by decide)
theorem c183_53 : cod 183 53 = some (.aload_n 0, 1) := cod_of b183 dX8_seen_53
theorem t183_53 {d : Nat} {h : Hp} {Q : Pst} {l1 l2 l3 l4 l5 : Value} {x : Nat} {st : List Value} : T d 183 53 [.ref x, l1, l2, l3, l4, l5] st h Q ↔ T d 183 54 [.ref x, l1, l2, l3, l4, l5] (.ref x :: st) h Q := T_aload_n c183_53 rfl
theorem c183_54 : cod 183 54 = some (.bipush (-4), 2) := cod_of b183 dX8_seen_54
theorem t183_54 {d : Nat} {h : Hp} {Q : Pst} {ls : List Value} {st : List Value} : T d 183 54 ls st h Q ↔ T d 183 56 ls (.int (-4) :: st) h Q := T_bipushV c183_54 (by decide)
theorem c183_56 : cod 183 56 = some (.invokevirtual 45, 3) := cod_of b183 dX8_seen_56
theorem t183_56 {d : Nat} {h : Hp} {Q : Pst} {a0 : Int32} {a : Nat} {ls : List Value} (ho : isO (h.2.2 a) 7) : T (d + 1) 183 56 ls [.int a0, .ref a] h Q ↔ T d 129 0 [.ref a, .int a0] [] h (fun x h2 => T (d + 1) 183 59 ls (rl x []) h2 Q) := T_virtualR (as := [.int a0]) (r := []) m183 m129 c183_56 k8_45  rfl (by decide) rfl (by simp [wrd, Value.category]) (by simp [stk, Value.category]) rfl (by decide +kernel) ho
theorem c183_59 : cod 183 59 = some (.ireturn, 1) := cod_of b183 dX8_seen_59
theorem t183_59 {d : Nat} {h : Hp} {Q : Pst} {x : Int32} {ls : List Value} : T d 183 59 ls [.int x] h Q ↔ Q (some (.int x)) h := T_iretR m183 c183_59 rfl
theorem c183_60 : cod 183 60 = some (.bipush 35, 2) := cod_of b183 dX8_seen_60
theorem t183_60 {d : Nat} {h : Hp} {Q : Pst} {ls : List Value} {st : List Value} : T d 183 60 ls st h Q ↔ T d 183 62 ls (.int 35 :: st) h Q := T_bipushV c183_60 (by decide)
theorem c183_62 : cod 183 62 = some (.iconst 4, 1) := cod_of b183 dX8_seen_62
theorem t183_62 {d : Nat} {h : Hp} {Q : Pst} {ls : List Value} {st : List Value} : T d 183 62 ls st h Q ↔ T d 183 63 ls (.int 4 :: st) h Q := T_iconstV c183_62 (by decide)
theorem c183_63 : cod 183 63 = some (.aload_n 0, 1) := cod_of b183 dX8_seen_63
theorem t183_63 {d : Nat} {h : Hp} {Q : Pst} {l1 l2 l3 l4 l5 : Value} {x : Nat} {st : List Value} : T d 183 63 [.ref x, l1, l2, l3, l4, l5] st h Q ↔ T d 183 64 [.ref x, l1, l2, l3, l4, l5] (.ref x :: st) h Q := T_aload_n c183_63 rfl
theorem c183_64 : cod 183 64 = some (.getfield 7, 3) := cod_of b183 dX8_seen_64
theorem t183_64 {d : Nat} {h : Hp} {Q : Pst} {a : Nat} {ls : List Value} {st : List Value} : T d 183 64 ls (.ref a :: st) h Q ↔ gF (h.2.2 a) 7 0 (fun v => T d 183 67 ls (v :: st) h Q) := T_getfieldR m183 c183_64 f8_7
theorem c183_67 : cod 183 67 = some (.bipush 34, 2) := cod_of b183 dX8_seen_67
theorem t183_67 {d : Nat} {h : Hp} {Q : Pst} {ls : List Value} {st : List Value} : T d 183 67 ls st h Q ↔ T d 183 69 ls (.int 34 :: st) h Q := T_bipushV c183_67 (by decide)
theorem c183_69 : cod 183 69 = some (.iaload, 1) := cod_of b183 dX8_seen_69
theorem t183_69 {d : Nat} {h : Hp} {Q : Pst} {a : Nat} {i : Int32} {ls : List Value} {st : List Value} : T d 183 69 ls (.int i :: .ref a :: st) h Q ↔ aL (h.2.2 a) i (fun x => T d 183 70 ls (.int x :: st) h Q) := T_iaload c183_69
theorem c183_70 : cod 183 70 = some (.imul, 1) := cod_of b183 dX8_seen_70
theorem t183_70 {d : Nat} {h : Hp} {Q : Pst} {x y : Int32} {ls : List Value} {st : List Value} : T d 183 70 ls (.int y :: .int x :: st) h Q ↔ T d 183 71 ls (.int (x * y) :: st) h Q := T_imul c183_70
theorem c183_71 : cod 183 71 = some (.iadd, 1) := cod_of b183 dX8_seen_71
theorem t183_71 {d : Nat} {h : Hp} {Q : Pst} {x y : Int32} {ls : List Value} {st : List Value} : T d 183 71 ls (.int y :: .int x :: st) h Q ↔ T d 183 72 ls (.int (x + y) :: st) h Q := T_iadd c183_71
theorem c183_72 : cod 183 72 = some (.istore 5, 2) := cod_of b183 dX8_seen_72
theorem t183_72 {d : Nat} {h : Hp} {Q : Pst} {l0 l1 l2 l3 l4 l5 : Value} {x : Int32} {st : List Value} : T d 183 72 [l0, l1, l2, l3, l4, l5] (.int x :: st) h Q ↔ T d 183 74 [l0, l1, l2, l3, kil l4, .int x] st h Q := T_istore c183_72 (Nat.le_of_ble_eq_true rfl)
theorem c183_74 : cod 183 74 = some (.aload_n 0, 1) := cod_of b183 dX8_seen_74
theorem t183_74 {d : Nat} {h : Hp} {Q : Pst} {l1 l2 l3 l4 l5 : Value} {x : Nat} {st : List Value} : T d 183 74 [.ref x, l1, l2, l3, l4, l5] st h Q ↔ T d 183 75 [.ref x, l1, l2, l3, l4, l5] (.ref x :: st) h Q := T_aload_n c183_74 rfl
theorem c183_75 : cod 183 75 = some (.getfield 7, 3) := cod_of b183 dX8_seen_75
theorem t183_75 {d : Nat} {h : Hp} {Q : Pst} {a : Nat} {ls : List Value} {st : List Value} : T d 183 75 ls (.ref a :: st) h Q ↔ gF (h.2.2 a) 7 0 (fun v => T d 183 78 ls (v :: st) h Q) := T_getfieldR m183 c183_75 f8_7
theorem c183_78 : cod 183 78 = some (.iload 5, 2) := cod_of b183 dX8_seen_78
theorem t183_78 {d : Nat} {h : Hp} {Q : Pst} {l0 l1 l2 l3 l4 : Value} {x : Int32} {st : List Value} : T d 183 78 [l0, l1, l2, l3, l4, .int x] st h Q ↔ T d 183 80 [l0, l1, l2, l3, l4, .int x] (.int x :: st) h Q := T_iload c183_78 rfl
theorem c183_80 : cod 183 80 = some (.iload_n 1, 1) := cod_of b183 dX8_seen_80
theorem t183_80 {d : Nat} {h : Hp} {Q : Pst} {l0 l2 l3 l4 l5 : Value} {x : Int32} {st : List Value} : T d 183 80 [l0, .int x, l2, l3, l4, l5] st h Q ↔ T d 183 81 [l0, .int x, l2, l3, l4, l5] (.int x :: st) h Q := T_iload_n c183_80 rfl
theorem c183_81 : cod 183 81 = some (.iastore, 1) := cod_of b183 dX8_seen_81
theorem t183_81 {d : Nat} {h : Hp} {Q : Pst} {a : Nat} {i x : Int32} {ls : List Value} {st : List Value} : T d 183 81 ls (.int x :: .int i :: .ref a :: st) h Q ↔ aS (h.2.2 a) i x (fun cell => T d 183 82 ls st (hup h a cell) Q) := T_iastore c183_81
theorem c183_82 : cod 183 82 = some (.aload_n 0, 1) := cod_of b183 dX8_seen_82
theorem t183_82 {d : Nat} {h : Hp} {Q : Pst} {l1 l2 l3 l4 l5 : Value} {x : Nat} {st : List Value} : T d 183 82 [.ref x, l1, l2, l3, l4, l5] st h Q ↔ T d 183 83 [.ref x, l1, l2, l3, l4, l5] (.ref x :: st) h Q := T_aload_n c183_82 rfl
theorem c183_83 : cod 183 83 = some (.getfield 7, 3) := cod_of b183 dX8_seen_83
theorem t183_83 {d : Nat} {h : Hp} {Q : Pst} {a : Nat} {ls : List Value} {st : List Value} : T d 183 83 ls (.ref a :: st) h Q ↔ gF (h.2.2 a) 7 0 (fun v => T d 183 86 ls (v :: st) h Q) := T_getfieldR m183 c183_83 f8_7
theorem c183_86 : cod 183 86 = some (.iload 5, 2) := cod_of b183 dX8_seen_86
theorem t183_86 {d : Nat} {h : Hp} {Q : Pst} {l0 l1 l2 l3 l4 : Value} {x : Int32} {st : List Value} : T d 183 86 [l0, l1, l2, l3, l4, .int x] st h Q ↔ T d 183 88 [l0, l1, l2, l3, l4, .int x] (.int x :: st) h Q := T_iload c183_86 rfl
theorem c183_88 : cod 183 88 = some (.iconst 1, 1) := cod_of b183 dX8_seen_88
theorem t183_88 {d : Nat} {h : Hp} {Q : Pst} {ls : List Value} {st : List Value} : T d 183 88 ls st h Q ↔ T d 183 89 ls (.int 1 :: st) h Q := T_iconstV c183_88 (by decide)
theorem c183_89 : cod 183 89 = some (.iadd, 1) := cod_of b183 dX8_seen_89
theorem t183_89 {d : Nat} {h : Hp} {Q : Pst} {x y : Int32} {ls : List Value} {st : List Value} : T d 183 89 ls (.int y :: .int x :: st) h Q ↔ T d 183 90 ls (.int (x + y) :: st) h Q := T_iadd c183_89
theorem c183_90 : cod 183 90 = some (.iload_n 2, 1) := cod_of b183 dX8_seen_90
theorem t183_90 {d : Nat} {h : Hp} {Q : Pst} {l0 l1 l3 l4 l5 : Value} {x : Int32} {st : List Value} : T d 183 90 [l0, l1, .int x, l3, l4, l5] st h Q ↔ T d 183 91 [l0, l1, .int x, l3, l4, l5] (.int x :: st) h Q := T_iload_n c183_90 rfl
theorem c183_91 : cod 183 91 = some (.iastore, 1) := cod_of b183 dX8_seen_91
theorem t183_91 {d : Nat} {h : Hp} {Q : Pst} {a : Nat} {i x : Int32} {ls : List Value} {st : List Value} : T d 183 91 ls (.int x :: .int i :: .ref a :: st) h Q ↔ aS (h.2.2 a) i x (fun cell => T d 183 92 ls st (hup h a cell) Q) := T_iastore c183_91
theorem c183_92 : cod 183 92 = some (.aload_n 0, 1) := cod_of b183 dX8_seen_92
theorem t183_92 {d : Nat} {h : Hp} {Q : Pst} {l1 l2 l3 l4 l5 : Value} {x : Nat} {st : List Value} : T d 183 92 [.ref x, l1, l2, l3, l4, l5] st h Q ↔ T d 183 93 [.ref x, l1, l2, l3, l4, l5] (.ref x :: st) h Q := T_aload_n c183_92 rfl
theorem c183_93 : cod 183 93 = some (.getfield 7, 3) := cod_of b183 dX8_seen_93
theorem t183_93 {d : Nat} {h : Hp} {Q : Pst} {a : Nat} {ls : List Value} {st : List Value} : T d 183 93 ls (.ref a :: st) h Q ↔ gF (h.2.2 a) 7 0 (fun v => T d 183 96 ls (v :: st) h Q) := T_getfieldR m183 c183_93 f8_7
theorem c183_96 : cod 183 96 = some (.iload 5, 2) := cod_of b183 dX8_seen_96
theorem t183_96 {d : Nat} {h : Hp} {Q : Pst} {l0 l1 l2 l3 l4 : Value} {x : Int32} {st : List Value} : T d 183 96 [l0, l1, l2, l3, l4, .int x] st h Q ↔ T d 183 98 [l0, l1, l2, l3, l4, .int x] (.int x :: st) h Q := T_iload c183_96 rfl
theorem c183_98 : cod 183 98 = some (.iconst 2, 1) := cod_of b183 dX8_seen_98
theorem t183_98 {d : Nat} {h : Hp} {Q : Pst} {ls : List Value} {st : List Value} : T d 183 98 ls st h Q ↔ T d 183 99 ls (.int 2 :: st) h Q := T_iconstV c183_98 (by decide)
theorem c183_99 : cod 183 99 = some (.iadd, 1) := cod_of b183 dX8_seen_99
theorem t183_99 {d : Nat} {h : Hp} {Q : Pst} {x y : Int32} {ls : List Value} {st : List Value} : T d 183 99 ls (.int y :: .int x :: st) h Q ↔ T d 183 100 ls (.int (x + y) :: st) h Q := T_iadd c183_99
theorem c183_100 : cod 183 100 = some (.iload_n 3, 1) := cod_of b183 dX8_seen_100
theorem t183_100 {d : Nat} {h : Hp} {Q : Pst} {l0 l1 l2 l4 l5 : Value} {x : Int32} {st : List Value} : T d 183 100 [l0, l1, l2, .int x, l4, l5] st h Q ↔ T d 183 101 [l0, l1, l2, .int x, l4, l5] (.int x :: st) h Q := T_iload_n c183_100 rfl
theorem c183_101 : cod 183 101 = some (.iastore, 1) := cod_of b183 dX8_seen_101
theorem t183_101 {d : Nat} {h : Hp} {Q : Pst} {a : Nat} {i x : Int32} {ls : List Value} {st : List Value} : T d 183 101 ls (.int x :: .int i :: .ref a :: st) h Q ↔ aS (h.2.2 a) i x (fun cell => T d 183 102 ls st (hup h a cell) Q) := T_iastore c183_101
theorem c183_102 : cod 183 102 = some (.aload_n 0, 1) := cod_of b183 dX8_seen_102
theorem t183_102 {d : Nat} {h : Hp} {Q : Pst} {l1 l2 l3 l4 l5 : Value} {x : Nat} {st : List Value} : T d 183 102 [.ref x, l1, l2, l3, l4, l5] st h Q ↔ T d 183 103 [.ref x, l1, l2, l3, l4, l5] (.ref x :: st) h Q := T_aload_n c183_102 rfl
theorem c183_103 : cod 183 103 = some (.getfield 7, 3) := cod_of b183 dX8_seen_103
theorem t183_103 {d : Nat} {h : Hp} {Q : Pst} {a : Nat} {ls : List Value} {st : List Value} : T d 183 103 ls (.ref a :: st) h Q ↔ gF (h.2.2 a) 7 0 (fun v => T d 183 106 ls (v :: st) h Q) := T_getfieldR m183 c183_103 f8_7
theorem c183_106 : cod 183 106 = some (.iload 5, 2) := cod_of b183 dX8_seen_106
theorem t183_106 {d : Nat} {h : Hp} {Q : Pst} {l0 l1 l2 l3 l4 : Value} {x : Int32} {st : List Value} : T d 183 106 [l0, l1, l2, l3, l4, .int x] st h Q ↔ T d 183 108 [l0, l1, l2, l3, l4, .int x] (.int x :: st) h Q := T_iload c183_106 rfl
theorem c183_108 : cod 183 108 = some (.iconst 3, 1) := cod_of b183 dX8_seen_108
theorem t183_108 {d : Nat} {h : Hp} {Q : Pst} {ls : List Value} {st : List Value} : T d 183 108 ls st h Q ↔ T d 183 109 ls (.int 3 :: st) h Q := T_iconstV c183_108 (by decide)
theorem c183_109 : cod 183 109 = some (.iadd, 1) := cod_of b183 dX8_seen_109
theorem t183_109 {d : Nat} {h : Hp} {Q : Pst} {x y : Int32} {ls : List Value} {st : List Value} : T d 183 109 ls (.int y :: .int x :: st) h Q ↔ T d 183 110 ls (.int (x + y) :: st) h Q := T_iadd c183_109
theorem c183_110 : cod 183 110 = some (.iload 4, 2) := cod_of b183 dX8_seen_110
theorem t183_110 {d : Nat} {h : Hp} {Q : Pst} {l0 l1 l2 l3 l5 : Value} {x : Int32} {st : List Value} : T d 183 110 [l0, l1, l2, l3, .int x, l5] st h Q ↔ T d 183 112 [l0, l1, l2, l3, .int x, l5] (.int x :: st) h Q := T_iload c183_110 rfl
theorem c183_112 : cod 183 112 = some (.iastore, 1) := cod_of b183 dX8_seen_112
theorem t183_112 {d : Nat} {h : Hp} {Q : Pst} {a : Nat} {i x : Int32} {ls : List Value} {st : List Value} : T d 183 112 ls (.int x :: .int i :: .ref a :: st) h Q ↔ aS (h.2.2 a) i x (fun cell => T d 183 113 ls st (hup h a cell) Q) := T_iastore c183_112
theorem c183_113 : cod 183 113 = some (.aload_n 0, 1) := cod_of b183 dX8_seen_113
theorem t183_113 {d : Nat} {h : Hp} {Q : Pst} {l1 l2 l3 l4 l5 : Value} {x : Nat} {st : List Value} : T d 183 113 [.ref x, l1, l2, l3, l4, l5] st h Q ↔ T d 183 114 [.ref x, l1, l2, l3, l4, l5] (.ref x :: st) h Q := T_aload_n c183_113 rfl
theorem c183_114 : cod 183 114 = some (.getfield 7, 3) := cod_of b183 dX8_seen_114
theorem t183_114 {d : Nat} {h : Hp} {Q : Pst} {a : Nat} {ls : List Value} {st : List Value} : T d 183 114 ls (.ref a :: st) h Q ↔ gF (h.2.2 a) 7 0 (fun v => T d 183 117 ls (v :: st) h Q) := T_getfieldR m183 c183_114 f8_7
theorem c183_117 : cod 183 117 = some (.bipush 34, 2) := cod_of b183 dX8_seen_117
theorem t183_117 {d : Nat} {h : Hp} {Q : Pst} {ls : List Value} {st : List Value} : T d 183 117 ls st h Q ↔ T d 183 119 ls (.int 34 :: st) h Q := T_bipushV c183_117 (by decide)
theorem c183_119 : cod 183 119 = some (.dup2, 1) := cod_of b183 dX8_seen_119
theorem t183_119 {d : Nat} {h : Hp} {Q : Pst} {x : Int32} {y : Nat} {ls : List Value} {st : List Value} : T d 183 119 ls (.int x :: .ref y :: st) h Q ↔ T d 183 120 ls (.int x :: .ref y :: .int x :: .ref y :: st) h Q := T_dup2 c183_119 rfl rfl
theorem c183_120 : cod 183 120 = some (.iaload, 1) := cod_of b183 dX8_seen_120
theorem t183_120 {d : Nat} {h : Hp} {Q : Pst} {a : Nat} {i : Int32} {ls : List Value} {st : List Value} : T d 183 120 ls (.int i :: .ref a :: st) h Q ↔ aL (h.2.2 a) i (fun x => T d 183 121 ls (.int x :: st) h Q) := T_iaload c183_120
theorem c183_121 : cod 183 121 = some (.iconst 1, 1) := cod_of b183 dX8_seen_121
theorem t183_121 {d : Nat} {h : Hp} {Q : Pst} {ls : List Value} {st : List Value} : T d 183 121 ls st h Q ↔ T d 183 122 ls (.int 1 :: st) h Q := T_iconstV c183_121 (by decide)
theorem c183_122 : cod 183 122 = some (.iadd, 1) := cod_of b183 dX8_seen_122
theorem t183_122 {d : Nat} {h : Hp} {Q : Pst} {x y : Int32} {ls : List Value} {st : List Value} : T d 183 122 ls (.int y :: .int x :: st) h Q ↔ T d 183 123 ls (.int (x + y) :: st) h Q := T_iadd c183_122
theorem c183_123 : cod 183 123 = some (.iastore, 1) := cod_of b183 dX8_seen_123
theorem t183_123 {d : Nat} {h : Hp} {Q : Pst} {a : Nat} {i x : Int32} {ls : List Value} {st : List Value} : T d 183 123 ls (.int x :: .int i :: .ref a :: st) h Q ↔ aS (h.2.2 a) i x (fun cell => T d 183 124 ls st (hup h a cell) Q) := T_iastore c183_123
theorem c183_124 : cod 183 124 = some (.aload_n 0, 1) := cod_of b183 dX8_seen_124
theorem t183_124 {d : Nat} {h : Hp} {Q : Pst} {l1 l2 l3 l4 l5 : Value} {x : Nat} {st : List Value} : T d 183 124 [.ref x, l1, l2, l3, l4, l5] st h Q ↔ T d 183 125 [.ref x, l1, l2, l3, l4, l5] (.ref x :: st) h Q := T_aload_n c183_124 rfl
theorem c183_125 : cod 183 125 = some (.getfield 7, 3) := cod_of b183 dX8_seen_125
theorem t183_125 {d : Nat} {h : Hp} {Q : Pst} {a : Nat} {ls : List Value} {st : List Value} : T d 183 125 ls (.ref a :: st) h Q ↔ gF (h.2.2 a) 7 0 (fun v => T d 183 128 ls (v :: st) h Q) := T_getfieldR m183 c183_125 f8_7
theorem c183_128 : cod 183 128 = some (.bipush 34, 2) := cod_of b183 dX8_seen_128
theorem t183_128 {d : Nat} {h : Hp} {Q : Pst} {ls : List Value} {st : List Value} : T d 183 128 ls st h Q ↔ T d 183 130 ls (.int 34 :: st) h Q := T_bipushV c183_128 (by decide)
theorem c183_130 : cod 183 130 = some (.iaload, 1) := cod_of b183 dX8_seen_130
theorem t183_130 {d : Nat} {h : Hp} {Q : Pst} {a : Nat} {i : Int32} {ls : List Value} {st : List Value} : T d 183 130 ls (.int i :: .ref a :: st) h Q ↔ aL (h.2.2 a) i (fun x => T d 183 131 ls (.int x :: st) h Q) := T_iaload c183_130
theorem c183_131 : cod 183 131 = some (.ireturn, 1) := cod_of b183 dX8_seen_131
theorem t183_131 {d : Nat} {h : Hp} {Q : Pst} {x : Int32} {ls : List Value} : T d 183 131 ls [.int x] h Q ↔ Q (some (.int x)) h := T_iretR m183 c183_131 rfl
theorem c183_35 : cod 183 35 = some (.aload_n 0, 1) := cod_of b183 dX8_seen_35
theorem t183_35 {d : Nat} {h : Hp} {Q : Pst} {l1 l2 l3 l4 l5 : Value} {x : Nat} {st : List Value} : T d 183 35 [.ref x, l1, l2, l3, l4, l5] st h Q ↔ T d 183 36 [.ref x, l1, l2, l3, l4, l5] (.ref x :: st) h Q := T_aload_n c183_35 rfl
theorem c183_36 : cod 183 36 = some (.bipush (-2), 2) := cod_of b183 dX8_seen_36
theorem t183_36 {d : Nat} {h : Hp} {Q : Pst} {ls : List Value} {st : List Value} : T d 183 36 ls st h Q ↔ T d 183 38 ls (.int (-2) :: st) h Q := T_bipushV c183_36 (by decide)
theorem c183_38 : cod 183 38 = some (.invokevirtual 45, 3) := cod_of b183 dX8_seen_38
theorem t183_38 {d : Nat} {h : Hp} {Q : Pst} {a0 : Int32} {a : Nat} {ls : List Value} (ho : isO (h.2.2 a) 7) : T (d + 1) 183 38 ls [.int a0, .ref a] h Q ↔ T d 129 0 [.ref a, .int a0] [] h (fun x h2 => T (d + 1) 183 41 ls (rl x []) h2 Q) := T_virtualR (as := [.int a0]) (r := []) m183 m129 c183_38 k8_45  rfl (by decide) rfl (by simp [wrd, Value.category]) (by simp [stk, Value.category]) rfl (by decide +kernel) ho
theorem c183_41 : cod 183 41 = some (.ireturn, 1) := cod_of b183 dX8_seen_41
theorem t183_41 {d : Nat} {h : Hp} {Q : Pst} {x : Int32} {ls : List Value} : T d 183 41 ls [.int x] h Q ↔ Q (some (.int x)) h := T_iretR m183 c183_41 rfl
theorem b184 : (mR 184).2.2.1 = cX8_isSize := by rw [m184]
theorem c184_0 : cod 184 0 = some (.iconst 1, 1) := cod_of b184 dX8_isSize_0
theorem t184_0 {d : Nat} {h : Hp} {Q : Pst} {ls : List Value} {st : List Value} : T d 184 0 ls st h Q ↔ T d 184 1 ls (.int 1 :: st) h Q := T_iconstV c184_0 (by decide)
theorem c184_1 : cod 184 1 = some (.istore_n 3, 1) := cod_of b184 dX8_isSize_1
theorem t184_1 {d : Nat} {h : Hp} {Q : Pst} {l0 l1 l2 l3 l4 : Value} {x : Int32} {st : List Value} : T d 184 1 [l0, l1, l2, l3, l4] (.int x :: st) h Q ↔ T d 184 2 [l0, l1, kil l2, .int x, l4] st h Q := T_istore_n c184_1 (Nat.le_of_ble_eq_true rfl)
theorem c184_2 : cod 184 2 = some (.bipush 35, 2) := cod_of b184 dX8_isSize_2
theorem t184_2 {d : Nat} {h : Hp} {Q : Pst} {ls : List Value} {st : List Value} : T d 184 2 ls st h Q ↔ T d 184 4 ls (.int 35 :: st) h Q := T_bipushV c184_2 (by decide)
theorem c184_4 : cod 184 4 = some (.istore 4, 2) := cod_of b184 dX8_isSize_4
theorem t184_4 {d : Nat} {h : Hp} {Q : Pst} {l0 l1 l2 l3 l4 : Value} {x : Int32} {st : List Value} : T d 184 4 [l0, l1, l2, l3, l4] (.int x :: st) h Q ↔ T d 184 6 [l0, l1, l2, kil l3, .int x] st h Q := T_istore c184_4 (Nat.le_of_ble_eq_true rfl)
theorem c184_6 : cod 184 6 = some (.iload 4, 2) := cod_of b184 dX8_isSize_6
theorem t184_6 {d : Nat} {h : Hp} {Q : Pst} {l0 l1 l2 l3 : Value} {x : Int32} {st : List Value} : T d 184 6 [l0, l1, l2, l3, .int x] st h Q ↔ T d 184 8 [l0, l1, l2, l3, .int x] (.int x :: st) h Q := T_iload c184_6 rfl
theorem c184_8 : cod 184 8 = some (.bipush 35, 2) := cod_of b184 dX8_isSize_8
theorem t184_8 {d : Nat} {h : Hp} {Q : Pst} {ls : List Value} {st : List Value} : T d 184 8 ls st h Q ↔ T d 184 10 ls (.int 35 :: st) h Q := T_bipushV c184_8 (by decide)
theorem c184_10 : cod 184 10 = some (.iconst 4, 1) := cod_of b184 dX8_isSize_10
theorem t184_10 {d : Nat} {h : Hp} {Q : Pst} {ls : List Value} {st : List Value} : T d 184 10 ls st h Q ↔ T d 184 11 ls (.int 4 :: st) h Q := T_iconstV c184_10 (by decide)
theorem c184_11 : cod 184 11 = some (.aload_n 0, 1) := cod_of b184 dX8_isSize_11
theorem t184_11 {d : Nat} {h : Hp} {Q : Pst} {l1 l2 l3 l4 : Value} {x : Nat} {st : List Value} : T d 184 11 [.ref x, l1, l2, l3, l4] st h Q ↔ T d 184 12 [.ref x, l1, l2, l3, l4] (.ref x :: st) h Q := T_aload_n c184_11 rfl
theorem c184_12 : cod 184 12 = some (.getfield 7, 3) := cod_of b184 dX8_isSize_12
theorem t184_12 {d : Nat} {h : Hp} {Q : Pst} {a : Nat} {ls : List Value} {st : List Value} : T d 184 12 ls (.ref a :: st) h Q ↔ gF (h.2.2 a) 7 0 (fun v => T d 184 15 ls (v :: st) h Q) := T_getfieldR m184 c184_12 f8_7
theorem c184_15 : cod 184 15 = some (.bipush 34, 2) := cod_of b184 dX8_isSize_15
theorem t184_15 {d : Nat} {h : Hp} {Q : Pst} {ls : List Value} {st : List Value} : T d 184 15 ls st h Q ↔ T d 184 17 ls (.int 34 :: st) h Q := T_bipushV c184_15 (by decide)
theorem c184_17 : cod 184 17 = some (.iaload, 1) := cod_of b184 dX8_isSize_17
theorem t184_17 {d : Nat} {h : Hp} {Q : Pst} {a : Nat} {i : Int32} {ls : List Value} {st : List Value} : T d 184 17 ls (.int i :: .ref a :: st) h Q ↔ aL (h.2.2 a) i (fun x => T d 184 18 ls (.int x :: st) h Q) := T_iaload c184_17
theorem c184_18 : cod 184 18 = some (.imul, 1) := cod_of b184 dX8_isSize_18
theorem t184_18 {d : Nat} {h : Hp} {Q : Pst} {x y : Int32} {ls : List Value} {st : List Value} : T d 184 18 ls (.int y :: .int x :: st) h Q ↔ T d 184 19 ls (.int (x * y) :: st) h Q := T_imul c184_18
theorem c184_19 : cod 184 19 = some (.iadd, 1) := cod_of b184 dX8_isSize_19
theorem t184_19 {d : Nat} {h : Hp} {Q : Pst} {x y : Int32} {ls : List Value} {st : List Value} : T d 184 19 ls (.int y :: .int x :: st) h Q ↔ T d 184 20 ls (.int (x + y) :: st) h Q := T_iadd c184_19
theorem c184_20 : cod 184 20 = some (.if_icmp .ge 80, 3) := cod_of b184 dX8_isSize_20
theorem t184_20 {d : Nat} {h : Hp} {Q : Pst} {x y : Int32} {ls : List Value} {st : List Value} : T d 184 20 ls (.int y :: .int x :: st) h Q ↔ (if y ≤ x then T d 184 100 ls st h Q else T d 184 23 ls st h Q) := T_icmp_ge c184_20 (by decide)
theorem c184_23 : cod 184 23 = some (.iload_n 3, 1) := cod_of b184 dX8_isSize_23
theorem t184_23 {d : Nat} {h : Hp} {Q : Pst} {l0 l1 l2 l4 : Value} {x : Int32} {st : List Value} : T d 184 23 [l0, l1, l2, .int x, l4] st h Q ↔ T d 184 24 [l0, l1, l2, .int x, l4] (.int x :: st) h Q := T_iload_n c184_23 rfl
theorem c184_24 : cod 184 24 = some (.ifCond .eq 68, 3) := cod_of b184 dX8_isSize_24
theorem t184_24 {d : Nat} {h : Hp} {Q : Pst} {x : Int32} {ls : List Value} {st : List Value} : T d 184 24 ls (.int x :: st) h Q ↔ (if x = 0 then T d 184 92 ls st h Q else T d 184 27 ls st h Q) := T_if_eq c184_24 (by decide)
theorem c184_27 : cod 184 27 = some (.aload_n 0, 1) := cod_of b184 dX8_isSize_27
theorem t184_27 {d : Nat} {h : Hp} {Q : Pst} {l1 l2 l3 l4 : Value} {x : Nat} {st : List Value} : T d 184 27 [.ref x, l1, l2, l3, l4] st h Q ↔ T d 184 28 [.ref x, l1, l2, l3, l4] (.ref x :: st) h Q := T_aload_n c184_27 rfl
theorem c184_28 : cod 184 28 = some (.getfield 7, 3) := cod_of b184 dX8_isSize_28
theorem t184_28 {d : Nat} {h : Hp} {Q : Pst} {a : Nat} {ls : List Value} {st : List Value} : T d 184 28 ls (.ref a :: st) h Q ↔ gF (h.2.2 a) 7 0 (fun v => T d 184 31 ls (v :: st) h Q) := T_getfieldR m184 c184_28 f8_7
theorem c184_31 : cod 184 31 = some (.iload 4, 2) := cod_of b184 dX8_isSize_31
theorem t184_31 {d : Nat} {h : Hp} {Q : Pst} {l0 l1 l2 l3 : Value} {x : Int32} {st : List Value} : T d 184 31 [l0, l1, l2, l3, .int x] st h Q ↔ T d 184 33 [l0, l1, l2, l3, .int x] (.int x :: st) h Q := T_iload c184_31 rfl
theorem c184_33 : cod 184 33 = some (.iaload, 1) := cod_of b184 dX8_isSize_33
theorem t184_33 {d : Nat} {h : Hp} {Q : Pst} {a : Nat} {i : Int32} {ls : List Value} {st : List Value} : T d 184 33 ls (.int i :: .ref a :: st) h Q ↔ aL (h.2.2 a) i (fun x => T d 184 34 ls (.int x :: st) h Q) := T_iaload c184_33
theorem c184_34 : cod 184 34 = some (.iload_n 1, 1) := cod_of b184 dX8_isSize_34
theorem t184_34 {d : Nat} {h : Hp} {Q : Pst} {l0 l2 l3 l4 : Value} {x : Int32} {st : List Value} : T d 184 34 [l0, .int x, l2, l3, l4] st h Q ↔ T d 184 35 [l0, .int x, l2, l3, l4] (.int x :: st) h Q := T_iload_n c184_34 rfl
theorem c184_35 : cod 184 35 = some (.if_icmp .ne 53, 3) := cod_of b184 dX8_isSize_35
theorem t184_35 {d : Nat} {h : Hp} {Q : Pst} {x y : Int32} {ls : List Value} {st : List Value} : T d 184 35 ls (.int y :: .int x :: st) h Q ↔ (if ¬ x = y then T d 184 88 ls st h Q else T d 184 38 ls st h Q) := T_icmp_ne c184_35 (by decide)
theorem c184_38 : cod 184 38 = some (.aload_n 0, 1) := cod_of b184 dX8_isSize_38
theorem t184_38 {d : Nat} {h : Hp} {Q : Pst} {l1 l2 l3 l4 : Value} {x : Nat} {st : List Value} : T d 184 38 [.ref x, l1, l2, l3, l4] st h Q ↔ T d 184 39 [.ref x, l1, l2, l3, l4] (.ref x :: st) h Q := T_aload_n c184_38 rfl
theorem c184_39 : cod 184 39 = some (.getfield 7, 3) := cod_of b184 dX8_isSize_39
theorem t184_39 {d : Nat} {h : Hp} {Q : Pst} {a : Nat} {ls : List Value} {st : List Value} : T d 184 39 ls (.ref a :: st) h Q ↔ gF (h.2.2 a) 7 0 (fun v => T d 184 42 ls (v :: st) h Q) := T_getfieldR m184 c184_39 f8_7
theorem c184_42 : cod 184 42 = some (.bipush 13, 2) := cod_of b184 dX8_isSize_42
theorem t184_42 {d : Nat} {h : Hp} {Q : Pst} {ls : List Value} {st : List Value} : T d 184 42 ls st h Q ↔ T d 184 44 ls (.int 13 :: st) h Q := T_bipushV c184_42 (by decide)
theorem c184_44 : cod 184 44 = some (.iload_n 1, 1) := cod_of b184 dX8_isSize_44
theorem t184_44 {d : Nat} {h : Hp} {Q : Pst} {l0 l2 l3 l4 : Value} {x : Int32} {st : List Value} : T d 184 44 [l0, .int x, l2, l3, l4] st h Q ↔ T d 184 45 [l0, .int x, l2, l3, l4] (.int x :: st) h Q := T_iload_n c184_44 rfl
theorem c184_45 : cod 184 45 = some (.iadd, 1) := cod_of b184 dX8_isSize_45
theorem t184_45 {d : Nat} {h : Hp} {Q : Pst} {x y : Int32} {ls : List Value} {st : List Value} : T d 184 45 ls (.int y :: .int x :: st) h Q ↔ T d 184 46 ls (.int (x + y) :: st) h Q := T_iadd c184_45
theorem c184_46 : cod 184 46 = some (.iaload, 1) := cod_of b184 dX8_isSize_46
theorem t184_46 {d : Nat} {h : Hp} {Q : Pst} {a : Nat} {i : Int32} {ls : List Value} {st : List Value} : T d 184 46 ls (.int i :: .ref a :: st) h Q ↔ aL (h.2.2 a) i (fun x => T d 184 47 ls (.int x :: st) h Q) := T_iaload c184_46
theorem c184_47 : cod 184 47 = some (.iload_n 2, 1) := cod_of b184 dX8_isSize_47
theorem t184_47 {d : Nat} {h : Hp} {Q : Pst} {l0 l1 l3 l4 : Value} {x : Int32} {st : List Value} : T d 184 47 [l0, l1, .int x, l3, l4] st h Q ↔ T d 184 48 [l0, l1, .int x, l3, l4] (.int x :: st) h Q := T_iload_n c184_47 rfl
theorem c184_48 : cod 184 48 = some (.aload_n 0, 1) := cod_of b184 dX8_isSize_48
theorem t184_48 {d : Nat} {h : Hp} {Q : Pst} {l1 l2 l3 l4 : Value} {x : Nat} {st : List Value} : T d 184 48 [.ref x, l1, l2, l3, l4] st h Q ↔ T d 184 49 [.ref x, l1, l2, l3, l4] (.ref x :: st) h Q := T_aload_n c184_48 rfl
theorem c184_49 : cod 184 49 = some (.aload_n 0, 1) := cod_of b184 dX8_isSize_49
theorem t184_49 {d : Nat} {h : Hp} {Q : Pst} {l1 l2 l3 l4 : Value} {x : Nat} {st : List Value} : T d 184 49 [.ref x, l1, l2, l3, l4] st h Q ↔ T d 184 50 [.ref x, l1, l2, l3, l4] (.ref x :: st) h Q := T_aload_n c184_49 rfl
theorem c184_50 : cod 184 50 = some (.getfield 7, 3) := cod_of b184 dX8_isSize_50
theorem t184_50 {d : Nat} {h : Hp} {Q : Pst} {a : Nat} {ls : List Value} {st : List Value} : T d 184 50 ls (.ref a :: st) h Q ↔ gF (h.2.2 a) 7 0 (fun v => T d 184 53 ls (v :: st) h Q) := T_getfieldR m184 c184_50 f8_7
theorem c184_53 : cod 184 53 = some (.iload 4, 2) := cod_of b184 dX8_isSize_53
theorem t184_53 {d : Nat} {h : Hp} {Q : Pst} {l0 l1 l2 l3 : Value} {x : Int32} {st : List Value} : T d 184 53 [l0, l1, l2, l3, .int x] st h Q ↔ T d 184 55 [l0, l1, l2, l3, .int x] (.int x :: st) h Q := T_iload c184_53 rfl
theorem c184_55 : cod 184 55 = some (.iconst 1, 1) := cod_of b184 dX8_isSize_55
theorem t184_55 {d : Nat} {h : Hp} {Q : Pst} {ls : List Value} {st : List Value} : T d 184 55 ls st h Q ↔ T d 184 56 ls (.int 1 :: st) h Q := T_iconstV c184_55 (by decide)
theorem c184_56 : cod 184 56 = some (.iadd, 1) := cod_of b184 dX8_isSize_56
theorem t184_56 {d : Nat} {h : Hp} {Q : Pst} {x y : Int32} {ls : List Value} {st : List Value} : T d 184 56 ls (.int y :: .int x :: st) h Q ↔ T d 184 57 ls (.int (x + y) :: st) h Q := T_iadd c184_56
theorem c184_57 : cod 184 57 = some (.iaload, 1) := cod_of b184 dX8_isSize_57
theorem t184_57 {d : Nat} {h : Hp} {Q : Pst} {a : Nat} {i : Int32} {ls : List Value} {st : List Value} : T d 184 57 ls (.int i :: .ref a :: st) h Q ↔ aL (h.2.2 a) i (fun x => T d 184 58 ls (.int x :: st) h Q) := T_iaload c184_57
theorem c184_58 : cod 184 58 = some (.aload_n 0, 1) := cod_of b184 dX8_isSize_58
theorem t184_58 {d : Nat} {h : Hp} {Q : Pst} {l1 l2 l3 l4 : Value} {x : Nat} {st : List Value} : T d 184 58 [.ref x, l1, l2, l3, l4] st h Q ↔ T d 184 59 [.ref x, l1, l2, l3, l4] (.ref x :: st) h Q := T_aload_n c184_58 rfl
theorem c184_59 : cod 184 59 = some (.getfield 7, 3) := cod_of b184 dX8_isSize_59
theorem t184_59 {d : Nat} {h : Hp} {Q : Pst} {a : Nat} {ls : List Value} {st : List Value} : T d 184 59 ls (.ref a :: st) h Q ↔ gF (h.2.2 a) 7 0 (fun v => T d 184 62 ls (v :: st) h Q) := T_getfieldR m184 c184_59 f8_7
theorem c184_62 : cod 184 62 = some (.iload 4, 2) := cod_of b184 dX8_isSize_62
theorem t184_62 {d : Nat} {h : Hp} {Q : Pst} {l0 l1 l2 l3 : Value} {x : Int32} {st : List Value} : T d 184 62 [l0, l1, l2, l3, .int x] st h Q ↔ T d 184 64 [l0, l1, l2, l3, .int x] (.int x :: st) h Q := T_iload c184_62 rfl
theorem c184_64 : cod 184 64 = some (.iconst 2, 1) := cod_of b184 dX8_isSize_64
theorem t184_64 {d : Nat} {h : Hp} {Q : Pst} {ls : List Value} {st : List Value} : T d 184 64 ls st h Q ↔ T d 184 65 ls (.int 2 :: st) h Q := T_iconstV c184_64 (by decide)
theorem c184_65 : cod 184 65 = some (.iadd, 1) := cod_of b184 dX8_isSize_65
theorem t184_65 {d : Nat} {h : Hp} {Q : Pst} {x y : Int32} {ls : List Value} {st : List Value} : T d 184 65 ls (.int y :: .int x :: st) h Q ↔ T d 184 66 ls (.int (x + y) :: st) h Q := T_iadd c184_65
theorem c184_66 : cod 184 66 = some (.iaload, 1) := cod_of b184 dX8_isSize_66
theorem t184_66 {d : Nat} {h : Hp} {Q : Pst} {a : Nat} {i : Int32} {ls : List Value} {st : List Value} : T d 184 66 ls (.int i :: .ref a :: st) h Q ↔ aL (h.2.2 a) i (fun x => T d 184 67 ls (.int x :: st) h Q) := T_iaload c184_66
theorem c184_67 : cod 184 67 = some (.invokevirtual 139, 3) := cod_of b184 dX8_isSize_67
theorem t184_67 {d : Nat} {h : Hp} {Q : Pst} {a0 a1 s0 s1 : Int32} {a : Nat} {ls : List Value} (ho : isO (h.2.2 a) 7) : T (d + 1) 184 67 ls [.int a1, .int a0, .ref a, .int s0, .int s1] h Q ↔ T d 156 0 [.ref a, .int a0, .int a1] [] h (fun x h2 => T (d + 1) 184 70 ls (rl x [.int s0, .int s1]) h2 Q) := T_virtualR (as := [.int a0, .int a1]) (r := [.int s0, .int s1]) m184 m156 c184_67 k8_139  rfl (by decide) rfl (by simp [wrd, Value.category]) (by simp [stk, Value.category]) rfl (by decide +kernel) ho
theorem c184_70 : cod 184 70 = some (.invokestatic 142, 3) := cod_of b184 dX8_isSize_70
theorem t184_70 {d : Nat} {h : Hp} {Q : Pst} {a0 a1 a2 : Int32} {ls : List Value} : T (d + 1) 184 70 ls [.int a2, .int a1, .int a0] h Q ↔ T d 155 0 [.int a0, .int a1, .int a2, un, un] [] h (fun x h2 => T (d + 1) 184 73 ls (rl x []) h2 Q) := T_staticR (as := [.int a0, .int a1, .int a2]) (r := []) m184 m155 c184_70 k8_142 (Or.inl rfl) rfl (by decide) rfl (by simp [wrd, Value.category]) (by simp [stk, Value.category]) rfl
theorem c184_73 : cod 184 73 = some (.invokestatic 148, 3) := cod_of b184 dX8_isSize_73
theorem t184_73 {d : Nat} {h : Hp} {Q : Pst} {a0 : Int32} {ls : List Value} : T (d + 1) 184 73 ls [.int a0] h Q ↔ T d 128 0 [.int a0, un, un] [] h (fun x h2 => T (d + 1) 184 76 ls (rl x []) h2 Q) := T_staticR (as := [.int a0]) (r := []) m184 m128 c184_73 k8_148 (Or.inl rfl) rfl (by decide) rfl (by simp [wrd, Value.category]) (by simp [stk, Value.category]) rfl
theorem c184_76 : cod 184 76 = some (.aload_n 0, 1) := cod_of b184 dX8_isSize_76
theorem t184_76 {d : Nat} {h : Hp} {Q : Pst} {l1 l2 l3 l4 : Value} {x : Nat} {st : List Value} : T d 184 76 [.ref x, l1, l2, l3, l4] st h Q ↔ T d 184 77 [.ref x, l1, l2, l3, l4] (.ref x :: st) h Q := T_aload_n c184_76 rfl
theorem c184_77 : cod 184 77 = some (.getfield 7, 3) := cod_of b184 dX8_isSize_77
theorem t184_77 {d : Nat} {h : Hp} {Q : Pst} {a : Nat} {ls : List Value} {st : List Value} : T d 184 77 ls (.ref a :: st) h Q ↔ gF (h.2.2 a) 7 0 (fun v => T d 184 80 ls (v :: st) h Q) := T_getfieldR m184 c184_77 f8_7
theorem c184_80 : cod 184 80 = some (.iload 4, 2) := cod_of b184 dX8_isSize_80
theorem t184_80 {d : Nat} {h : Hp} {Q : Pst} {l0 l1 l2 l3 : Value} {x : Int32} {st : List Value} : T d 184 80 [l0, l1, l2, l3, .int x] st h Q ↔ T d 184 82 [l0, l1, l2, l3, .int x] (.int x :: st) h Q := T_iload c184_80 rfl
theorem c184_82 : cod 184 82 = some (.iconst 3, 1) := cod_of b184 dX8_isSize_82
theorem t184_82 {d : Nat} {h : Hp} {Q : Pst} {ls : List Value} {st : List Value} : T d 184 82 ls st h Q ↔ T d 184 83 ls (.int 3 :: st) h Q := T_iconstV c184_82 (by decide)
theorem c184_83 : cod 184 83 = some (.iadd, 1) := cod_of b184 dX8_isSize_83
theorem t184_83 {d : Nat} {h : Hp} {Q : Pst} {x y : Int32} {ls : List Value} {st : List Value} : T d 184 83 ls (.int y :: .int x :: st) h Q ↔ T d 184 84 ls (.int (x + y) :: st) h Q := T_iadd c184_83
theorem c184_84 : cod 184 84 = some (.iaload, 1) := cod_of b184 dX8_isSize_84
theorem t184_84 {d : Nat} {h : Hp} {Q : Pst} {a : Nat} {i : Int32} {ls : List Value} {st : List Value} : T d 184 84 ls (.int i :: .ref a :: st) h Q ↔ aL (h.2.2 a) i (fun x => T d 184 85 ls (.int x :: st) h Q) := T_iaload c184_84
theorem c184_85 : cod 184 85 = some (.if_icmp .ne 7, 3) := cod_of b184 dX8_isSize_85
theorem t184_85 {d : Nat} {h : Hp} {Q : Pst} {x y : Int32} {ls : List Value} {st : List Value} : T d 184 85 ls (.int y :: .int x :: st) h Q ↔ (if ¬ x = y then T d 184 92 ls st h Q else T d 184 88 ls st h Q) := T_icmp_ne c184_85 (by decide)
theorem c184_88 : cod 184 88 = some (.iconst 1, 1) := cod_of b184 dX8_isSize_88
theorem t184_88 {d : Nat} {h : Hp} {Q : Pst} {ls : List Value} {st : List Value} : T d 184 88 ls st h Q ↔ T d 184 89 ls (.int 1 :: st) h Q := T_iconstV c184_88 (by decide)
theorem c184_89 : cod 184 89 = some (.goto 4, 3) := cod_of b184 dX8_isSize_89
theorem t184_89 {d : Nat} {h : Hp} {Q : Pst} {ls : List Value} {st : List Value} : T d 184 89 ls st h Q ↔ T d 184 93 ls st h Q := T_goto c184_89 (by decide)
theorem c184_93 : cod 184 93 = some (.istore_n 3, 1) := cod_of b184 dX8_isSize_93
theorem t184_93 {d : Nat} {h : Hp} {Q : Pst} {l0 l1 l2 l3 l4 : Value} {x : Int32} {st : List Value} : T d 184 93 [l0, l1, l2, l3, l4] (.int x :: st) h Q ↔ T d 184 94 [l0, l1, kil l2, .int x, l4] st h Q := T_istore_n c184_93 (Nat.le_of_ble_eq_true rfl)
theorem c184_94 : cod 184 94 = some (.iinc 4 4, 3) := cod_of b184 dX8_isSize_94
theorem t184_94 {d : Nat} {h : Hp} {Q : Pst} {l0 l1 l2 l3 : Value} {x : Int32} {st : List Value} : T d 184 94 [l0, l1, l2, l3, .int x] st h Q ↔ T d 184 97 [l0, l1, l2, kil l3, .int (x + 4)] st h Q := T_iincV c184_94 rfl (Nat.le_of_ble_eq_true rfl) (by decide) rfl
theorem c184_97 : cod 184 97 = some (.goto (-91), 3) := cod_of b184 dX8_isSize_97
theorem t184_97 {d : Nat} {h : Hp} {Q : Pst} {ls : List Value} {st : List Value} : T d 184 97 ls st h Q ↔ T d 184 6 ls st h Q := T_goto c184_97 (by decide)
theorem c184_92 : cod 184 92 = some (.iconst 0, 1) := cod_of b184 dX8_isSize_92
theorem t184_92 {d : Nat} {h : Hp} {Q : Pst} {ls : List Value} {st : List Value} : T d 184 92 ls st h Q ↔ T d 184 93 ls (.int 0 :: st) h Q := T_iconstV c184_92 (by decide)
theorem c184_100 : cod 184 100 = some (.iload_n 3, 1) := cod_of b184 dX8_isSize_100
theorem t184_100 {d : Nat} {h : Hp} {Q : Pst} {l0 l1 l2 l4 : Value} {x : Int32} {st : List Value} : T d 184 100 [l0, l1, l2, .int x, l4] st h Q ↔ T d 184 101 [l0, l1, l2, .int x, l4] (.int x :: st) h Q := T_iload_n c184_100 rfl
theorem c184_101 : cod 184 101 = some (.ireturn, 1) := cod_of b184 dX8_isSize_101
theorem t184_101 {d : Nat} {h : Hp} {Q : Pst} {x : Int32} {ls : List Value} : T d 184 101 ls [.int x] h Q ↔ (narrow .boolean (.int x) = .int x ∧ Q (some (.int x)) h) := T_zretR m184 c184_101 rfl
theorem b185 : (mR 185).2.2.1 = cX8_sizes := by rw [m185]
theorem c185_0 : cod 185 0 = some (.aload_n 0, 1) := cod_of b185 dX8_sizes_0
theorem t185_0 {d : Nat} {h : Hp} {Q : Pst} {l1 l2 l3 l4 l5 l6 l7 : Value} {x : Nat} {st : List Value} : T d 185 0 [.ref x, l1, l2, l3, l4, l5, l6, l7] st h Q ↔ T d 185 1 [.ref x, l1, l2, l3, l4, l5, l6, l7] (.ref x :: st) h Q := T_aload_n c185_0 rfl
theorem c185_1 : cod 185 1 = some (.iload_n 1, 1) := cod_of b185 dX8_sizes_1
theorem t185_1 {d : Nat} {h : Hp} {Q : Pst} {l0 l2 l3 l4 l5 l6 l7 : Value} {x : Int32} {st : List Value} : T d 185 1 [l0, .int x, l2, l3, l4, l5, l6, l7] st h Q ↔ T d 185 2 [l0, .int x, l2, l3, l4, l5, l6, l7] (.int x :: st) h Q := T_iload_n c185_1 rfl
theorem c185_2 : cod 185 2 = some (.invokevirtual 157, 3) := cod_of b185 dX8_sizes_2
theorem t185_2 {d : Nat} {h : Hp} {Q : Pst} {a0 : Int32} {a : Nat} {ls : List Value} (ho : isO (h.2.2 a) 7) : T (d + 1) 185 2 ls [.int a0, .ref a] h Q ↔ T d 163 0 [.ref a, .int a0] [] h (fun x h2 => T (d + 1) 185 5 ls (rl x []) h2 Q) := T_virtualR (as := [.int a0]) (r := []) m185 m163 c185_2 k8_157  rfl (by decide) rfl (by simp [wrd, Value.category]) (by simp [stk, Value.category]) rfl (by decide +kernel) ho
theorem c185_5 : cod 185 5 = some (.ifCond .eq 12, 3) := cod_of b185 dX8_sizes_5
theorem t185_5 {d : Nat} {h : Hp} {Q : Pst} {x : Int32} {ls : List Value} {st : List Value} : T d 185 5 ls (.int x :: st) h Q ↔ (if x = 0 then T d 185 17 ls st h Q else T d 185 8 ls st h Q) := T_if_eq c185_5 (by decide)
theorem c185_8 : cod 185 8 = some (.iload_n 2, 1) := cod_of b185 dX8_sizes_8
theorem t185_8 {d : Nat} {h : Hp} {Q : Pst} {l0 l1 l3 l4 l5 l6 l7 : Value} {x : Int32} {st : List Value} : T d 185 8 [l0, l1, .int x, l3, l4, l5, l6, l7] st h Q ↔ T d 185 9 [l0, l1, .int x, l3, l4, l5, l6, l7] (.int x :: st) h Q := T_iload_n c185_8 rfl
theorem c185_9 : cod 185 9 = some (.iconst 0, 1) := cod_of b185 dX8_sizes_9
theorem t185_9 {d : Nat} {h : Hp} {Q : Pst} {ls : List Value} {st : List Value} : T d 185 9 ls st h Q ↔ T d 185 10 ls (.int 0 :: st) h Q := T_iconstV c185_9 (by decide)
theorem c185_10 : cod 185 10 = some (.iconst 2, 1) := cod_of b185 dX8_sizes_10
theorem t185_10 {d : Nat} {h : Hp} {Q : Pst} {ls : List Value} {st : List Value} : T d 185 10 ls st h Q ↔ T d 185 11 ls (.int 2 :: st) h Q := T_iconstV c185_10 (by decide)
theorem c185_11 : cod 185 11 = some (.invokestatic 49, 3) := cod_of b185 dX8_sizes_11
theorem t185_11 {d : Nat} {h : Hp} {Q : Pst} {a0 a1 a2 : Int32} {ls : List Value} : T (d + 1) 185 11 ls [.int a2, .int a1, .int a0] h Q ↔ T d 126 0 [.int a0, .int a1, .int a2] [] h (fun x h2 => T (d + 1) 185 14 ls (rl x []) h2 Q) := T_staticR (as := [.int a0, .int a1, .int a2]) (r := []) m185 m126 c185_11 k8_49 (Or.inl rfl) rfl (by decide) rfl (by simp [wrd, Value.category]) (by simp [stk, Value.category]) rfl
theorem c185_14 : cod 185 14 = some (.ifCond .ne 10, 3) := cod_of b185 dX8_sizes_14
theorem t185_14 {d : Nat} {h : Hp} {Q : Pst} {x : Int32} {ls : List Value} {st : List Value} : T d 185 14 ls (.int x :: st) h Q ↔ (if ¬ x = 0 then T d 185 24 ls st h Q else T d 185 17 ls st h Q) := T_if_ne c185_14 (by decide)
theorem c185_24 : cod 185 24 = some (.iconst 0, 1) := cod_of b185 dX8_sizes_24
theorem t185_24 {d : Nat} {h : Hp} {Q : Pst} {ls : List Value} {st : List Value} : T d 185 24 ls st h Q ↔ T d 185 25 ls (.int 0 :: st) h Q := T_iconstV c185_24 (by decide)
theorem c185_25 : cod 185 25 = some (.istore_n 3, 1) := cod_of b185 dX8_sizes_25
theorem t185_25 {d : Nat} {h : Hp} {Q : Pst} {l0 l1 l2 l3 l4 l5 l6 l7 : Value} {x : Int32} {st : List Value} : T d 185 25 [l0, l1, l2, l3, l4, l5, l6, l7] (.int x :: st) h Q ↔ T d 185 26 [l0, l1, kil l2, .int x, l4, l5, l6, l7] st h Q := T_istore_n c185_25 (Nat.le_of_ble_eq_true rfl)
theorem c185_26 : cod 185 26 = some (.iconst (-1), 1) := cod_of b185 dX8_sizes_26
theorem t185_26 {d : Nat} {h : Hp} {Q : Pst} {ls : List Value} {st : List Value} : T d 185 26 ls st h Q ↔ T d 185 27 ls (.int (-1) :: st) h Q := T_iconstV c185_26 (by decide)
theorem c185_27 : cod 185 27 = some (.istore 4, 2) := cod_of b185 dX8_sizes_27
theorem t185_27 {d : Nat} {h : Hp} {Q : Pst} {l0 l1 l2 l3 l4 l5 l6 l7 : Value} {x : Int32} {st : List Value} : T d 185 27 [l0, l1, l2, l3, l4, l5, l6, l7] (.int x :: st) h Q ↔ T d 185 29 [l0, l1, l2, kil l3, .int x, l5, l6, l7] st h Q := T_istore c185_27 (Nat.le_of_ble_eq_true rfl)
theorem c185_29 : cod 185 29 = some (.iconst (-1), 1) := cod_of b185 dX8_sizes_29
theorem t185_29 {d : Nat} {h : Hp} {Q : Pst} {ls : List Value} {st : List Value} : T d 185 29 ls st h Q ↔ T d 185 30 ls (.int (-1) :: st) h Q := T_iconstV c185_29 (by decide)
theorem c185_30 : cod 185 30 = some (.istore 5, 2) := cod_of b185 dX8_sizes_30
theorem t185_30 {d : Nat} {h : Hp} {Q : Pst} {l0 l1 l2 l3 l4 l5 l6 l7 : Value} {x : Int32} {st : List Value} : T d 185 30 [l0, l1, l2, l3, l4, l5, l6, l7] (.int x :: st) h Q ↔ T d 185 32 [l0, l1, l2, l3, kil l4, .int x, l6, l7] st h Q := T_istore c185_30 (Nat.le_of_ble_eq_true rfl)
theorem c185_32 : cod 185 32 = some (.iconst 1, 1) := cod_of b185 dX8_sizes_32
theorem t185_32 {d : Nat} {h : Hp} {Q : Pst} {ls : List Value} {st : List Value} : T d 185 32 ls st h Q ↔ T d 185 33 ls (.int 1 :: st) h Q := T_iconstV c185_32 (by decide)
theorem c185_33 : cod 185 33 = some (.istore 6, 2) := cod_of b185 dX8_sizes_33
theorem t185_33 {d : Nat} {h : Hp} {Q : Pst} {l0 l1 l2 l3 l4 l5 l6 l7 : Value} {x : Int32} {st : List Value} : T d 185 33 [l0, l1, l2, l3, l4, l5, l6, l7] (.int x :: st) h Q ↔ T d 185 35 [l0, l1, l2, l3, l4, kil l5, .int x, l7] st h Q := T_istore c185_33 (Nat.le_of_ble_eq_true rfl)
theorem c185_35 : cod 185 35 = some (.iload 6, 2) := cod_of b185 dX8_sizes_35
theorem t185_35 {d : Nat} {h : Hp} {Q : Pst} {l0 l1 l2 l3 l4 l5 l7 : Value} {x : Int32} {st : List Value} : T d 185 35 [l0, l1, l2, l3, l4, l5, .int x, l7] st h Q ↔ T d 185 37 [l0, l1, l2, l3, l4, l5, .int x, l7] (.int x :: st) h Q := T_iload c185_35 rfl
theorem c185_37 : cod 185 37 = some (.bipush 31, 2) := cod_of b185 dX8_sizes_37
theorem t185_37 {d : Nat} {h : Hp} {Q : Pst} {ls : List Value} {st : List Value} : T d 185 37 ls st h Q ↔ T d 185 39 ls (.int 31 :: st) h Q := T_bipushV c185_37 (by decide)
theorem c185_39 : cod 185 39 = some (.if_icmp .ge 65, 3) := cod_of b185 dX8_sizes_39
theorem t185_39 {d : Nat} {h : Hp} {Q : Pst} {x y : Int32} {ls : List Value} {st : List Value} : T d 185 39 ls (.int y :: .int x :: st) h Q ↔ (if y ≤ x then T d 185 104 ls st h Q else T d 185 42 ls st h Q) := T_icmp_ge c185_39 (by decide)
theorem c185_42 : cod 185 42 = some (.aload_n 0, 1) := cod_of b185 dX8_sizes_42
theorem t185_42 {d : Nat} {h : Hp} {Q : Pst} {l1 l2 l3 l4 l5 l6 l7 : Value} {x : Nat} {st : List Value} : T d 185 42 [.ref x, l1, l2, l3, l4, l5, l6, l7] st h Q ↔ T d 185 43 [.ref x, l1, l2, l3, l4, l5, l6, l7] (.ref x :: st) h Q := T_aload_n c185_42 rfl
theorem c185_43 : cod 185 43 = some (.iload_n 1, 1) := cod_of b185 dX8_sizes_43
theorem t185_43 {d : Nat} {h : Hp} {Q : Pst} {l0 l2 l3 l4 l5 l6 l7 : Value} {x : Int32} {st : List Value} : T d 185 43 [l0, .int x, l2, l3, l4, l5, l6, l7] st h Q ↔ T d 185 44 [l0, .int x, l2, l3, l4, l5, l6, l7] (.int x :: st) h Q := T_iload_n c185_43 rfl
theorem c185_44 : cod 185 44 = some (.iload 6, 2) := cod_of b185 dX8_sizes_44
theorem t185_44 {d : Nat} {h : Hp} {Q : Pst} {l0 l1 l2 l3 l4 l5 l7 : Value} {x : Int32} {st : List Value} : T d 185 44 [l0, l1, l2, l3, l4, l5, .int x, l7] st h Q ↔ T d 185 46 [l0, l1, l2, l3, l4, l5, .int x, l7] (.int x :: st) h Q := T_iload c185_44 rfl
theorem c185_46 : cod 185 46 = some (.invokevirtual 185, 3) := cod_of b185 dX8_sizes_46
theorem t185_46 {d : Nat} {h : Hp} {Q : Pst} {a0 a1 : Int32} {a : Nat} {ls : List Value} (ho : isO (h.2.2 a) 7) : T (d + 1) 185 46 ls [.int a1, .int a0, .ref a] h Q ↔ T d 184 0 [.ref a, .int a0, .int a1, un, un] [] h (fun x h2 => T (d + 1) 185 49 ls (rl x []) h2 Q) := T_virtualR (as := [.int a0, .int a1]) (r := []) m185 m184 c185_46 k8_185  rfl (by decide) rfl (by simp [wrd, Value.category]) (by simp [stk, Value.category]) rfl (by decide +kernel) ho
theorem c185_49 : cod 185 49 = some (.istore 7, 2) := cod_of b185 dX8_sizes_49
theorem t185_49 {d : Nat} {h : Hp} {Q : Pst} {l0 l1 l2 l3 l4 l5 l6 l7 : Value} {x : Int32} {st : List Value} : T d 185 49 [l0, l1, l2, l3, l4, l5, l6, l7] (.int x :: st) h Q ↔ T d 185 51 [l0, l1, l2, l3, l4, l5, kil l6, .int x] st h Q := T_istore c185_49 (Nat.le_of_ble_eq_true rfl)
theorem c185_51 : cod 185 51 = some (.iload_n 3, 1) := cod_of b185 dX8_sizes_51
theorem t185_51 {d : Nat} {h : Hp} {Q : Pst} {l0 l1 l2 l4 l5 l6 l7 : Value} {x : Int32} {st : List Value} : T d 185 51 [l0, l1, l2, .int x, l4, l5, l6, l7] st h Q ↔ T d 185 52 [l0, l1, l2, .int x, l4, l5, l6, l7] (.int x :: st) h Q := T_iload_n c185_51 rfl
theorem c185_52 : cod 185 52 = some (.iload 7, 2) := cod_of b185 dX8_sizes_52
theorem t185_52 {d : Nat} {h : Hp} {Q : Pst} {l0 l1 l2 l3 l4 l5 l6 : Value} {x : Int32} {st : List Value} : T d 185 52 [l0, l1, l2, l3, l4, l5, l6, .int x] st h Q ↔ T d 185 54 [l0, l1, l2, l3, l4, l5, l6, .int x] (.int x :: st) h Q := T_iload c185_52 rfl
theorem c185_54 : cod 185 54 = some (.ifCond .eq 7, 3) := cod_of b185 dX8_sizes_54
theorem t185_54 {d : Nat} {h : Hp} {Q : Pst} {x : Int32} {ls : List Value} {st : List Value} : T d 185 54 ls (.int x :: st) h Q ↔ (if x = 0 then T d 185 61 ls st h Q else T d 185 57 ls st h Q) := T_if_eq c185_54 (by decide)
theorem c185_57 : cod 185 57 = some (.iconst 1, 1) := cod_of b185 dX8_sizes_57
theorem t185_57 {d : Nat} {h : Hp} {Q : Pst} {ls : List Value} {st : List Value} : T d 185 57 ls st h Q ↔ T d 185 58 ls (.int 1 :: st) h Q := T_iconstV c185_57 (by decide)
theorem c185_58 : cod 185 58 = some (.goto 4, 3) := cod_of b185 dX8_sizes_58
theorem t185_58 {d : Nat} {h : Hp} {Q : Pst} {ls : List Value} {st : List Value} : T d 185 58 ls st h Q ↔ T d 185 62 ls st h Q := T_goto c185_58 (by decide)
theorem c185_62 : cod 185 62 = some (.iadd, 1) := cod_of b185 dX8_sizes_62
theorem t185_62 {d : Nat} {h : Hp} {Q : Pst} {x y : Int32} {ls : List Value} {st : List Value} : T d 185 62 ls (.int y :: .int x :: st) h Q ↔ T d 185 63 ls (.int (x + y) :: st) h Q := T_iadd c185_62
theorem c185_63 : cod 185 63 = some (.istore_n 3, 1) := cod_of b185 dX8_sizes_63
theorem t185_63 {d : Nat} {h : Hp} {Q : Pst} {l0 l1 l2 l3 l4 l5 l6 l7 : Value} {x : Int32} {st : List Value} : T d 185 63 [l0, l1, l2, l3, l4, l5, l6, l7] (.int x :: st) h Q ↔ T d 185 64 [l0, l1, kil l2, .int x, l4, l5, l6, l7] st h Q := T_istore_n c185_63 (Nat.le_of_ble_eq_true rfl)
theorem c185_64 : cod 185 64 = some (.iload 7, 2) := cod_of b185 dX8_sizes_64
theorem t185_64 {d : Nat} {h : Hp} {Q : Pst} {l0 l1 l2 l3 l4 l5 l6 : Value} {x : Int32} {st : List Value} : T d 185 64 [l0, l1, l2, l3, l4, l5, l6, .int x] st h Q ↔ T d 185 66 [l0, l1, l2, l3, l4, l5, l6, .int x] (.int x :: st) h Q := T_iload c185_64 rfl
theorem c185_66 : cod 185 66 = some (.ifCond .eq 14, 3) := cod_of b185 dX8_sizes_66
theorem t185_66 {d : Nat} {h : Hp} {Q : Pst} {x : Int32} {ls : List Value} {st : List Value} : T d 185 66 ls (.int x :: st) h Q ↔ (if x = 0 then T d 185 80 ls st h Q else T d 185 69 ls st h Q) := T_if_eq c185_66 (by decide)
theorem c185_69 : cod 185 69 = some (.iload 4, 2) := cod_of b185 dX8_sizes_69
theorem t185_69 {d : Nat} {h : Hp} {Q : Pst} {l0 l1 l2 l3 l5 l6 l7 : Value} {x : Int32} {st : List Value} : T d 185 69 [l0, l1, l2, l3, .int x, l5, l6, l7] st h Q ↔ T d 185 71 [l0, l1, l2, l3, .int x, l5, l6, l7] (.int x :: st) h Q := T_iload c185_69 rfl
theorem c185_71 : cod 185 71 = some (.iconst (-1), 1) := cod_of b185 dX8_sizes_71
theorem t185_71 {d : Nat} {h : Hp} {Q : Pst} {ls : List Value} {st : List Value} : T d 185 71 ls st h Q ↔ T d 185 72 ls (.int (-1) :: st) h Q := T_iconstV c185_71 (by decide)
theorem c185_72 : cod 185 72 = some (.if_icmp .ne 8, 3) := cod_of b185 dX8_sizes_72
theorem t185_72 {d : Nat} {h : Hp} {Q : Pst} {x y : Int32} {ls : List Value} {st : List Value} : T d 185 72 ls (.int y :: .int x :: st) h Q ↔ (if ¬ x = y then T d 185 80 ls st h Q else T d 185 75 ls st h Q) := T_icmp_ne c185_72 (by decide)
theorem c185_75 : cod 185 75 = some (.iload 6, 2) := cod_of b185 dX8_sizes_75
theorem t185_75 {d : Nat} {h : Hp} {Q : Pst} {l0 l1 l2 l3 l4 l5 l7 : Value} {x : Int32} {st : List Value} : T d 185 75 [l0, l1, l2, l3, l4, l5, .int x, l7] st h Q ↔ T d 185 77 [l0, l1, l2, l3, l4, l5, .int x, l7] (.int x :: st) h Q := T_iload c185_75 rfl
theorem c185_77 : cod 185 77 = some (.goto 5, 3) := cod_of b185 dX8_sizes_77
theorem t185_77 {d : Nat} {h : Hp} {Q : Pst} {ls : List Value} {st : List Value} : T d 185 77 ls st h Q ↔ T d 185 82 ls st h Q := T_goto c185_77 (by decide)
theorem c185_82 : cod 185 82 = some (.istore 4, 2) := cod_of b185 dX8_sizes_82
theorem t185_82 {d : Nat} {h : Hp} {Q : Pst} {l0 l1 l2 l3 l4 l5 l6 l7 : Value} {x : Int32} {st : List Value} : T d 185 82 [l0, l1, l2, l3, l4, l5, l6, l7] (.int x :: st) h Q ↔ T d 185 84 [l0, l1, l2, kil l3, .int x, l5, l6, l7] st h Q := T_istore c185_82 (Nat.le_of_ble_eq_true rfl)
theorem c185_84 : cod 185 84 = some (.iload 7, 2) := cod_of b185 dX8_sizes_84
theorem t185_84 {d : Nat} {h : Hp} {Q : Pst} {l0 l1 l2 l3 l4 l5 l6 : Value} {x : Int32} {st : List Value} : T d 185 84 [l0, l1, l2, l3, l4, l5, l6, .int x] st h Q ↔ T d 185 86 [l0, l1, l2, l3, l4, l5, l6, .int x] (.int x :: st) h Q := T_iload c185_84 rfl
theorem c185_86 : cod 185 86 = some (.ifCond .eq 8, 3) := cod_of b185 dX8_sizes_86
theorem t185_86 {d : Nat} {h : Hp} {Q : Pst} {x : Int32} {ls : List Value} {st : List Value} : T d 185 86 ls (.int x :: st) h Q ↔ (if x = 0 then T d 185 94 ls st h Q else T d 185 89 ls st h Q) := T_if_eq c185_86 (by decide)
theorem c185_89 : cod 185 89 = some (.iload 6, 2) := cod_of b185 dX8_sizes_89
theorem t185_89 {d : Nat} {h : Hp} {Q : Pst} {l0 l1 l2 l3 l4 l5 l7 : Value} {x : Int32} {st : List Value} : T d 185 89 [l0, l1, l2, l3, l4, l5, .int x, l7] st h Q ↔ T d 185 91 [l0, l1, l2, l3, l4, l5, .int x, l7] (.int x :: st) h Q := T_iload c185_89 rfl
theorem c185_91 : cod 185 91 = some (.goto 5, 3) := cod_of b185 dX8_sizes_91
theorem t185_91 {d : Nat} {h : Hp} {Q : Pst} {ls : List Value} {st : List Value} : T d 185 91 ls st h Q ↔ T d 185 96 ls st h Q := T_goto c185_91 (by decide)
theorem c185_96 : cod 185 96 = some (.istore 5, 2) := cod_of b185 dX8_sizes_96
theorem t185_96 {d : Nat} {h : Hp} {Q : Pst} {l0 l1 l2 l3 l4 l5 l6 l7 : Value} {x : Int32} {st : List Value} : T d 185 96 [l0, l1, l2, l3, l4, l5, l6, l7] (.int x :: st) h Q ↔ T d 185 98 [l0, l1, l2, l3, kil l4, .int x, l6, l7] st h Q := T_istore c185_96 (Nat.le_of_ble_eq_true rfl)
theorem c185_98 : cod 185 98 = some (.iinc 6 1, 3) := cod_of b185 dX8_sizes_98
theorem t185_98 {d : Nat} {h : Hp} {Q : Pst} {l0 l1 l2 l3 l4 l5 l7 : Value} {x : Int32} {st : List Value} : T d 185 98 [l0, l1, l2, l3, l4, l5, .int x, l7] st h Q ↔ T d 185 101 [l0, l1, l2, l3, l4, kil l5, .int (x + 1), l7] st h Q := T_iincV c185_98 rfl (Nat.le_of_ble_eq_true rfl) (by decide) rfl
theorem c185_101 : cod 185 101 = some (.goto (-66), 3) := cod_of b185 dX8_sizes_101
theorem t185_101 {d : Nat} {h : Hp} {Q : Pst} {ls : List Value} {st : List Value} : T d 185 101 ls st h Q ↔ T d 185 35 ls st h Q := T_goto c185_101 (by decide)
theorem c185_94 : cod 185 94 = some (.iload 5, 2) := cod_of b185 dX8_sizes_94
theorem t185_94 {d : Nat} {h : Hp} {Q : Pst} {l0 l1 l2 l3 l4 l6 l7 : Value} {x : Int32} {st : List Value} : T d 185 94 [l0, l1, l2, l3, l4, .int x, l6, l7] st h Q ↔ T d 185 96 [l0, l1, l2, l3, l4, .int x, l6, l7] (.int x :: st) h Q := T_iload c185_94 rfl
theorem c185_80 : cod 185 80 = some (.iload 4, 2) := cod_of b185 dX8_sizes_80
theorem t185_80 {d : Nat} {h : Hp} {Q : Pst} {l0 l1 l2 l3 l5 l6 l7 : Value} {x : Int32} {st : List Value} : T d 185 80 [l0, l1, l2, l3, .int x, l5, l6, l7] st h Q ↔ T d 185 82 [l0, l1, l2, l3, .int x, l5, l6, l7] (.int x :: st) h Q := T_iload c185_80 rfl
theorem c185_61 : cod 185 61 = some (.iconst 0, 1) := cod_of b185 dX8_sizes_61
theorem t185_61 {d : Nat} {h : Hp} {Q : Pst} {ls : List Value} {st : List Value} : T d 185 61 ls st h Q ↔ T d 185 62 ls (.int 0 :: st) h Q := T_iconstV c185_61 (by decide)
theorem c185_104 : cod 185 104 = some (.iload_n 2, 1) := cod_of b185 dX8_sizes_104
theorem t185_104 {d : Nat} {h : Hp} {Q : Pst} {l0 l1 l3 l4 l5 l6 l7 : Value} {x : Int32} {st : List Value} : T d 185 104 [l0, l1, .int x, l3, l4, l5, l6, l7] st h Q ↔ T d 185 105 [l0, l1, .int x, l3, l4, l5, l6, l7] (.int x :: st) h Q := T_iload_n c185_104 rfl
theorem c185_105 : cod 185 105 = some (.ifCond .ne 7, 3) := cod_of b185 dX8_sizes_105
theorem t185_105 {d : Nat} {h : Hp} {Q : Pst} {x : Int32} {ls : List Value} {st : List Value} : T d 185 105 ls (.int x :: st) h Q ↔ (if ¬ x = 0 then T d 185 112 ls st h Q else T d 185 108 ls st h Q) := T_if_ne c185_105 (by decide)
theorem c185_108 : cod 185 108 = some (.iload_n 3, 1) := cod_of b185 dX8_sizes_108
theorem t185_108 {d : Nat} {h : Hp} {Q : Pst} {l0 l1 l2 l4 l5 l6 l7 : Value} {x : Int32} {st : List Value} : T d 185 108 [l0, l1, l2, .int x, l4, l5, l6, l7] st h Q ↔ T d 185 109 [l0, l1, l2, .int x, l4, l5, l6, l7] (.int x :: st) h Q := T_iload_n c185_108 rfl
theorem c185_109 : cod 185 109 = some (.goto 15, 3) := cod_of b185 dX8_sizes_109
theorem t185_109 {d : Nat} {h : Hp} {Q : Pst} {ls : List Value} {st : List Value} : T d 185 109 ls st h Q ↔ T d 185 124 ls st h Q := T_goto c185_109 (by decide)
theorem c185_124 : cod 185 124 = some (.ireturn, 1) := cod_of b185 dX8_sizes_124
theorem t185_124 {d : Nat} {h : Hp} {Q : Pst} {x : Int32} {ls : List Value} : T d 185 124 ls [.int x] h Q ↔ Q (some (.int x)) h := T_iretR m185 c185_124 rfl
theorem c185_112 : cod 185 112 = some (.iload_n 2, 1) := cod_of b185 dX8_sizes_112
theorem t185_112 {d : Nat} {h : Hp} {Q : Pst} {l0 l1 l3 l4 l5 l6 l7 : Value} {x : Int32} {st : List Value} : T d 185 112 [l0, l1, .int x, l3, l4, l5, l6, l7] st h Q ↔ T d 185 113 [l0, l1, .int x, l3, l4, l5, l6, l7] (.int x :: st) h Q := T_iload_n c185_112 rfl
theorem c185_113 : cod 185 113 = some (.iconst 1, 1) := cod_of b185 dX8_sizes_113
theorem t185_113 {d : Nat} {h : Hp} {Q : Pst} {ls : List Value} {st : List Value} : T d 185 113 ls st h Q ↔ T d 185 114 ls (.int 1 :: st) h Q := T_iconstV c185_113 (by decide)
theorem c185_114 : cod 185 114 = some (.if_icmp .ne 8, 3) := cod_of b185 dX8_sizes_114
theorem t185_114 {d : Nat} {h : Hp} {Q : Pst} {x y : Int32} {ls : List Value} {st : List Value} : T d 185 114 ls (.int y :: .int x :: st) h Q ↔ (if ¬ x = y then T d 185 122 ls st h Q else T d 185 117 ls st h Q) := T_icmp_ne c185_114 (by decide)
theorem c185_117 : cod 185 117 = some (.iload 4, 2) := cod_of b185 dX8_sizes_117
theorem t185_117 {d : Nat} {h : Hp} {Q : Pst} {l0 l1 l2 l3 l5 l6 l7 : Value} {x : Int32} {st : List Value} : T d 185 117 [l0, l1, l2, l3, .int x, l5, l6, l7] st h Q ↔ T d 185 119 [l0, l1, l2, l3, .int x, l5, l6, l7] (.int x :: st) h Q := T_iload c185_117 rfl
theorem c185_119 : cod 185 119 = some (.goto 5, 3) := cod_of b185 dX8_sizes_119
theorem t185_119 {d : Nat} {h : Hp} {Q : Pst} {ls : List Value} {st : List Value} : T d 185 119 ls st h Q ↔ T d 185 124 ls st h Q := T_goto c185_119 (by decide)
theorem c185_122 : cod 185 122 = some (.iload 5, 2) := cod_of b185 dX8_sizes_122
theorem t185_122 {d : Nat} {h : Hp} {Q : Pst} {l0 l1 l2 l3 l4 l6 l7 : Value} {x : Int32} {st : List Value} : T d 185 122 [l0, l1, l2, l3, l4, .int x, l6, l7] st h Q ↔ T d 185 124 [l0, l1, l2, l3, l4, .int x, l6, l7] (.int x :: st) h Q := T_iload c185_122 rfl
theorem c185_17 : cod 185 17 = some (.aload_n 0, 1) := cod_of b185 dX8_sizes_17
theorem t185_17 {d : Nat} {h : Hp} {Q : Pst} {l1 l2 l3 l4 l5 l6 l7 : Value} {x : Nat} {st : List Value} : T d 185 17 [.ref x, l1, l2, l3, l4, l5, l6, l7] st h Q ↔ T d 185 18 [.ref x, l1, l2, l3, l4, l5, l6, l7] (.ref x :: st) h Q := T_aload_n c185_17 rfl
theorem c185_18 : cod 185 18 = some (.bipush (-2), 2) := cod_of b185 dX8_sizes_18
theorem t185_18 {d : Nat} {h : Hp} {Q : Pst} {ls : List Value} {st : List Value} : T d 185 18 ls st h Q ↔ T d 185 20 ls (.int (-2) :: st) h Q := T_bipushV c185_18 (by decide)
theorem c185_20 : cod 185 20 = some (.invokevirtual 45, 3) := cod_of b185 dX8_sizes_20
theorem t185_20 {d : Nat} {h : Hp} {Q : Pst} {a0 : Int32} {a : Nat} {ls : List Value} (ho : isO (h.2.2 a) 7) : T (d + 1) 185 20 ls [.int a0, .ref a] h Q ↔ T d 129 0 [.ref a, .int a0] [] h (fun x h2 => T (d + 1) 185 23 ls (rl x []) h2 Q) := T_virtualR (as := [.int a0]) (r := []) m185 m129 c185_20 k8_45  rfl (by decide) rfl (by simp [wrd, Value.category]) (by simp [stk, Value.category]) rfl (by decide +kernel) ho
theorem c185_23 : cod 185 23 = some (.ireturn, 1) := cod_of b185 dX8_sizes_23
theorem t185_23 {d : Nat} {h : Hp} {Q : Pst} {x : Int32} {ls : List Value} : T d 185 23 ls [.int x] h Q ↔ Q (some (.int x)) h := T_iretR m185 c185_23 rfl
theorem b186 : (mR 186).2.2.1 = cX8_mostAt := by rw [m186]
theorem c186_0 : cod 186 0 = some (.iconst 0, 1) := cod_of b186 dX8_mostAt_0
theorem t186_0 {d : Nat} {h : Hp} {Q : Pst} {ls : List Value} {st : List Value} : T d 186 0 ls st h Q ↔ T d 186 1 ls (.int 0 :: st) h Q := T_iconstV c186_0 (by decide)
theorem c186_1 : cod 186 1 = some (.istore_n 3, 1) := cod_of b186 dX8_mostAt_1
theorem t186_1 {d : Nat} {h : Hp} {Q : Pst} {l0 l1 l2 l3 l4 l5 l6 : Value} {x : Int32} {st : List Value} : T d 186 1 [l0, l1, l2, l3, l4, l5, l6] (.int x :: st) h Q ↔ T d 186 2 [l0, l1, kil l2, .int x, l4, l5, l6] st h Q := T_istore_n c186_1 (Nat.le_of_ble_eq_true rfl)
theorem c186_2 : cod 186 2 = some (.iconst 0, 1) := cod_of b186 dX8_mostAt_2
theorem t186_2 {d : Nat} {h : Hp} {Q : Pst} {ls : List Value} {st : List Value} : T d 186 2 ls st h Q ↔ T d 186 3 ls (.int 0 :: st) h Q := T_iconstV c186_2 (by decide)
theorem c186_3 : cod 186 3 = some (.istore 4, 2) := cod_of b186 dX8_mostAt_3
theorem t186_3 {d : Nat} {h : Hp} {Q : Pst} {l0 l1 l2 l3 l4 l5 l6 : Value} {x : Int32} {st : List Value} : T d 186 3 [l0, l1, l2, l3, l4, l5, l6] (.int x :: st) h Q ↔ T d 186 5 [l0, l1, l2, kil l3, .int x, l5, l6] st h Q := T_istore c186_3 (Nat.le_of_ble_eq_true rfl)
theorem c186_5 : cod 186 5 = some (.iload 4, 2) := cod_of b186 dX8_mostAt_5
theorem t186_5 {d : Nat} {h : Hp} {Q : Pst} {l0 l1 l2 l3 l5 l6 : Value} {x : Int32} {st : List Value} : T d 186 5 [l0, l1, l2, l3, .int x, l5, l6] st h Q ↔ T d 186 7 [l0, l1, l2, l3, .int x, l5, l6] (.int x :: st) h Q := T_iload c186_5 rfl
theorem c186_7 : cod 186 7 = some (.bipush 6, 2) := cod_of b186 dX8_mostAt_7
theorem t186_7 {d : Nat} {h : Hp} {Q : Pst} {ls : List Value} {st : List Value} : T d 186 7 ls st h Q ↔ T d 186 9 ls (.int 6 :: st) h Q := T_bipushV c186_7 (by decide)
theorem c186_9 : cod 186 9 = some (.if_icmp .ge 95, 3) := cod_of b186 dX8_mostAt_9
theorem t186_9 {d : Nat} {h : Hp} {Q : Pst} {x y : Int32} {ls : List Value} {st : List Value} : T d 186 9 ls (.int y :: .int x :: st) h Q ↔ (if y ≤ x then T d 186 104 ls st h Q else T d 186 12 ls st h Q) := T_icmp_ge c186_9 (by decide)
theorem c186_12 : cod 186 12 = some (.iconst 0, 1) := cod_of b186 dX8_mostAt_12
theorem t186_12 {d : Nat} {h : Hp} {Q : Pst} {ls : List Value} {st : List Value} : T d 186 12 ls st h Q ↔ T d 186 13 ls (.int 0 :: st) h Q := T_iconstV c186_12 (by decide)
theorem c186_13 : cod 186 13 = some (.istore 5, 2) := cod_of b186 dX8_mostAt_13
theorem t186_13 {d : Nat} {h : Hp} {Q : Pst} {l0 l1 l2 l3 l4 l5 l6 : Value} {x : Int32} {st : List Value} : T d 186 13 [l0, l1, l2, l3, l4, l5, l6] (.int x :: st) h Q ↔ T d 186 15 [l0, l1, l2, l3, kil l4, .int x, l6] st h Q := T_istore c186_13 (Nat.le_of_ble_eq_true rfl)
theorem c186_15 : cod 186 15 = some (.iconst 1, 1) := cod_of b186 dX8_mostAt_15
theorem t186_15 {d : Nat} {h : Hp} {Q : Pst} {ls : List Value} {st : List Value} : T d 186 15 ls st h Q ↔ T d 186 16 ls (.int 1 :: st) h Q := T_iconstV c186_15 (by decide)
theorem c186_16 : cod 186 16 = some (.istore 6, 2) := cod_of b186 dX8_mostAt_16
theorem t186_16 {d : Nat} {h : Hp} {Q : Pst} {l0 l1 l2 l3 l4 l5 l6 : Value} {x : Int32} {st : List Value} : T d 186 16 [l0, l1, l2, l3, l4, l5, l6] (.int x :: st) h Q ↔ T d 186 18 [l0, l1, l2, l3, l4, kil l5, .int x] st h Q := T_istore c186_16 (Nat.le_of_ble_eq_true rfl)
theorem c186_18 : cod 186 18 = some (.iload 6, 2) := cod_of b186 dX8_mostAt_18
theorem t186_18 {d : Nat} {h : Hp} {Q : Pst} {l0 l1 l2 l3 l4 l5 : Value} {x : Int32} {st : List Value} : T d 186 18 [l0, l1, l2, l3, l4, l5, .int x] st h Q ↔ T d 186 20 [l0, l1, l2, l3, l4, l5, .int x] (.int x :: st) h Q := T_iload c186_18 rfl
theorem c186_20 : cod 186 20 = some (.bipush 31, 2) := cod_of b186 dX8_mostAt_20
theorem t186_20 {d : Nat} {h : Hp} {Q : Pst} {ls : List Value} {st : List Value} : T d 186 20 ls st h Q ↔ T d 186 22 ls (.int 31 :: st) h Q := T_bipushV c186_20 (by decide)
theorem c186_22 : cod 186 22 = some (.if_icmp .ge 63, 3) := cod_of b186 dX8_mostAt_22
theorem t186_22 {d : Nat} {h : Hp} {Q : Pst} {x y : Int32} {ls : List Value} {st : List Value} : T d 186 22 ls (.int y :: .int x :: st) h Q ↔ (if y ≤ x then T d 186 85 ls st h Q else T d 186 25 ls st h Q) := T_icmp_ge c186_22 (by decide)
theorem c186_25 : cod 186 25 = some (.iload 5, 2) := cod_of b186 dX8_mostAt_25
theorem t186_25 {d : Nat} {h : Hp} {Q : Pst} {l0 l1 l2 l3 l4 l6 : Value} {x : Int32} {st : List Value} : T d 186 25 [l0, l1, l2, l3, l4, .int x, l6] st h Q ↔ T d 186 27 [l0, l1, l2, l3, l4, .int x, l6] (.int x :: st) h Q := T_iload c186_25 rfl
theorem c186_27 : cod 186 27 = some (.aload_n 0, 1) := cod_of b186 dX8_mostAt_27
theorem t186_27 {d : Nat} {h : Hp} {Q : Pst} {l1 l2 l3 l4 l5 l6 : Value} {x : Nat} {st : List Value} : T d 186 27 [.ref x, l1, l2, l3, l4, l5, l6] st h Q ↔ T d 186 28 [.ref x, l1, l2, l3, l4, l5, l6] (.ref x :: st) h Q := T_aload_n c186_27 rfl
theorem c186_28 : cod 186 28 = some (.iload_n 1, 1) := cod_of b186 dX8_mostAt_28
theorem t186_28 {d : Nat} {h : Hp} {Q : Pst} {l0 l2 l3 l4 l5 l6 : Value} {x : Int32} {st : List Value} : T d 186 28 [l0, .int x, l2, l3, l4, l5, l6] st h Q ↔ T d 186 29 [l0, .int x, l2, l3, l4, l5, l6] (.int x :: st) h Q := T_iload_n c186_28 rfl
theorem c186_29 : cod 186 29 = some (.iload 6, 2) := cod_of b186 dX8_mostAt_29
theorem t186_29 {d : Nat} {h : Hp} {Q : Pst} {l0 l1 l2 l3 l4 l5 : Value} {x : Int32} {st : List Value} : T d 186 29 [l0, l1, l2, l3, l4, l5, .int x] st h Q ↔ T d 186 31 [l0, l1, l2, l3, l4, l5, .int x] (.int x :: st) h Q := T_iload c186_29 rfl
theorem c186_31 : cod 186 31 = some (.invokevirtual 185, 3) := cod_of b186 dX8_mostAt_31
theorem t186_31 {d : Nat} {h : Hp} {Q : Pst} {a0 a1 s0 : Int32} {a : Nat} {ls : List Value} (ho : isO (h.2.2 a) 7) : T (d + 1) 186 31 ls [.int a1, .int a0, .ref a, .int s0] h Q ↔ T d 184 0 [.ref a, .int a0, .int a1, un, un] [] h (fun x h2 => T (d + 1) 186 34 ls (rl x [.int s0]) h2 Q) := T_virtualR (as := [.int a0, .int a1]) (r := [.int s0]) m186 m184 c186_31 k8_185  rfl (by decide) rfl (by simp [wrd, Value.category]) (by simp [stk, Value.category]) rfl (by decide +kernel) ho
theorem c186_34 : cod 186 34 = some (.ifCond .eq 41, 3) := cod_of b186 dX8_mostAt_34
theorem t186_34 {d : Nat} {h : Hp} {Q : Pst} {x : Int32} {ls : List Value} {st : List Value} : T d 186 34 ls (.int x :: st) h Q ↔ (if x = 0 then T d 186 75 ls st h Q else T d 186 37 ls st h Q) := T_if_eq c186_34 (by decide)
theorem c186_37 : cod 186 37 = some (.aload_n 0, 1) := cod_of b186 dX8_mostAt_37
theorem t186_37 {d : Nat} {h : Hp} {Q : Pst} {l1 l2 l3 l4 l5 l6 : Value} {x : Nat} {st : List Value} : T d 186 37 [.ref x, l1, l2, l3, l4, l5, l6] st h Q ↔ T d 186 38 [.ref x, l1, l2, l3, l4, l5, l6] (.ref x :: st) h Q := T_aload_n c186_37 rfl
theorem c186_38 : cod 186 38 = some (.getfield 7, 3) := cod_of b186 dX8_mostAt_38
theorem t186_38 {d : Nat} {h : Hp} {Q : Pst} {a : Nat} {ls : List Value} {st : List Value} : T d 186 38 ls (.ref a :: st) h Q ↔ gF (h.2.2 a) 7 0 (fun v => T d 186 41 ls (v :: st) h Q) := T_getfieldR m186 c186_38 f8_7
theorem c186_41 : cod 186 41 = some (.bipush 13, 2) := cod_of b186 dX8_mostAt_41
theorem t186_41 {d : Nat} {h : Hp} {Q : Pst} {ls : List Value} {st : List Value} : T d 186 41 ls st h Q ↔ T d 186 43 ls (.int 13 :: st) h Q := T_bipushV c186_41 (by decide)
theorem c186_43 : cod 186 43 = some (.iload_n 1, 1) := cod_of b186 dX8_mostAt_43
theorem t186_43 {d : Nat} {h : Hp} {Q : Pst} {l0 l2 l3 l4 l5 l6 : Value} {x : Int32} {st : List Value} : T d 186 43 [l0, .int x, l2, l3, l4, l5, l6] st h Q ↔ T d 186 44 [l0, .int x, l2, l3, l4, l5, l6] (.int x :: st) h Q := T_iload_n c186_43 rfl
theorem c186_44 : cod 186 44 = some (.iadd, 1) := cod_of b186 dX8_mostAt_44
theorem t186_44 {d : Nat} {h : Hp} {Q : Pst} {x y : Int32} {ls : List Value} {st : List Value} : T d 186 44 ls (.int y :: .int x :: st) h Q ↔ T d 186 45 ls (.int (x + y) :: st) h Q := T_iadd c186_44
theorem c186_45 : cod 186 45 = some (.iaload, 1) := cod_of b186 dX8_mostAt_45
theorem t186_45 {d : Nat} {h : Hp} {Q : Pst} {a : Nat} {i : Int32} {ls : List Value} {st : List Value} : T d 186 45 ls (.int i :: .ref a :: st) h Q ↔ aL (h.2.2 a) i (fun x => T d 186 46 ls (.int x :: st) h Q) := T_iaload c186_45
theorem c186_46 : cod 186 46 = some (.iload 6, 2) := cod_of b186 dX8_mostAt_46
theorem t186_46 {d : Nat} {h : Hp} {Q : Pst} {l0 l1 l2 l3 l4 l5 : Value} {x : Int32} {st : List Value} : T d 186 46 [l0, l1, l2, l3, l4, l5, .int x] st h Q ↔ T d 186 48 [l0, l1, l2, l3, l4, l5, .int x] (.int x :: st) h Q := T_iload c186_46 rfl
theorem c186_48 : cod 186 48 = some (.aload_n 0, 1) := cod_of b186 dX8_mostAt_48
theorem t186_48 {d : Nat} {h : Hp} {Q : Pst} {l1 l2 l3 l4 l5 l6 : Value} {x : Nat} {st : List Value} : T d 186 48 [.ref x, l1, l2, l3, l4, l5, l6] st h Q ↔ T d 186 49 [.ref x, l1, l2, l3, l4, l5, l6] (.ref x :: st) h Q := T_aload_n c186_48 rfl
theorem c186_49 : cod 186 49 = some (.iload_n 2, 1) := cod_of b186 dX8_mostAt_49
theorem t186_49 {d : Nat} {h : Hp} {Q : Pst} {l0 l1 l3 l4 l5 l6 : Value} {x : Int32} {st : List Value} : T d 186 49 [l0, l1, .int x, l3, l4, l5, l6] st h Q ↔ T d 186 50 [l0, l1, .int x, l3, l4, l5, l6] (.int x :: st) h Q := T_iload_n c186_49 rfl
theorem c186_50 : cod 186 50 = some (.aload_n 0, 1) := cod_of b186 dX8_mostAt_50
theorem t186_50 {d : Nat} {h : Hp} {Q : Pst} {l1 l2 l3 l4 l5 l6 : Value} {x : Nat} {st : List Value} : T d 186 50 [.ref x, l1, l2, l3, l4, l5, l6] st h Q ↔ T d 186 51 [.ref x, l1, l2, l3, l4, l5, l6] (.ref x :: st) h Q := T_aload_n c186_50 rfl
theorem c186_51 : cod 186 51 = some (.getfield 7, 3) := cod_of b186 dX8_mostAt_51
theorem t186_51 {d : Nat} {h : Hp} {Q : Pst} {a : Nat} {ls : List Value} {st : List Value} : T d 186 51 ls (.ref a :: st) h Q ↔ gF (h.2.2 a) 7 0 (fun v => T d 186 54 ls (v :: st) h Q) := T_getfieldR m186 c186_51 f8_7
theorem c186_54 : cod 186 54 = some (.bipush 10, 2) := cod_of b186 dX8_mostAt_54
theorem t186_54 {d : Nat} {h : Hp} {Q : Pst} {ls : List Value} {st : List Value} : T d 186 54 ls st h Q ↔ T d 186 56 ls (.int 10 :: st) h Q := T_bipushV c186_54 (by decide)
theorem c186_56 : cod 186 56 = some (.iaload, 1) := cod_of b186 dX8_mostAt_56
theorem t186_56 {d : Nat} {h : Hp} {Q : Pst} {a : Nat} {i : Int32} {ls : List Value} {st : List Value} : T d 186 56 ls (.int i :: .ref a :: st) h Q ↔ aL (h.2.2 a) i (fun x => T d 186 57 ls (.int x :: st) h Q) := T_iaload c186_56
theorem c186_57 : cod 186 57 = some (.invokevirtual 139, 3) := cod_of b186 dX8_mostAt_57
theorem t186_57 {d : Nat} {h : Hp} {Q : Pst} {a0 a1 s0 s1 s2 : Int32} {a : Nat} {ls : List Value} (ho : isO (h.2.2 a) 7) : T (d + 1) 186 57 ls [.int a1, .int a0, .ref a, .int s0, .int s1, .int s2] h Q ↔ T d 156 0 [.ref a, .int a0, .int a1] [] h (fun x h2 => T (d + 1) 186 60 ls (rl x [.int s0, .int s1, .int s2]) h2 Q) := T_virtualR (as := [.int a0, .int a1]) (r := [.int s0, .int s1, .int s2]) m186 m156 c186_57 k8_139  rfl (by decide) rfl (by simp [wrd, Value.category]) (by simp [stk, Value.category]) rfl (by decide +kernel) ho
theorem c186_60 : cod 186 60 = some (.invokestatic 142, 3) := cod_of b186 dX8_mostAt_60
theorem t186_60 {d : Nat} {h : Hp} {Q : Pst} {a0 a1 a2 s0 : Int32} {ls : List Value} : T (d + 1) 186 60 ls [.int a2, .int a1, .int a0, .int s0] h Q ↔ T d 155 0 [.int a0, .int a1, .int a2, un, un] [] h (fun x h2 => T (d + 1) 186 63 ls (rl x [.int s0]) h2 Q) := T_staticR (as := [.int a0, .int a1, .int a2]) (r := [.int s0]) m186 m155 c186_60 k8_142 (Or.inl rfl) rfl (by decide) rfl (by simp [wrd, Value.category]) (by simp [stk, Value.category]) rfl
theorem c186_63 : cod 186 63 = some (.invokestatic 148, 3) := cod_of b186 dX8_mostAt_63
theorem t186_63 {d : Nat} {h : Hp} {Q : Pst} {a0 s0 : Int32} {ls : List Value} : T (d + 1) 186 63 ls [.int a0, .int s0] h Q ↔ T d 128 0 [.int a0, un, un] [] h (fun x h2 => T (d + 1) 186 66 ls (rl x [.int s0]) h2 Q) := T_staticR (as := [.int a0]) (r := [.int s0]) m186 m128 c186_63 k8_148 (Or.inl rfl) rfl (by decide) rfl (by simp [wrd, Value.category]) (by simp [stk, Value.category]) rfl
theorem c186_66 : cod 186 66 = some (.iload 4, 2) := cod_of b186 dX8_mostAt_66
theorem t186_66 {d : Nat} {h : Hp} {Q : Pst} {l0 l1 l2 l3 l5 l6 : Value} {x : Int32} {st : List Value} : T d 186 66 [l0, l1, l2, l3, .int x, l5, l6] st h Q ↔ T d 186 68 [l0, l1, l2, l3, .int x, l5, l6] (.int x :: st) h Q := T_iload c186_66 rfl
theorem c186_68 : cod 186 68 = some (.if_icmp .ne 7, 3) := cod_of b186 dX8_mostAt_68
theorem t186_68 {d : Nat} {h : Hp} {Q : Pst} {x y : Int32} {ls : List Value} {st : List Value} : T d 186 68 ls (.int y :: .int x :: st) h Q ↔ (if ¬ x = y then T d 186 75 ls st h Q else T d 186 71 ls st h Q) := T_icmp_ne c186_68 (by decide)
theorem c186_71 : cod 186 71 = some (.iconst 1, 1) := cod_of b186 dX8_mostAt_71
theorem t186_71 {d : Nat} {h : Hp} {Q : Pst} {ls : List Value} {st : List Value} : T d 186 71 ls st h Q ↔ T d 186 72 ls (.int 1 :: st) h Q := T_iconstV c186_71 (by decide)
theorem c186_72 : cod 186 72 = some (.goto 4, 3) := cod_of b186 dX8_mostAt_72
theorem t186_72 {d : Nat} {h : Hp} {Q : Pst} {ls : List Value} {st : List Value} : T d 186 72 ls st h Q ↔ T d 186 76 ls st h Q := T_goto c186_72 (by decide)
theorem c186_76 : cod 186 76 = some (.iadd, 1) := cod_of b186 dX8_mostAt_76
theorem t186_76 {d : Nat} {h : Hp} {Q : Pst} {x y : Int32} {ls : List Value} {st : List Value} : T d 186 76 ls (.int y :: .int x :: st) h Q ↔ T d 186 77 ls (.int (x + y) :: st) h Q := T_iadd c186_76
theorem c186_77 : cod 186 77 = some (.istore 5, 2) := cod_of b186 dX8_mostAt_77
theorem t186_77 {d : Nat} {h : Hp} {Q : Pst} {l0 l1 l2 l3 l4 l5 l6 : Value} {x : Int32} {st : List Value} : T d 186 77 [l0, l1, l2, l3, l4, l5, l6] (.int x :: st) h Q ↔ T d 186 79 [l0, l1, l2, l3, kil l4, .int x, l6] st h Q := T_istore c186_77 (Nat.le_of_ble_eq_true rfl)
theorem c186_79 : cod 186 79 = some (.iinc 6 1, 3) := cod_of b186 dX8_mostAt_79
theorem t186_79 {d : Nat} {h : Hp} {Q : Pst} {l0 l1 l2 l3 l4 l5 : Value} {x : Int32} {st : List Value} : T d 186 79 [l0, l1, l2, l3, l4, l5, .int x] st h Q ↔ T d 186 82 [l0, l1, l2, l3, l4, kil l5, .int (x + 1)] st h Q := T_iincV c186_79 rfl (Nat.le_of_ble_eq_true rfl) (by decide) rfl
theorem c186_82 : cod 186 82 = some (.goto (-64), 3) := cod_of b186 dX8_mostAt_82
theorem t186_82 {d : Nat} {h : Hp} {Q : Pst} {ls : List Value} {st : List Value} : T d 186 82 ls st h Q ↔ T d 186 18 ls st h Q := T_goto c186_82 (by decide)
theorem c186_75 : cod 186 75 = some (.iconst 0, 1) := cod_of b186 dX8_mostAt_75
theorem t186_75 {d : Nat} {h : Hp} {Q : Pst} {ls : List Value} {st : List Value} : T d 186 75 ls st h Q ↔ T d 186 76 ls (.int 0 :: st) h Q := T_iconstV c186_75 (by decide)
theorem c186_85 : cod 186 85 = some (.iload 5, 2) := cod_of b186 dX8_mostAt_85
theorem t186_85 {d : Nat} {h : Hp} {Q : Pst} {l0 l1 l2 l3 l4 l6 : Value} {x : Int32} {st : List Value} : T d 186 85 [l0, l1, l2, l3, l4, .int x, l6] st h Q ↔ T d 186 87 [l0, l1, l2, l3, l4, .int x, l6] (.int x :: st) h Q := T_iload c186_85 rfl
theorem c186_87 : cod 186 87 = some (.iload_n 3, 1) := cod_of b186 dX8_mostAt_87
theorem t186_87 {d : Nat} {h : Hp} {Q : Pst} {l0 l1 l2 l4 l5 l6 : Value} {x : Int32} {st : List Value} : T d 186 87 [l0, l1, l2, .int x, l4, l5, l6] st h Q ↔ T d 186 88 [l0, l1, l2, .int x, l4, l5, l6] (.int x :: st) h Q := T_iload_n c186_87 rfl
theorem c186_88 : cod 186 88 = some (.if_icmp .le 8, 3) := cod_of b186 dX8_mostAt_88
theorem t186_88 {d : Nat} {h : Hp} {Q : Pst} {x y : Int32} {ls : List Value} {st : List Value} : T d 186 88 ls (.int y :: .int x :: st) h Q ↔ (if x ≤ y then T d 186 96 ls st h Q else T d 186 91 ls st h Q) := T_icmp_le c186_88 (by decide)
theorem c186_91 : cod 186 91 = some (.iload 5, 2) := cod_of b186 dX8_mostAt_91
theorem t186_91 {d : Nat} {h : Hp} {Q : Pst} {l0 l1 l2 l3 l4 l6 : Value} {x : Int32} {st : List Value} : T d 186 91 [l0, l1, l2, l3, l4, .int x, l6] st h Q ↔ T d 186 93 [l0, l1, l2, l3, l4, .int x, l6] (.int x :: st) h Q := T_iload c186_91 rfl
theorem c186_93 : cod 186 93 = some (.goto 4, 3) := cod_of b186 dX8_mostAt_93
theorem t186_93 {d : Nat} {h : Hp} {Q : Pst} {ls : List Value} {st : List Value} : T d 186 93 ls st h Q ↔ T d 186 97 ls st h Q := T_goto c186_93 (by decide)
theorem c186_97 : cod 186 97 = some (.istore_n 3, 1) := cod_of b186 dX8_mostAt_97
theorem t186_97 {d : Nat} {h : Hp} {Q : Pst} {l0 l1 l2 l3 l4 l5 l6 : Value} {x : Int32} {st : List Value} : T d 186 97 [l0, l1, l2, l3, l4, l5, l6] (.int x :: st) h Q ↔ T d 186 98 [l0, l1, kil l2, .int x, l4, l5, l6] st h Q := T_istore_n c186_97 (Nat.le_of_ble_eq_true rfl)
theorem c186_98 : cod 186 98 = some (.iinc 4 1, 3) := cod_of b186 dX8_mostAt_98
theorem t186_98 {d : Nat} {h : Hp} {Q : Pst} {l0 l1 l2 l3 l5 l6 : Value} {x : Int32} {st : List Value} : T d 186 98 [l0, l1, l2, l3, .int x, l5, l6] st h Q ↔ T d 186 101 [l0, l1, l2, kil l3, .int (x + 1), l5, l6] st h Q := T_iincV c186_98 rfl (Nat.le_of_ble_eq_true rfl) (by decide) rfl
theorem c186_101 : cod 186 101 = some (.goto (-96), 3) := cod_of b186 dX8_mostAt_101
theorem t186_101 {d : Nat} {h : Hp} {Q : Pst} {ls : List Value} {st : List Value} : T d 186 101 ls st h Q ↔ T d 186 5 ls st h Q := T_goto c186_101 (by decide)
theorem c186_96 : cod 186 96 = some (.iload_n 3, 1) := cod_of b186 dX8_mostAt_96
theorem t186_96 {d : Nat} {h : Hp} {Q : Pst} {l0 l1 l2 l4 l5 l6 : Value} {x : Int32} {st : List Value} : T d 186 96 [l0, l1, l2, .int x, l4, l5, l6] st h Q ↔ T d 186 97 [l0, l1, l2, .int x, l4, l5, l6] (.int x :: st) h Q := T_iload_n c186_96 rfl
theorem c186_104 : cod 186 104 = some (.iload_n 3, 1) := cod_of b186 dX8_mostAt_104
theorem t186_104 {d : Nat} {h : Hp} {Q : Pst} {l0 l1 l2 l4 l5 l6 : Value} {x : Int32} {st : List Value} : T d 186 104 [l0, l1, l2, .int x, l4, l5, l6] st h Q ↔ T d 186 105 [l0, l1, l2, .int x, l4, l5, l6] (.int x :: st) h Q := T_iload_n c186_104 rfl
theorem c186_105 : cod 186 105 = some (.ireturn, 1) := cod_of b186 dX8_mostAt_105
theorem t186_105 {d : Nat} {h : Hp} {Q : Pst} {x : Int32} {ls : List Value} : T d 186 105 ls [.int x] h Q ↔ Q (some (.int x)) h := T_iretR m186 c186_105 rfl
theorem b187 : (mR 187).2.2.1 = cX8_tell := by rw [m187]
theorem c187_0 : cod 187 0 = some (.aload_n 0, 1) := cod_of b187 dX8_tell_0
theorem t187_0 {d : Nat} {h : Hp} {Q : Pst} {l1 l2 l3 l4 l5 : Value} {x : Nat} {st : List Value} : T d 187 0 [.ref x, l1, l2, l3, l4, l5] st h Q ↔ T d 187 1 [.ref x, l1, l2, l3, l4, l5] (.ref x :: st) h Q := T_aload_n c187_0 rfl
theorem c187_1 : cod 187 1 = some (.iload_n 1, 1) := cod_of b187 dX8_tell_1
theorem t187_1 {d : Nat} {h : Hp} {Q : Pst} {l0 l2 l3 l4 l5 : Value} {x : Int32} {st : List Value} : T d 187 1 [l0, .int x, l2, l3, l4, l5] st h Q ↔ T d 187 2 [l0, .int x, l2, l3, l4, l5] (.int x :: st) h Q := T_iload_n c187_1 rfl
theorem c187_2 : cod 187 2 = some (.invokevirtual 157, 3) := cod_of b187 dX8_tell_2
theorem t187_2 {d : Nat} {h : Hp} {Q : Pst} {a0 : Int32} {a : Nat} {ls : List Value} (ho : isO (h.2.2 a) 7) : T (d + 1) 187 2 ls [.int a0, .ref a] h Q ↔ T d 163 0 [.ref a, .int a0] [] h (fun x h2 => T (d + 1) 187 5 ls (rl x []) h2 Q) := T_virtualR (as := [.int a0]) (r := []) m187 m163 c187_2 k8_157  rfl (by decide) rfl (by simp [wrd, Value.category]) (by simp [stk, Value.category]) rfl (by decide +kernel) ho
theorem c187_5 : cod 187 5 = some (.ifCond .ne 10, 3) := cod_of b187 dX8_tell_5
theorem t187_5 {d : Nat} {h : Hp} {Q : Pst} {x : Int32} {ls : List Value} {st : List Value} : T d 187 5 ls (.int x :: st) h Q ↔ (if ¬ x = 0 then T d 187 15 ls st h Q else T d 187 8 ls st h Q) := T_if_ne c187_5 (by decide)
theorem c187_8 : cod 187 8 = some (.aload_n 0, 1) := cod_of b187 dX8_tell_8
theorem t187_8 {d : Nat} {h : Hp} {Q : Pst} {l1 l2 l3 l4 l5 : Value} {x : Nat} {st : List Value} : T d 187 8 [.ref x, l1, l2, l3, l4, l5] st h Q ↔ T d 187 9 [.ref x, l1, l2, l3, l4, l5] (.ref x :: st) h Q := T_aload_n c187_8 rfl
theorem c187_9 : cod 187 9 = some (.bipush (-2), 2) := cod_of b187 dX8_tell_9
theorem t187_9 {d : Nat} {h : Hp} {Q : Pst} {ls : List Value} {st : List Value} : T d 187 9 ls st h Q ↔ T d 187 11 ls (.int (-2) :: st) h Q := T_bipushV c187_9 (by decide)
theorem c187_11 : cod 187 11 = some (.invokevirtual 45, 3) := cod_of b187 dX8_tell_11
theorem t187_11 {d : Nat} {h : Hp} {Q : Pst} {a0 : Int32} {a : Nat} {ls : List Value} (ho : isO (h.2.2 a) 7) : T (d + 1) 187 11 ls [.int a0, .ref a] h Q ↔ T d 129 0 [.ref a, .int a0] [] h (fun x h2 => T (d + 1) 187 14 ls (rl x []) h2 Q) := T_virtualR (as := [.int a0]) (r := []) m187 m129 c187_11 k8_45  rfl (by decide) rfl (by simp [wrd, Value.category]) (by simp [stk, Value.category]) rfl (by decide +kernel) ho
theorem c187_14 : cod 187 14 = some (.ireturn, 1) := cod_of b187 dX8_tell_14
theorem t187_14 {d : Nat} {h : Hp} {Q : Pst} {x : Int32} {ls : List Value} : T d 187 14 ls [.int x] h Q ↔ Q (some (.int x)) h := T_iretR m187 c187_14 rfl
theorem c187_15 : cod 187 15 = some (.iconst (-1), 1) := cod_of b187 dX8_tell_15
theorem t187_15 {d : Nat} {h : Hp} {Q : Pst} {ls : List Value} {st : List Value} : T d 187 15 ls st h Q ↔ T d 187 16 ls (.int (-1) :: st) h Q := T_iconstV c187_15 (by decide)
theorem c187_16 : cod 187 16 = some (.istore_n 2, 1) := cod_of b187 dX8_tell_16
theorem t187_16 {d : Nat} {h : Hp} {Q : Pst} {l0 l1 l2 l3 l4 l5 : Value} {x : Int32} {st : List Value} : T d 187 16 [l0, l1, l2, l3, l4, l5] (.int x :: st) h Q ↔ T d 187 17 [l0, kil l1, .int x, l3, l4, l5] st h Q := T_istore_n c187_16 (Nat.le_of_ble_eq_true rfl)
theorem c187_17 : cod 187 17 = some (.bipush 99, 2) := cod_of b187 dX8_tell_17
theorem t187_17 {d : Nat} {h : Hp} {Q : Pst} {ls : List Value} {st : List Value} : T d 187 17 ls st h Q ↔ T d 187 19 ls (.int 99 :: st) h Q := T_bipushV c187_17 (by decide)
theorem c187_19 : cod 187 19 = some (.istore_n 3, 1) := cod_of b187 dX8_tell_19
theorem t187_19 {d : Nat} {h : Hp} {Q : Pst} {l0 l1 l2 l3 l4 l5 : Value} {x : Int32} {st : List Value} : T d 187 19 [l0, l1, l2, l3, l4, l5] (.int x :: st) h Q ↔ T d 187 20 [l0, l1, kil l2, .int x, l4, l5] st h Q := T_istore_n c187_19 (Nat.le_of_ble_eq_true rfl)
theorem c187_20 : cod 187 20 = some (.iconst 0, 1) := cod_of b187 dX8_tell_20
theorem t187_20 {d : Nat} {h : Hp} {Q : Pst} {ls : List Value} {st : List Value} : T d 187 20 ls st h Q ↔ T d 187 21 ls (.int 0 :: st) h Q := T_iconstV c187_20 (by decide)
theorem c187_21 : cod 187 21 = some (.istore 4, 2) := cod_of b187 dX8_tell_21
theorem t187_21 {d : Nat} {h : Hp} {Q : Pst} {l0 l1 l2 l3 l4 l5 : Value} {x : Int32} {st : List Value} : T d 187 21 [l0, l1, l2, l3, l4, l5] (.int x :: st) h Q ↔ T d 187 23 [l0, l1, l2, kil l3, .int x, l5] st h Q := T_istore c187_21 (Nat.le_of_ble_eq_true rfl)
theorem c187_23 : cod 187 23 = some (.iload 4, 2) := cod_of b187 dX8_tell_23
theorem t187_23 {d : Nat} {h : Hp} {Q : Pst} {l0 l1 l2 l3 l5 : Value} {x : Int32} {st : List Value} : T d 187 23 [l0, l1, l2, l3, .int x, l5] st h Q ↔ T d 187 25 [l0, l1, l2, l3, .int x, l5] (.int x :: st) h Q := T_iload c187_23 rfl
theorem c187_25 : cod 187 25 = some (.aload_n 0, 1) := cod_of b187 dX8_tell_25
theorem t187_25 {d : Nat} {h : Hp} {Q : Pst} {l1 l2 l3 l4 l5 : Value} {x : Nat} {st : List Value} : T d 187 25 [.ref x, l1, l2, l3, l4, l5] st h Q ↔ T d 187 26 [.ref x, l1, l2, l3, l4, l5] (.ref x :: st) h Q := T_aload_n c187_25 rfl
theorem c187_26 : cod 187 26 = some (.getfield 7, 3) := cod_of b187 dX8_tell_26
theorem t187_26 {d : Nat} {h : Hp} {Q : Pst} {a : Nat} {ls : List Value} {st : List Value} : T d 187 26 ls (.ref a :: st) h Q ↔ gF (h.2.2 a) 7 0 (fun v => T d 187 29 ls (v :: st) h Q) := T_getfieldR m187 c187_26 f8_7
theorem c187_29 : cod 187 29 = some (.bipush 25, 2) := cod_of b187 dX8_tell_29
theorem t187_29 {d : Nat} {h : Hp} {Q : Pst} {ls : List Value} {st : List Value} : T d 187 29 ls st h Q ↔ T d 187 31 ls (.int 25 :: st) h Q := T_bipushV c187_29 (by decide)
theorem c187_31 : cod 187 31 = some (.iaload, 1) := cod_of b187 dX8_tell_31
theorem t187_31 {d : Nat} {h : Hp} {Q : Pst} {a : Nat} {i : Int32} {ls : List Value} {st : List Value} : T d 187 31 ls (.int i :: .ref a :: st) h Q ↔ aL (h.2.2 a) i (fun x => T d 187 32 ls (.int x :: st) h Q) := T_iaload c187_31
theorem c187_32 : cod 187 32 = some (.if_icmp .ge 49, 3) := cod_of b187 dX8_tell_32
theorem t187_32 {d : Nat} {h : Hp} {Q : Pst} {x y : Int32} {ls : List Value} {st : List Value} : T d 187 32 ls (.int y :: .int x :: st) h Q ↔ (if y ≤ x then T d 187 81 ls st h Q else T d 187 35 ls st h Q) := T_icmp_ge c187_32 (by decide)
theorem c187_35 : cod 187 35 = some (.aload_n 0, 1) := cod_of b187 dX8_tell_35
theorem t187_35 {d : Nat} {h : Hp} {Q : Pst} {l1 l2 l3 l4 l5 : Value} {x : Nat} {st : List Value} : T d 187 35 [.ref x, l1, l2, l3, l4, l5] st h Q ↔ T d 187 36 [.ref x, l1, l2, l3, l4, l5] (.ref x :: st) h Q := T_aload_n c187_35 rfl
theorem c187_36 : cod 187 36 = some (.iload_n 1, 1) := cod_of b187 dX8_tell_36
theorem t187_36 {d : Nat} {h : Hp} {Q : Pst} {l0 l2 l3 l4 l5 : Value} {x : Int32} {st : List Value} : T d 187 36 [l0, .int x, l2, l3, l4, l5] st h Q ↔ T d 187 37 [l0, .int x, l2, l3, l4, l5] (.int x :: st) h Q := T_iload_n c187_36 rfl
theorem c187_37 : cod 187 37 = some (.iload 4, 2) := cod_of b187 dX8_tell_37
theorem t187_37 {d : Nat} {h : Hp} {Q : Pst} {l0 l1 l2 l3 l5 : Value} {x : Int32} {st : List Value} : T d 187 37 [l0, l1, l2, l3, .int x, l5] st h Q ↔ T d 187 39 [l0, l1, l2, l3, .int x, l5] (.int x :: st) h Q := T_iload c187_37 rfl
theorem c187_39 : cod 187 39 = some (.invokevirtual 188, 3) := cod_of b187 dX8_tell_39
theorem t187_39 {d : Nat} {h : Hp} {Q : Pst} {a0 a1 : Int32} {a : Nat} {ls : List Value} (ho : isO (h.2.2 a) 7) : T (d + 1) 187 39 ls [.int a1, .int a0, .ref a] h Q ↔ T d 186 0 [.ref a, .int a0, .int a1, un, un, un, un] [] h (fun x h2 => T (d + 1) 187 42 ls (rl x []) h2 Q) := T_virtualR (as := [.int a0, .int a1]) (r := []) m187 m186 c187_39 k8_188  rfl (by decide) rfl (by simp [wrd, Value.category]) (by simp [stk, Value.category]) rfl (by decide +kernel) ho
theorem c187_42 : cod 187 42 = some (.istore 5, 2) := cod_of b187 dX8_tell_42
theorem t187_42 {d : Nat} {h : Hp} {Q : Pst} {l0 l1 l2 l3 l4 l5 : Value} {x : Int32} {st : List Value} : T d 187 42 [l0, l1, l2, l3, l4, l5] (.int x :: st) h Q ↔ T d 187 44 [l0, l1, l2, l3, kil l4, .int x] st h Q := T_istore c187_42 (Nat.le_of_ble_eq_true rfl)
theorem c187_44 : cod 187 44 = some (.iload 5, 2) := cod_of b187 dX8_tell_44
theorem t187_44 {d : Nat} {h : Hp} {Q : Pst} {l0 l1 l2 l3 l4 : Value} {x : Int32} {st : List Value} : T d 187 44 [l0, l1, l2, l3, l4, .int x] st h Q ↔ T d 187 46 [l0, l1, l2, l3, l4, .int x] (.int x :: st) h Q := T_iload c187_44 rfl
theorem c187_46 : cod 187 46 = some (.ifCond .le 14, 3) := cod_of b187 dX8_tell_46
theorem t187_46 {d : Nat} {h : Hp} {Q : Pst} {x : Int32} {ls : List Value} {st : List Value} : T d 187 46 ls (.int x :: st) h Q ↔ (if x ≤ 0 then T d 187 60 ls st h Q else T d 187 49 ls st h Q) := T_if_le c187_46 (by decide)
theorem c187_49 : cod 187 49 = some (.iload 5, 2) := cod_of b187 dX8_tell_49
theorem t187_49 {d : Nat} {h : Hp} {Q : Pst} {l0 l1 l2 l3 l4 : Value} {x : Int32} {st : List Value} : T d 187 49 [l0, l1, l2, l3, l4, .int x] st h Q ↔ T d 187 51 [l0, l1, l2, l3, l4, .int x] (.int x :: st) h Q := T_iload c187_49 rfl
theorem c187_51 : cod 187 51 = some (.iload_n 3, 1) := cod_of b187 dX8_tell_51
theorem t187_51 {d : Nat} {h : Hp} {Q : Pst} {l0 l1 l2 l4 l5 : Value} {x : Int32} {st : List Value} : T d 187 51 [l0, l1, l2, .int x, l4, l5] st h Q ↔ T d 187 52 [l0, l1, l2, .int x, l4, l5] (.int x :: st) h Q := T_iload_n c187_51 rfl
theorem c187_52 : cod 187 52 = some (.if_icmp .ge 8, 3) := cod_of b187 dX8_tell_52
theorem t187_52 {d : Nat} {h : Hp} {Q : Pst} {x y : Int32} {ls : List Value} {st : List Value} : T d 187 52 ls (.int y :: .int x :: st) h Q ↔ (if y ≤ x then T d 187 60 ls st h Q else T d 187 55 ls st h Q) := T_icmp_ge c187_52 (by decide)
theorem c187_55 : cod 187 55 = some (.iload 4, 2) := cod_of b187 dX8_tell_55
theorem t187_55 {d : Nat} {h : Hp} {Q : Pst} {l0 l1 l2 l3 l5 : Value} {x : Int32} {st : List Value} : T d 187 55 [l0, l1, l2, l3, .int x, l5] st h Q ↔ T d 187 57 [l0, l1, l2, l3, .int x, l5] (.int x :: st) h Q := T_iload c187_55 rfl
theorem c187_57 : cod 187 57 = some (.goto 4, 3) := cod_of b187 dX8_tell_57
theorem t187_57 {d : Nat} {h : Hp} {Q : Pst} {ls : List Value} {st : List Value} : T d 187 57 ls st h Q ↔ T d 187 61 ls st h Q := T_goto c187_57 (by decide)
theorem c187_61 : cod 187 61 = some (.istore_n 2, 1) := cod_of b187 dX8_tell_61
theorem t187_61 {d : Nat} {h : Hp} {Q : Pst} {l0 l1 l2 l3 l4 l5 : Value} {x : Int32} {st : List Value} : T d 187 61 [l0, l1, l2, l3, l4, l5] (.int x :: st) h Q ↔ T d 187 62 [l0, kil l1, .int x, l3, l4, l5] st h Q := T_istore_n c187_61 (Nat.le_of_ble_eq_true rfl)
theorem c187_62 : cod 187 62 = some (.iload 5, 2) := cod_of b187 dX8_tell_62
theorem t187_62 {d : Nat} {h : Hp} {Q : Pst} {l0 l1 l2 l3 l4 : Value} {x : Int32} {st : List Value} : T d 187 62 [l0, l1, l2, l3, l4, .int x] st h Q ↔ T d 187 64 [l0, l1, l2, l3, l4, .int x] (.int x :: st) h Q := T_iload c187_62 rfl
theorem c187_64 : cod 187 64 = some (.iload_n 3, 1) := cod_of b187 dX8_tell_64
theorem t187_64 {d : Nat} {h : Hp} {Q : Pst} {l0 l1 l2 l4 l5 : Value} {x : Int32} {st : List Value} : T d 187 64 [l0, l1, l2, .int x, l4, l5] st h Q ↔ T d 187 65 [l0, l1, l2, .int x, l4, l5] (.int x :: st) h Q := T_iload_n c187_64 rfl
theorem c187_65 : cod 187 65 = some (.if_icmp .ge 8, 3) := cod_of b187 dX8_tell_65
theorem t187_65 {d : Nat} {h : Hp} {Q : Pst} {x y : Int32} {ls : List Value} {st : List Value} : T d 187 65 ls (.int y :: .int x :: st) h Q ↔ (if y ≤ x then T d 187 73 ls st h Q else T d 187 68 ls st h Q) := T_icmp_ge c187_65 (by decide)
theorem c187_68 : cod 187 68 = some (.iload 5, 2) := cod_of b187 dX8_tell_68
theorem t187_68 {d : Nat} {h : Hp} {Q : Pst} {l0 l1 l2 l3 l4 : Value} {x : Int32} {st : List Value} : T d 187 68 [l0, l1, l2, l3, l4, .int x] st h Q ↔ T d 187 70 [l0, l1, l2, l3, l4, .int x] (.int x :: st) h Q := T_iload c187_68 rfl
theorem c187_70 : cod 187 70 = some (.goto 4, 3) := cod_of b187 dX8_tell_70
theorem t187_70 {d : Nat} {h : Hp} {Q : Pst} {ls : List Value} {st : List Value} : T d 187 70 ls st h Q ↔ T d 187 74 ls st h Q := T_goto c187_70 (by decide)
theorem c187_74 : cod 187 74 = some (.istore_n 3, 1) := cod_of b187 dX8_tell_74
theorem t187_74 {d : Nat} {h : Hp} {Q : Pst} {l0 l1 l2 l3 l4 l5 : Value} {x : Int32} {st : List Value} : T d 187 74 [l0, l1, l2, l3, l4, l5] (.int x :: st) h Q ↔ T d 187 75 [l0, l1, kil l2, .int x, l4, l5] st h Q := T_istore_n c187_74 (Nat.le_of_ble_eq_true rfl)
theorem c187_75 : cod 187 75 = some (.iinc 4 1, 3) := cod_of b187 dX8_tell_75
theorem t187_75 {d : Nat} {h : Hp} {Q : Pst} {l0 l1 l2 l3 l5 : Value} {x : Int32} {st : List Value} : T d 187 75 [l0, l1, l2, l3, .int x, l5] st h Q ↔ T d 187 78 [l0, l1, l2, kil l3, .int (x + 1), l5] st h Q := T_iincV c187_75 rfl (Nat.le_of_ble_eq_true rfl) (by decide) rfl
theorem c187_78 : cod 187 78 = some (.goto (-55), 3) := cod_of b187 dX8_tell_78
theorem t187_78 {d : Nat} {h : Hp} {Q : Pst} {ls : List Value} {st : List Value} : T d 187 78 ls st h Q ↔ T d 187 23 ls st h Q := T_goto c187_78 (by decide)
theorem c187_73 : cod 187 73 = some (.iload_n 3, 1) := cod_of b187 dX8_tell_73
theorem t187_73 {d : Nat} {h : Hp} {Q : Pst} {l0 l1 l2 l4 l5 : Value} {x : Int32} {st : List Value} : T d 187 73 [l0, l1, l2, .int x, l4, l5] st h Q ↔ T d 187 74 [l0, l1, l2, .int x, l4, l5] (.int x :: st) h Q := T_iload_n c187_73 rfl
theorem c187_60 : cod 187 60 = some (.iload_n 2, 1) := cod_of b187 dX8_tell_60
theorem t187_60 {d : Nat} {h : Hp} {Q : Pst} {l0 l1 l3 l4 l5 : Value} {x : Int32} {st : List Value} : T d 187 60 [l0, l1, .int x, l3, l4, l5] st h Q ↔ T d 187 61 [l0, l1, .int x, l3, l4, l5] (.int x :: st) h Q := T_iload_n c187_60 rfl
theorem c187_81 : cod 187 81 = some (.iload_n 2, 1) := cod_of b187 dX8_tell_81
theorem t187_81 {d : Nat} {h : Hp} {Q : Pst} {l0 l1 l3 l4 l5 : Value} {x : Int32} {st : List Value} : T d 187 81 [l0, l1, .int x, l3, l4, l5] st h Q ↔ T d 187 82 [l0, l1, .int x, l3, l4, l5] (.int x :: st) h Q := T_iload_n c187_81 rfl
theorem c187_82 : cod 187 82 = some (.ireturn, 1) := cod_of b187 dX8_tell_82
theorem t187_82 {d : Nat} {h : Hp} {Q : Pst} {x : Int32} {ls : List Value} : T d 187 82 ls [.int x] h Q ↔ Q (some (.int x)) h := T_iretR m187 c187_82 rfl
theorem b188 : (mR 188).2.2.1 = cX8_note := by rw [m188]
theorem c188_0 : cod 188 0 = some (.aload_n 0, 1) := cod_of b188 dX8_note_0
theorem t188_0 {d : Nat} {h : Hp} {Q : Pst} {l1 l2 l3 l4 l5 : Value} {x : Nat} {st : List Value} : T d 188 0 [.ref x, l1, l2, l3, l4, l5] st h Q ↔ T d 188 1 [.ref x, l1, l2, l3, l4, l5] (.ref x :: st) h Q := T_aload_n c188_0 rfl
theorem c188_1 : cod 188 1 = some (.iload_n 1, 1) := cod_of b188 dX8_note_1
theorem t188_1 {d : Nat} {h : Hp} {Q : Pst} {l0 l2 l3 l4 l5 : Value} {x : Int32} {st : List Value} : T d 188 1 [l0, .int x, l2, l3, l4, l5] st h Q ↔ T d 188 2 [l0, .int x, l2, l3, l4, l5] (.int x :: st) h Q := T_iload_n c188_1 rfl
theorem c188_2 : cod 188 2 = some (.invokevirtual 157, 3) := cod_of b188 dX8_note_2
theorem t188_2 {d : Nat} {h : Hp} {Q : Pst} {a0 : Int32} {a : Nat} {ls : List Value} (ho : isO (h.2.2 a) 7) : T (d + 1) 188 2 ls [.int a0, .ref a] h Q ↔ T d 163 0 [.ref a, .int a0] [] h (fun x h2 => T (d + 1) 188 5 ls (rl x []) h2 Q) := T_virtualR (as := [.int a0]) (r := []) m188 m163 c188_2 k8_157  rfl (by decide) rfl (by simp [wrd, Value.category]) (by simp [stk, Value.category]) rfl (by decide +kernel) ho
theorem c188_5 : cod 188 5 = some (.ifCond .eq 33, 3) := cod_of b188 dX8_note_5
theorem t188_5 {d : Nat} {h : Hp} {Q : Pst} {x : Int32} {ls : List Value} {st : List Value} : T d 188 5 ls (.int x :: st) h Q ↔ (if x = 0 then T d 188 38 ls st h Q else T d 188 8 ls st h Q) := T_if_eq c188_5 (by decide)
theorem c188_8 : cod 188 8 = some (.iload_n 2, 1) := cod_of b188 dX8_note_8
theorem t188_8 {d : Nat} {h : Hp} {Q : Pst} {l0 l1 l3 l4 l5 : Value} {x : Int32} {st : List Value} : T d 188 8 [l0, l1, .int x, l3, l4, l5] st h Q ↔ T d 188 9 [l0, l1, .int x, l3, l4, l5] (.int x :: st) h Q := T_iload_n c188_8 rfl
theorem c188_9 : cod 188 9 = some (.iconst 1, 1) := cod_of b188 dX8_note_9
theorem t188_9 {d : Nat} {h : Hp} {Q : Pst} {ls : List Value} {st : List Value} : T d 188 9 ls st h Q ↔ T d 188 10 ls (.int 1 :: st) h Q := T_iconstV c188_9 (by decide)
theorem c188_10 : cod 188 10 = some (.bipush 30, 2) := cod_of b188 dX8_note_10
theorem t188_10 {d : Nat} {h : Hp} {Q : Pst} {ls : List Value} {st : List Value} : T d 188 10 ls st h Q ↔ T d 188 12 ls (.int 30 :: st) h Q := T_bipushV c188_10 (by decide)
theorem c188_12 : cod 188 12 = some (.invokestatic 49, 3) := cod_of b188 dX8_note_12
theorem t188_12 {d : Nat} {h : Hp} {Q : Pst} {a0 a1 a2 : Int32} {ls : List Value} : T (d + 1) 188 12 ls [.int a2, .int a1, .int a0] h Q ↔ T d 126 0 [.int a0, .int a1, .int a2] [] h (fun x h2 => T (d + 1) 188 15 ls (rl x []) h2 Q) := T_staticR (as := [.int a0, .int a1, .int a2]) (r := []) m188 m126 c188_12 k8_49 (Or.inl rfl) rfl (by decide) rfl (by simp [wrd, Value.category]) (by simp [stk, Value.category]) rfl
theorem c188_15 : cod 188 15 = some (.ifCond .eq 23, 3) := cod_of b188 dX8_note_15
theorem t188_15 {d : Nat} {h : Hp} {Q : Pst} {x : Int32} {ls : List Value} {st : List Value} : T d 188 15 ls (.int x :: st) h Q ↔ (if x = 0 then T d 188 38 ls st h Q else T d 188 18 ls st h Q) := T_if_eq c188_15 (by decide)
theorem c188_18 : cod 188 18 = some (.iload_n 3, 1) := cod_of b188 dX8_note_18
theorem t188_18 {d : Nat} {h : Hp} {Q : Pst} {l0 l1 l2 l4 l5 : Value} {x : Int32} {st : List Value} : T d 188 18 [l0, l1, l2, .int x, l4, l5] st h Q ↔ T d 188 19 [l0, l1, l2, .int x, l4, l5] (.int x :: st) h Q := T_iload_n c188_18 rfl
theorem c188_19 : cod 188 19 = some (.iconst 0, 1) := cod_of b188 dX8_note_19
theorem t188_19 {d : Nat} {h : Hp} {Q : Pst} {ls : List Value} {st : List Value} : T d 188 19 ls st h Q ↔ T d 188 20 ls (.int 0 :: st) h Q := T_iconstV c188_19 (by decide)
theorem c188_20 : cod 188 20 = some (.iconst 4, 1) := cod_of b188 dX8_note_20
theorem t188_20 {d : Nat} {h : Hp} {Q : Pst} {ls : List Value} {st : List Value} : T d 188 20 ls st h Q ↔ T d 188 21 ls (.int 4 :: st) h Q := T_iconstV c188_20 (by decide)
theorem c188_21 : cod 188 21 = some (.invokestatic 49, 3) := cod_of b188 dX8_note_21
theorem t188_21 {d : Nat} {h : Hp} {Q : Pst} {a0 a1 a2 : Int32} {ls : List Value} : T (d + 1) 188 21 ls [.int a2, .int a1, .int a0] h Q ↔ T d 126 0 [.int a0, .int a1, .int a2] [] h (fun x h2 => T (d + 1) 188 24 ls (rl x []) h2 Q) := T_staticR (as := [.int a0, .int a1, .int a2]) (r := []) m188 m126 c188_21 k8_49 (Or.inl rfl) rfl (by decide) rfl (by simp [wrd, Value.category]) (by simp [stk, Value.category]) rfl
theorem c188_24 : cod 188 24 = some (.ifCond .eq 14, 3) := cod_of b188 dX8_note_24
theorem t188_24 {d : Nat} {h : Hp} {Q : Pst} {x : Int32} {ls : List Value} {st : List Value} : T d 188 24 ls (.int x :: st) h Q ↔ (if x = 0 then T d 188 38 ls st h Q else T d 188 27 ls st h Q) := T_if_eq c188_24 (by decide)
theorem c188_27 : cod 188 27 = some (.iload 4, 2) := cod_of b188 dX8_note_27
theorem t188_27 {d : Nat} {h : Hp} {Q : Pst} {l0 l1 l2 l3 l5 : Value} {x : Int32} {st : List Value} : T d 188 27 [l0, l1, l2, l3, .int x, l5] st h Q ↔ T d 188 29 [l0, l1, l2, l3, .int x, l5] (.int x :: st) h Q := T_iload c188_27 rfl
theorem c188_29 : cod 188 29 = some (.iconst 0, 1) := cod_of b188 dX8_note_29
theorem t188_29 {d : Nat} {h : Hp} {Q : Pst} {ls : List Value} {st : List Value} : T d 188 29 ls st h Q ↔ T d 188 30 ls (.int 0 :: st) h Q := T_iconstV c188_29 (by decide)
theorem c188_30 : cod 188 30 = some (.bipush 60, 2) := cod_of b188 dX8_note_30
theorem t188_30 {d : Nat} {h : Hp} {Q : Pst} {ls : List Value} {st : List Value} : T d 188 30 ls st h Q ↔ T d 188 32 ls (.int 60 :: st) h Q := T_bipushV c188_30 (by decide)
theorem c188_32 : cod 188 32 = some (.invokestatic 49, 3) := cod_of b188 dX8_note_32
theorem t188_32 {d : Nat} {h : Hp} {Q : Pst} {a0 a1 a2 : Int32} {ls : List Value} : T (d + 1) 188 32 ls [.int a2, .int a1, .int a0] h Q ↔ T d 126 0 [.int a0, .int a1, .int a2] [] h (fun x h2 => T (d + 1) 188 35 ls (rl x []) h2 Q) := T_staticR (as := [.int a0, .int a1, .int a2]) (r := []) m188 m126 c188_32 k8_49 (Or.inl rfl) rfl (by decide) rfl (by simp [wrd, Value.category]) (by simp [stk, Value.category]) rfl
theorem c188_35 : cod 188 35 = some (.ifCond .ne 10, 3) := cod_of b188 dX8_note_35
theorem t188_35 {d : Nat} {h : Hp} {Q : Pst} {x : Int32} {ls : List Value} {st : List Value} : T d 188 35 ls (.int x :: st) h Q ↔ (if ¬ x = 0 then T d 188 45 ls st h Q else T d 188 38 ls st h Q) := T_if_ne c188_35 (by decide)
theorem c188_45 : cod 188 45 = some (.aload_n 0, 1) := cod_of b188 dX8_note_45
theorem t188_45 {d : Nat} {h : Hp} {Q : Pst} {l1 l2 l3 l4 l5 : Value} {x : Nat} {st : List Value} : T d 188 45 [.ref x, l1, l2, l3, l4, l5] st h Q ↔ T d 188 46 [.ref x, l1, l2, l3, l4, l5] (.ref x :: st) h Q := T_aload_n c188_45 rfl
theorem c188_46 : cod 188 46 = some (.getfield 7, 3) := cod_of b188 dX8_note_46
theorem t188_46 {d : Nat} {h : Hp} {Q : Pst} {a : Nat} {ls : List Value} {st : List Value} : T d 188 46 ls (.ref a :: st) h Q ↔ gF (h.2.2 a) 7 0 (fun v => T d 188 49 ls (v :: st) h Q) := T_getfieldR m188 c188_46 f8_7
theorem c188_49 : cod 188 49 = some (.bipush 55, 2) := cod_of b188 dX8_note_49
theorem t188_49 {d : Nat} {h : Hp} {Q : Pst} {ls : List Value} {st : List Value} : T d 188 49 ls st h Q ↔ T d 188 51 ls (.int 55 :: st) h Q := T_bipushV c188_49 (by decide)
theorem c188_51 : cod 188 51 = some (.iaload, 1) := cod_of b188 dX8_note_51
theorem t188_51 {d : Nat} {h : Hp} {Q : Pst} {a : Nat} {i : Int32} {ls : List Value} {st : List Value} : T d 188 51 ls (.int i :: .ref a :: st) h Q ↔ aL (h.2.2 a) i (fun x => T d 188 52 ls (.int x :: st) h Q) := T_iaload c188_51
theorem c188_52 : cod 188 52 = some (.bipush 6, 2) := cod_of b188 dX8_note_52
theorem t188_52 {d : Nat} {h : Hp} {Q : Pst} {ls : List Value} {st : List Value} : T d 188 52 ls st h Q ↔ T d 188 54 ls (.int 6 :: st) h Q := T_bipushV c188_52 (by decide)
theorem c188_54 : cod 188 54 = some (.if_icmp .ne 10, 3) := cod_of b188 dX8_note_54
theorem t188_54 {d : Nat} {h : Hp} {Q : Pst} {x y : Int32} {ls : List Value} {st : List Value} : T d 188 54 ls (.int y :: .int x :: st) h Q ↔ (if ¬ x = y then T d 188 64 ls st h Q else T d 188 57 ls st h Q) := T_icmp_ne c188_54 (by decide)
theorem c188_57 : cod 188 57 = some (.aload_n 0, 1) := cod_of b188 dX8_note_57
theorem t188_57 {d : Nat} {h : Hp} {Q : Pst} {l1 l2 l3 l4 l5 : Value} {x : Nat} {st : List Value} : T d 188 57 [.ref x, l1, l2, l3, l4, l5] st h Q ↔ T d 188 58 [.ref x, l1, l2, l3, l4, l5] (.ref x :: st) h Q := T_aload_n c188_57 rfl
theorem c188_58 : cod 188 58 = some (.bipush (-4), 2) := cod_of b188 dX8_note_58
theorem t188_58 {d : Nat} {h : Hp} {Q : Pst} {ls : List Value} {st : List Value} : T d 188 58 ls st h Q ↔ T d 188 60 ls (.int (-4) :: st) h Q := T_bipushV c188_58 (by decide)
theorem c188_60 : cod 188 60 = some (.invokevirtual 45, 3) := cod_of b188 dX8_note_60
theorem t188_60 {d : Nat} {h : Hp} {Q : Pst} {a0 : Int32} {a : Nat} {ls : List Value} (ho : isO (h.2.2 a) 7) : T (d + 1) 188 60 ls [.int a0, .ref a] h Q ↔ T d 129 0 [.ref a, .int a0] [] h (fun x h2 => T (d + 1) 188 63 ls (rl x []) h2 Q) := T_virtualR (as := [.int a0]) (r := []) m188 m129 c188_60 k8_45  rfl (by decide) rfl (by simp [wrd, Value.category]) (by simp [stk, Value.category]) rfl (by decide +kernel) ho
theorem c188_63 : cod 188 63 = some (.ireturn, 1) := cod_of b188 dX8_note_63
theorem t188_63 {d : Nat} {h : Hp} {Q : Pst} {x : Int32} {ls : List Value} : T d 188 63 ls [.int x] h Q ↔ Q (some (.int x)) h := T_iretR m188 c188_63 rfl
theorem c188_64 : cod 188 64 = some (.bipush 56, 2) := cod_of b188 dX8_note_64
theorem t188_64 {d : Nat} {h : Hp} {Q : Pst} {ls : List Value} {st : List Value} : T d 188 64 ls st h Q ↔ T d 188 66 ls (.int 56 :: st) h Q := T_bipushV c188_64 (by decide)
theorem c188_66 : cod 188 66 = some (.iconst 4, 1) := cod_of b188 dX8_note_66
theorem t188_66 {d : Nat} {h : Hp} {Q : Pst} {ls : List Value} {st : List Value} : T d 188 66 ls st h Q ↔ T d 188 67 ls (.int 4 :: st) h Q := T_iconstV c188_66 (by decide)
theorem c188_67 : cod 188 67 = some (.aload_n 0, 1) := cod_of b188 dX8_note_67
theorem t188_67 {d : Nat} {h : Hp} {Q : Pst} {l1 l2 l3 l4 l5 : Value} {x : Nat} {st : List Value} : T d 188 67 [.ref x, l1, l2, l3, l4, l5] st h Q ↔ T d 188 68 [.ref x, l1, l2, l3, l4, l5] (.ref x :: st) h Q := T_aload_n c188_67 rfl
theorem c188_68 : cod 188 68 = some (.getfield 7, 3) := cod_of b188 dX8_note_68
theorem t188_68 {d : Nat} {h : Hp} {Q : Pst} {a : Nat} {ls : List Value} {st : List Value} : T d 188 68 ls (.ref a :: st) h Q ↔ gF (h.2.2 a) 7 0 (fun v => T d 188 71 ls (v :: st) h Q) := T_getfieldR m188 c188_68 f8_7
theorem c188_71 : cod 188 71 = some (.bipush 55, 2) := cod_of b188 dX8_note_71
theorem t188_71 {d : Nat} {h : Hp} {Q : Pst} {ls : List Value} {st : List Value} : T d 188 71 ls st h Q ↔ T d 188 73 ls (.int 55 :: st) h Q := T_bipushV c188_71 (by decide)
theorem c188_73 : cod 188 73 = some (.iaload, 1) := cod_of b188 dX8_note_73
theorem t188_73 {d : Nat} {h : Hp} {Q : Pst} {a : Nat} {i : Int32} {ls : List Value} {st : List Value} : T d 188 73 ls (.int i :: .ref a :: st) h Q ↔ aL (h.2.2 a) i (fun x => T d 188 74 ls (.int x :: st) h Q) := T_iaload c188_73
theorem c188_74 : cod 188 74 = some (.imul, 1) := cod_of b188 dX8_note_74
theorem t188_74 {d : Nat} {h : Hp} {Q : Pst} {x y : Int32} {ls : List Value} {st : List Value} : T d 188 74 ls (.int y :: .int x :: st) h Q ↔ T d 188 75 ls (.int (x * y) :: st) h Q := T_imul c188_74
theorem c188_75 : cod 188 75 = some (.iadd, 1) := cod_of b188 dX8_note_75
theorem t188_75 {d : Nat} {h : Hp} {Q : Pst} {x y : Int32} {ls : List Value} {st : List Value} : T d 188 75 ls (.int y :: .int x :: st) h Q ↔ T d 188 76 ls (.int (x + y) :: st) h Q := T_iadd c188_75
theorem c188_76 : cod 188 76 = some (.istore 5, 2) := cod_of b188 dX8_note_76
theorem t188_76 {d : Nat} {h : Hp} {Q : Pst} {l0 l1 l2 l3 l4 l5 : Value} {x : Int32} {st : List Value} : T d 188 76 [l0, l1, l2, l3, l4, l5] (.int x :: st) h Q ↔ T d 188 78 [l0, l1, l2, l3, kil l4, .int x] st h Q := T_istore c188_76 (Nat.le_of_ble_eq_true rfl)
theorem c188_78 : cod 188 78 = some (.aload_n 0, 1) := cod_of b188 dX8_note_78
theorem t188_78 {d : Nat} {h : Hp} {Q : Pst} {l1 l2 l3 l4 l5 : Value} {x : Nat} {st : List Value} : T d 188 78 [.ref x, l1, l2, l3, l4, l5] st h Q ↔ T d 188 79 [.ref x, l1, l2, l3, l4, l5] (.ref x :: st) h Q := T_aload_n c188_78 rfl
theorem c188_79 : cod 188 79 = some (.getfield 7, 3) := cod_of b188 dX8_note_79
theorem t188_79 {d : Nat} {h : Hp} {Q : Pst} {a : Nat} {ls : List Value} {st : List Value} : T d 188 79 ls (.ref a :: st) h Q ↔ gF (h.2.2 a) 7 0 (fun v => T d 188 82 ls (v :: st) h Q) := T_getfieldR m188 c188_79 f8_7
theorem c188_82 : cod 188 82 = some (.iload 5, 2) := cod_of b188 dX8_note_82
theorem t188_82 {d : Nat} {h : Hp} {Q : Pst} {l0 l1 l2 l3 l4 : Value} {x : Int32} {st : List Value} : T d 188 82 [l0, l1, l2, l3, l4, .int x] st h Q ↔ T d 188 84 [l0, l1, l2, l3, l4, .int x] (.int x :: st) h Q := T_iload c188_82 rfl
theorem c188_84 : cod 188 84 = some (.iload_n 1, 1) := cod_of b188 dX8_note_84
theorem t188_84 {d : Nat} {h : Hp} {Q : Pst} {l0 l2 l3 l4 l5 : Value} {x : Int32} {st : List Value} : T d 188 84 [l0, .int x, l2, l3, l4, l5] st h Q ↔ T d 188 85 [l0, .int x, l2, l3, l4, l5] (.int x :: st) h Q := T_iload_n c188_84 rfl
theorem c188_85 : cod 188 85 = some (.iastore, 1) := cod_of b188 dX8_note_85
theorem t188_85 {d : Nat} {h : Hp} {Q : Pst} {a : Nat} {i x : Int32} {ls : List Value} {st : List Value} : T d 188 85 ls (.int x :: .int i :: .ref a :: st) h Q ↔ aS (h.2.2 a) i x (fun cell => T d 188 86 ls st (hup h a cell) Q) := T_iastore c188_85
theorem c188_86 : cod 188 86 = some (.aload_n 0, 1) := cod_of b188 dX8_note_86
theorem t188_86 {d : Nat} {h : Hp} {Q : Pst} {l1 l2 l3 l4 l5 : Value} {x : Nat} {st : List Value} : T d 188 86 [.ref x, l1, l2, l3, l4, l5] st h Q ↔ T d 188 87 [.ref x, l1, l2, l3, l4, l5] (.ref x :: st) h Q := T_aload_n c188_86 rfl
theorem c188_87 : cod 188 87 = some (.getfield 7, 3) := cod_of b188 dX8_note_87
theorem t188_87 {d : Nat} {h : Hp} {Q : Pst} {a : Nat} {ls : List Value} {st : List Value} : T d 188 87 ls (.ref a :: st) h Q ↔ gF (h.2.2 a) 7 0 (fun v => T d 188 90 ls (v :: st) h Q) := T_getfieldR m188 c188_87 f8_7
theorem c188_90 : cod 188 90 = some (.iload 5, 2) := cod_of b188 dX8_note_90
theorem t188_90 {d : Nat} {h : Hp} {Q : Pst} {l0 l1 l2 l3 l4 : Value} {x : Int32} {st : List Value} : T d 188 90 [l0, l1, l2, l3, l4, .int x] st h Q ↔ T d 188 92 [l0, l1, l2, l3, l4, .int x] (.int x :: st) h Q := T_iload c188_90 rfl
theorem c188_92 : cod 188 92 = some (.iconst 1, 1) := cod_of b188 dX8_note_92
theorem t188_92 {d : Nat} {h : Hp} {Q : Pst} {ls : List Value} {st : List Value} : T d 188 92 ls st h Q ↔ T d 188 93 ls (.int 1 :: st) h Q := T_iconstV c188_92 (by decide)
theorem c188_93 : cod 188 93 = some (.iadd, 1) := cod_of b188 dX8_note_93
theorem t188_93 {d : Nat} {h : Hp} {Q : Pst} {x y : Int32} {ls : List Value} {st : List Value} : T d 188 93 ls (.int y :: .int x :: st) h Q ↔ T d 188 94 ls (.int (x + y) :: st) h Q := T_iadd c188_93
theorem c188_94 : cod 188 94 = some (.iload_n 2, 1) := cod_of b188 dX8_note_94
theorem t188_94 {d : Nat} {h : Hp} {Q : Pst} {l0 l1 l3 l4 l5 : Value} {x : Int32} {st : List Value} : T d 188 94 [l0, l1, .int x, l3, l4, l5] st h Q ↔ T d 188 95 [l0, l1, .int x, l3, l4, l5] (.int x :: st) h Q := T_iload_n c188_94 rfl
theorem c188_95 : cod 188 95 = some (.iastore, 1) := cod_of b188 dX8_note_95
theorem t188_95 {d : Nat} {h : Hp} {Q : Pst} {a : Nat} {i x : Int32} {ls : List Value} {st : List Value} : T d 188 95 ls (.int x :: .int i :: .ref a :: st) h Q ↔ aS (h.2.2 a) i x (fun cell => T d 188 96 ls st (hup h a cell) Q) := T_iastore c188_95
theorem c188_96 : cod 188 96 = some (.aload_n 0, 1) := cod_of b188 dX8_note_96
theorem t188_96 {d : Nat} {h : Hp} {Q : Pst} {l1 l2 l3 l4 l5 : Value} {x : Nat} {st : List Value} : T d 188 96 [.ref x, l1, l2, l3, l4, l5] st h Q ↔ T d 188 97 [.ref x, l1, l2, l3, l4, l5] (.ref x :: st) h Q := T_aload_n c188_96 rfl
theorem c188_97 : cod 188 97 = some (.getfield 7, 3) := cod_of b188 dX8_note_97
theorem t188_97 {d : Nat} {h : Hp} {Q : Pst} {a : Nat} {ls : List Value} {st : List Value} : T d 188 97 ls (.ref a :: st) h Q ↔ gF (h.2.2 a) 7 0 (fun v => T d 188 100 ls (v :: st) h Q) := T_getfieldR m188 c188_97 f8_7
theorem c188_100 : cod 188 100 = some (.iload 5, 2) := cod_of b188 dX8_note_100
theorem t188_100 {d : Nat} {h : Hp} {Q : Pst} {l0 l1 l2 l3 l4 : Value} {x : Int32} {st : List Value} : T d 188 100 [l0, l1, l2, l3, l4, .int x] st h Q ↔ T d 188 102 [l0, l1, l2, l3, l4, .int x] (.int x :: st) h Q := T_iload c188_100 rfl
theorem c188_102 : cod 188 102 = some (.iconst 2, 1) := cod_of b188 dX8_note_102
theorem t188_102 {d : Nat} {h : Hp} {Q : Pst} {ls : List Value} {st : List Value} : T d 188 102 ls st h Q ↔ T d 188 103 ls (.int 2 :: st) h Q := T_iconstV c188_102 (by decide)
theorem c188_103 : cod 188 103 = some (.iadd, 1) := cod_of b188 dX8_note_103
theorem t188_103 {d : Nat} {h : Hp} {Q : Pst} {x y : Int32} {ls : List Value} {st : List Value} : T d 188 103 ls (.int y :: .int x :: st) h Q ↔ T d 188 104 ls (.int (x + y) :: st) h Q := T_iadd c188_103
theorem c188_104 : cod 188 104 = some (.iload_n 3, 1) := cod_of b188 dX8_note_104
theorem t188_104 {d : Nat} {h : Hp} {Q : Pst} {l0 l1 l2 l4 l5 : Value} {x : Int32} {st : List Value} : T d 188 104 [l0, l1, l2, .int x, l4, l5] st h Q ↔ T d 188 105 [l0, l1, l2, .int x, l4, l5] (.int x :: st) h Q := T_iload_n c188_104 rfl
theorem c188_105 : cod 188 105 = some (.iastore, 1) := cod_of b188 dX8_note_105
theorem t188_105 {d : Nat} {h : Hp} {Q : Pst} {a : Nat} {i x : Int32} {ls : List Value} {st : List Value} : T d 188 105 ls (.int x :: .int i :: .ref a :: st) h Q ↔ aS (h.2.2 a) i x (fun cell => T d 188 106 ls st (hup h a cell) Q) := T_iastore c188_105
theorem c188_106 : cod 188 106 = some (.aload_n 0, 1) := cod_of b188 dX8_note_106
theorem t188_106 {d : Nat} {h : Hp} {Q : Pst} {l1 l2 l3 l4 l5 : Value} {x : Nat} {st : List Value} : T d 188 106 [.ref x, l1, l2, l3, l4, l5] st h Q ↔ T d 188 107 [.ref x, l1, l2, l3, l4, l5] (.ref x :: st) h Q := T_aload_n c188_106 rfl
theorem c188_107 : cod 188 107 = some (.getfield 7, 3) := cod_of b188 dX8_note_107
theorem t188_107 {d : Nat} {h : Hp} {Q : Pst} {a : Nat} {ls : List Value} {st : List Value} : T d 188 107 ls (.ref a :: st) h Q ↔ gF (h.2.2 a) 7 0 (fun v => T d 188 110 ls (v :: st) h Q) := T_getfieldR m188 c188_107 f8_7
theorem c188_110 : cod 188 110 = some (.iload 5, 2) := cod_of b188 dX8_note_110
theorem t188_110 {d : Nat} {h : Hp} {Q : Pst} {l0 l1 l2 l3 l4 : Value} {x : Int32} {st : List Value} : T d 188 110 [l0, l1, l2, l3, l4, .int x] st h Q ↔ T d 188 112 [l0, l1, l2, l3, l4, .int x] (.int x :: st) h Q := T_iload c188_110 rfl
theorem c188_112 : cod 188 112 = some (.iconst 3, 1) := cod_of b188 dX8_note_112
theorem t188_112 {d : Nat} {h : Hp} {Q : Pst} {ls : List Value} {st : List Value} : T d 188 112 ls st h Q ↔ T d 188 113 ls (.int 3 :: st) h Q := T_iconstV c188_112 (by decide)
theorem c188_113 : cod 188 113 = some (.iadd, 1) := cod_of b188 dX8_note_113
theorem t188_113 {d : Nat} {h : Hp} {Q : Pst} {x y : Int32} {ls : List Value} {st : List Value} : T d 188 113 ls (.int y :: .int x :: st) h Q ↔ T d 188 114 ls (.int (x + y) :: st) h Q := T_iadd c188_113
theorem c188_114 : cod 188 114 = some (.iload 4, 2) := cod_of b188 dX8_note_114
theorem t188_114 {d : Nat} {h : Hp} {Q : Pst} {l0 l1 l2 l3 l5 : Value} {x : Int32} {st : List Value} : T d 188 114 [l0, l1, l2, l3, .int x, l5] st h Q ↔ T d 188 116 [l0, l1, l2, l3, .int x, l5] (.int x :: st) h Q := T_iload c188_114 rfl
theorem c188_116 : cod 188 116 = some (.iastore, 1) := cod_of b188 dX8_note_116
theorem t188_116 {d : Nat} {h : Hp} {Q : Pst} {a : Nat} {i x : Int32} {ls : List Value} {st : List Value} : T d 188 116 ls (.int x :: .int i :: .ref a :: st) h Q ↔ aS (h.2.2 a) i x (fun cell => T d 188 117 ls st (hup h a cell) Q) := T_iastore c188_116
theorem c188_117 : cod 188 117 = some (.aload_n 0, 1) := cod_of b188 dX8_note_117
theorem t188_117 {d : Nat} {h : Hp} {Q : Pst} {l1 l2 l3 l4 l5 : Value} {x : Nat} {st : List Value} : T d 188 117 [.ref x, l1, l2, l3, l4, l5] st h Q ↔ T d 188 118 [.ref x, l1, l2, l3, l4, l5] (.ref x :: st) h Q := T_aload_n c188_117 rfl
theorem c188_118 : cod 188 118 = some (.getfield 7, 3) := cod_of b188 dX8_note_118
theorem t188_118 {d : Nat} {h : Hp} {Q : Pst} {a : Nat} {ls : List Value} {st : List Value} : T d 188 118 ls (.ref a :: st) h Q ↔ gF (h.2.2 a) 7 0 (fun v => T d 188 121 ls (v :: st) h Q) := T_getfieldR m188 c188_118 f8_7
theorem c188_121 : cod 188 121 = some (.bipush 55, 2) := cod_of b188 dX8_note_121
theorem t188_121 {d : Nat} {h : Hp} {Q : Pst} {ls : List Value} {st : List Value} : T d 188 121 ls st h Q ↔ T d 188 123 ls (.int 55 :: st) h Q := T_bipushV c188_121 (by decide)
theorem c188_123 : cod 188 123 = some (.dup2, 1) := cod_of b188 dX8_note_123
theorem t188_123 {d : Nat} {h : Hp} {Q : Pst} {x : Int32} {y : Nat} {ls : List Value} {st : List Value} : T d 188 123 ls (.int x :: .ref y :: st) h Q ↔ T d 188 124 ls (.int x :: .ref y :: .int x :: .ref y :: st) h Q := T_dup2 c188_123 rfl rfl
theorem c188_124 : cod 188 124 = some (.iaload, 1) := cod_of b188 dX8_note_124
theorem t188_124 {d : Nat} {h : Hp} {Q : Pst} {a : Nat} {i : Int32} {ls : List Value} {st : List Value} : T d 188 124 ls (.int i :: .ref a :: st) h Q ↔ aL (h.2.2 a) i (fun x => T d 188 125 ls (.int x :: st) h Q) := T_iaload c188_124
theorem c188_125 : cod 188 125 = some (.iconst 1, 1) := cod_of b188 dX8_note_125
theorem t188_125 {d : Nat} {h : Hp} {Q : Pst} {ls : List Value} {st : List Value} : T d 188 125 ls st h Q ↔ T d 188 126 ls (.int 1 :: st) h Q := T_iconstV c188_125 (by decide)
theorem c188_126 : cod 188 126 = some (.iadd, 1) := cod_of b188 dX8_note_126
theorem t188_126 {d : Nat} {h : Hp} {Q : Pst} {x y : Int32} {ls : List Value} {st : List Value} : T d 188 126 ls (.int y :: .int x :: st) h Q ↔ T d 188 127 ls (.int (x + y) :: st) h Q := T_iadd c188_126
theorem c188_127 : cod 188 127 = some (.iastore, 1) := cod_of b188 dX8_note_127
theorem t188_127 {d : Nat} {h : Hp} {Q : Pst} {a : Nat} {i x : Int32} {ls : List Value} {st : List Value} : T d 188 127 ls (.int x :: .int i :: .ref a :: st) h Q ↔ aS (h.2.2 a) i x (fun cell => T d 188 128 ls st (hup h a cell) Q) := T_iastore c188_127
theorem c188_128 : cod 188 128 = some (.aload_n 0, 1) := cod_of b188 dX8_note_128
theorem t188_128 {d : Nat} {h : Hp} {Q : Pst} {l1 l2 l3 l4 l5 : Value} {x : Nat} {st : List Value} : T d 188 128 [.ref x, l1, l2, l3, l4, l5] st h Q ↔ T d 188 129 [.ref x, l1, l2, l3, l4, l5] (.ref x :: st) h Q := T_aload_n c188_128 rfl
theorem c188_129 : cod 188 129 = some (.getfield 7, 3) := cod_of b188 dX8_note_129
theorem t188_129 {d : Nat} {h : Hp} {Q : Pst} {a : Nat} {ls : List Value} {st : List Value} : T d 188 129 ls (.ref a :: st) h Q ↔ gF (h.2.2 a) 7 0 (fun v => T d 188 132 ls (v :: st) h Q) := T_getfieldR m188 c188_129 f8_7
theorem c188_132 : cod 188 132 = some (.bipush 55, 2) := cod_of b188 dX8_note_132
theorem t188_132 {d : Nat} {h : Hp} {Q : Pst} {ls : List Value} {st : List Value} : T d 188 132 ls st h Q ↔ T d 188 134 ls (.int 55 :: st) h Q := T_bipushV c188_132 (by decide)
theorem c188_134 : cod 188 134 = some (.iaload, 1) := cod_of b188 dX8_note_134
theorem t188_134 {d : Nat} {h : Hp} {Q : Pst} {a : Nat} {i : Int32} {ls : List Value} {st : List Value} : T d 188 134 ls (.int i :: .ref a :: st) h Q ↔ aL (h.2.2 a) i (fun x => T d 188 135 ls (.int x :: st) h Q) := T_iaload c188_134
theorem c188_135 : cod 188 135 = some (.ireturn, 1) := cod_of b188 dX8_note_135
theorem t188_135 {d : Nat} {h : Hp} {Q : Pst} {x : Int32} {ls : List Value} : T d 188 135 ls [.int x] h Q ↔ Q (some (.int x)) h := T_iretR m188 c188_135 rfl
theorem c188_38 : cod 188 38 = some (.aload_n 0, 1) := cod_of b188 dX8_note_38
theorem t188_38 {d : Nat} {h : Hp} {Q : Pst} {l1 l2 l3 l4 l5 : Value} {x : Nat} {st : List Value} : T d 188 38 [.ref x, l1, l2, l3, l4, l5] st h Q ↔ T d 188 39 [.ref x, l1, l2, l3, l4, l5] (.ref x :: st) h Q := T_aload_n c188_38 rfl
theorem c188_39 : cod 188 39 = some (.bipush (-2), 2) := cod_of b188 dX8_note_39
theorem t188_39 {d : Nat} {h : Hp} {Q : Pst} {ls : List Value} {st : List Value} : T d 188 39 ls st h Q ↔ T d 188 41 ls (.int (-2) :: st) h Q := T_bipushV c188_39 (by decide)
theorem c188_41 : cod 188 41 = some (.invokevirtual 45, 3) := cod_of b188 dX8_note_41
theorem t188_41 {d : Nat} {h : Hp} {Q : Pst} {a0 : Int32} {a : Nat} {ls : List Value} (ho : isO (h.2.2 a) 7) : T (d + 1) 188 41 ls [.int a0, .ref a] h Q ↔ T d 129 0 [.ref a, .int a0] [] h (fun x h2 => T (d + 1) 188 44 ls (rl x []) h2 Q) := T_virtualR (as := [.int a0]) (r := []) m188 m129 c188_41 k8_45  rfl (by decide) rfl (by simp [wrd, Value.category]) (by simp [stk, Value.category]) rfl (by decide +kernel) ho
theorem c188_44 : cod 188 44 = some (.ireturn, 1) := cod_of b188 dX8_note_44
theorem t188_44 {d : Nat} {h : Hp} {Q : Pst} {x : Int32} {ls : List Value} : T d 188 44 ls [.int x] h Q ↔ Q (some (.int x)) h := T_iretR m188 c188_44 rfl
theorem b189 : (mR 189).2.2.1 = cX8_mark := by rw [m189]
theorem c189_0 : cod 189 0 = some (.aload_n 0, 1) := cod_of b189 dX8_mark_0
theorem t189_0 {d : Nat} {h : Hp} {Q : Pst} {l1 l2 l3 l4 l5 l6 : Value} {x : Nat} {st : List Value} : T d 189 0 [.ref x, l1, l2, l3, l4, l5, l6] st h Q ↔ T d 189 1 [.ref x, l1, l2, l3, l4, l5, l6] (.ref x :: st) h Q := T_aload_n c189_0 rfl
theorem c189_1 : cod 189 1 = some (.iload_n 1, 1) := cod_of b189 dX8_mark_1
theorem t189_1 {d : Nat} {h : Hp} {Q : Pst} {l0 l2 l3 l4 l5 l6 : Value} {x : Int32} {st : List Value} : T d 189 1 [l0, .int x, l2, l3, l4, l5, l6] st h Q ↔ T d 189 2 [l0, .int x, l2, l3, l4, l5, l6] (.int x :: st) h Q := T_iload_n c189_1 rfl
theorem c189_2 : cod 189 2 = some (.invokevirtual 160, 3) := cod_of b189 dX8_mark_2
theorem t189_2 {d : Nat} {h : Hp} {Q : Pst} {a0 : Int32} {a : Nat} {ls : List Value} (ho : isO (h.2.2 a) 7) : T (d + 1) 189 2 ls [.int a0, .ref a] h Q ↔ T d 164 0 [.ref a, .int a0] [] h (fun x h2 => T (d + 1) 189 5 ls (rl x []) h2 Q) := T_virtualR (as := [.int a0]) (r := []) m189 m164 c189_2 k8_160  rfl (by decide) rfl (by simp [wrd, Value.category]) (by simp [stk, Value.category]) rfl (by decide +kernel) ho
theorem c189_5 : cod 189 5 = some (.ifCond .eq 43, 3) := cod_of b189 dX8_mark_5
theorem t189_5 {d : Nat} {h : Hp} {Q : Pst} {x : Int32} {ls : List Value} {st : List Value} : T d 189 5 ls (.int x :: st) h Q ↔ (if x = 0 then T d 189 48 ls st h Q else T d 189 8 ls st h Q) := T_if_eq c189_5 (by decide)
theorem c189_8 : cod 189 8 = some (.iload_n 2, 1) := cod_of b189 dX8_mark_8
theorem t189_8 {d : Nat} {h : Hp} {Q : Pst} {l0 l1 l3 l4 l5 l6 : Value} {x : Int32} {st : List Value} : T d 189 8 [l0, l1, .int x, l3, l4, l5, l6] st h Q ↔ T d 189 9 [l0, l1, .int x, l3, l4, l5, l6] (.int x :: st) h Q := T_iload_n c189_8 rfl
theorem c189_9 : cod 189 9 = some (.iconst 1, 1) := cod_of b189 dX8_mark_9
theorem t189_9 {d : Nat} {h : Hp} {Q : Pst} {ls : List Value} {st : List Value} : T d 189 9 ls st h Q ↔ T d 189 10 ls (.int 1 :: st) h Q := T_iconstV c189_9 (by decide)
theorem c189_10 : cod 189 10 = some (.bipush 30, 2) := cod_of b189 dX8_mark_10
theorem t189_10 {d : Nat} {h : Hp} {Q : Pst} {ls : List Value} {st : List Value} : T d 189 10 ls st h Q ↔ T d 189 12 ls (.int 30 :: st) h Q := T_bipushV c189_10 (by decide)
theorem c189_12 : cod 189 12 = some (.invokestatic 49, 3) := cod_of b189 dX8_mark_12
theorem t189_12 {d : Nat} {h : Hp} {Q : Pst} {a0 a1 a2 : Int32} {ls : List Value} : T (d + 1) 189 12 ls [.int a2, .int a1, .int a0] h Q ↔ T d 126 0 [.int a0, .int a1, .int a2] [] h (fun x h2 => T (d + 1) 189 15 ls (rl x []) h2 Q) := T_staticR (as := [.int a0, .int a1, .int a2]) (r := []) m189 m126 c189_12 k8_49 (Or.inl rfl) rfl (by decide) rfl (by simp [wrd, Value.category]) (by simp [stk, Value.category]) rfl
theorem c189_15 : cod 189 15 = some (.ifCond .eq 33, 3) := cod_of b189 dX8_mark_15
theorem t189_15 {d : Nat} {h : Hp} {Q : Pst} {x : Int32} {ls : List Value} {st : List Value} : T d 189 15 ls (.int x :: st) h Q ↔ (if x = 0 then T d 189 48 ls st h Q else T d 189 18 ls st h Q) := T_if_eq c189_15 (by decide)
theorem c189_18 : cod 189 18 = some (.iload_n 3, 1) := cod_of b189 dX8_mark_18
theorem t189_18 {d : Nat} {h : Hp} {Q : Pst} {l0 l1 l2 l4 l5 l6 : Value} {x : Int32} {st : List Value} : T d 189 18 [l0, l1, l2, .int x, l4, l5, l6] st h Q ↔ T d 189 19 [l0, l1, l2, .int x, l4, l5, l6] (.int x :: st) h Q := T_iload_n c189_18 rfl
theorem c189_19 : cod 189 19 = some (.iconst 0, 1) := cod_of b189 dX8_mark_19
theorem t189_19 {d : Nat} {h : Hp} {Q : Pst} {ls : List Value} {st : List Value} : T d 189 19 ls st h Q ↔ T d 189 20 ls (.int 0 :: st) h Q := T_iconstV c189_19 (by decide)
theorem c189_20 : cod 189 20 = some (.iconst 4, 1) := cod_of b189 dX8_mark_20
theorem t189_20 {d : Nat} {h : Hp} {Q : Pst} {ls : List Value} {st : List Value} : T d 189 20 ls st h Q ↔ T d 189 21 ls (.int 4 :: st) h Q := T_iconstV c189_20 (by decide)
theorem c189_21 : cod 189 21 = some (.invokestatic 49, 3) := cod_of b189 dX8_mark_21
theorem t189_21 {d : Nat} {h : Hp} {Q : Pst} {a0 a1 a2 : Int32} {ls : List Value} : T (d + 1) 189 21 ls [.int a2, .int a1, .int a0] h Q ↔ T d 126 0 [.int a0, .int a1, .int a2] [] h (fun x h2 => T (d + 1) 189 24 ls (rl x []) h2 Q) := T_staticR (as := [.int a0, .int a1, .int a2]) (r := []) m189 m126 c189_21 k8_49 (Or.inl rfl) rfl (by decide) rfl (by simp [wrd, Value.category]) (by simp [stk, Value.category]) rfl
theorem c189_24 : cod 189 24 = some (.ifCond .eq 24, 3) := cod_of b189 dX8_mark_24
theorem t189_24 {d : Nat} {h : Hp} {Q : Pst} {x : Int32} {ls : List Value} {st : List Value} : T d 189 24 ls (.int x :: st) h Q ↔ (if x = 0 then T d 189 48 ls st h Q else T d 189 27 ls st h Q) := T_if_eq c189_24 (by decide)
theorem c189_27 : cod 189 27 = some (.iload 4, 2) := cod_of b189 dX8_mark_27
theorem t189_27 {d : Nat} {h : Hp} {Q : Pst} {l0 l1 l2 l3 l5 l6 : Value} {x : Int32} {st : List Value} : T d 189 27 [l0, l1, l2, l3, .int x, l5, l6] st h Q ↔ T d 189 29 [l0, l1, l2, l3, .int x, l5, l6] (.int x :: st) h Q := T_iload c189_27 rfl
theorem c189_29 : cod 189 29 = some (.iconst 0, 1) := cod_of b189 dX8_mark_29
theorem t189_29 {d : Nat} {h : Hp} {Q : Pst} {ls : List Value} {st : List Value} : T d 189 29 ls st h Q ↔ T d 189 30 ls (.int 0 :: st) h Q := T_iconstV c189_29 (by decide)
theorem c189_30 : cod 189 30 = some (.bipush 60, 2) := cod_of b189 dX8_mark_30
theorem t189_30 {d : Nat} {h : Hp} {Q : Pst} {ls : List Value} {st : List Value} : T d 189 30 ls st h Q ↔ T d 189 32 ls (.int 60 :: st) h Q := T_bipushV c189_30 (by decide)
theorem c189_32 : cod 189 32 = some (.invokestatic 49, 3) := cod_of b189 dX8_mark_32
theorem t189_32 {d : Nat} {h : Hp} {Q : Pst} {a0 a1 a2 : Int32} {ls : List Value} : T (d + 1) 189 32 ls [.int a2, .int a1, .int a0] h Q ↔ T d 126 0 [.int a0, .int a1, .int a2] [] h (fun x h2 => T (d + 1) 189 35 ls (rl x []) h2 Q) := T_staticR (as := [.int a0, .int a1, .int a2]) (r := []) m189 m126 c189_32 k8_49 (Or.inl rfl) rfl (by decide) rfl (by simp [wrd, Value.category]) (by simp [stk, Value.category]) rfl
theorem c189_35 : cod 189 35 = some (.ifCond .eq 13, 3) := cod_of b189 dX8_mark_35
theorem t189_35 {d : Nat} {h : Hp} {Q : Pst} {x : Int32} {ls : List Value} {st : List Value} : T d 189 35 ls (.int x :: st) h Q ↔ (if x = 0 then T d 189 48 ls st h Q else T d 189 38 ls st h Q) := T_if_eq c189_35 (by decide)
theorem c189_38 : cod 189 38 = some (.iload 5, 2) := cod_of b189 dX8_mark_38
theorem t189_38 {d : Nat} {h : Hp} {Q : Pst} {l0 l1 l2 l3 l4 l6 : Value} {x : Int32} {st : List Value} : T d 189 38 [l0, l1, l2, l3, l4, .int x, l6] st h Q ↔ T d 189 40 [l0, l1, l2, l3, l4, .int x, l6] (.int x :: st) h Q := T_iload c189_38 rfl
theorem c189_40 : cod 189 40 = some (.iconst 0, 1) := cod_of b189 dX8_mark_40
theorem t189_40 {d : Nat} {h : Hp} {Q : Pst} {ls : List Value} {st : List Value} : T d 189 40 ls st h Q ↔ T d 189 41 ls (.int 0 :: st) h Q := T_iconstV c189_40 (by decide)
theorem c189_41 : cod 189 41 = some (.iconst 1, 1) := cod_of b189 dX8_mark_41
theorem t189_41 {d : Nat} {h : Hp} {Q : Pst} {ls : List Value} {st : List Value} : T d 189 41 ls st h Q ↔ T d 189 42 ls (.int 1 :: st) h Q := T_iconstV c189_41 (by decide)
theorem c189_42 : cod 189 42 = some (.invokestatic 49, 3) := cod_of b189 dX8_mark_42
theorem t189_42 {d : Nat} {h : Hp} {Q : Pst} {a0 a1 a2 : Int32} {ls : List Value} : T (d + 1) 189 42 ls [.int a2, .int a1, .int a0] h Q ↔ T d 126 0 [.int a0, .int a1, .int a2] [] h (fun x h2 => T (d + 1) 189 45 ls (rl x []) h2 Q) := T_staticR (as := [.int a0, .int a1, .int a2]) (r := []) m189 m126 c189_42 k8_49 (Or.inl rfl) rfl (by decide) rfl (by simp [wrd, Value.category]) (by simp [stk, Value.category]) rfl
theorem c189_45 : cod 189 45 = some (.ifCond .ne 10, 3) := cod_of b189 dX8_mark_45
theorem t189_45 {d : Nat} {h : Hp} {Q : Pst} {x : Int32} {ls : List Value} {st : List Value} : T d 189 45 ls (.int x :: st) h Q ↔ (if ¬ x = 0 then T d 189 55 ls st h Q else T d 189 48 ls st h Q) := T_if_ne c189_45 (by decide)
theorem c189_55 : cod 189 55 = some (.aload_n 0, 1) := cod_of b189 dX8_mark_55
theorem t189_55 {d : Nat} {h : Hp} {Q : Pst} {l1 l2 l3 l4 l5 l6 : Value} {x : Nat} {st : List Value} : T d 189 55 [.ref x, l1, l2, l3, l4, l5, l6] st h Q ↔ T d 189 56 [.ref x, l1, l2, l3, l4, l5, l6] (.ref x :: st) h Q := T_aload_n c189_55 rfl
theorem c189_56 : cod 189 56 = some (.getfield 7, 3) := cod_of b189 dX8_mark_56
theorem t189_56 {d : Nat} {h : Hp} {Q : Pst} {a : Nat} {ls : List Value} {st : List Value} : T d 189 56 ls (.ref a :: st) h Q ↔ gF (h.2.2 a) 7 0 (fun v => T d 189 59 ls (v :: st) h Q) := T_getfieldR m189 c189_56 f8_7
theorem c189_59 : cod 189 59 = some (.bipush 80, 2) := cod_of b189 dX8_mark_59
theorem t189_59 {d : Nat} {h : Hp} {Q : Pst} {ls : List Value} {st : List Value} : T d 189 59 ls st h Q ↔ T d 189 61 ls (.int 80 :: st) h Q := T_bipushV c189_59 (by decide)
theorem c189_61 : cod 189 61 = some (.iaload, 1) := cod_of b189 dX8_mark_61
theorem t189_61 {d : Nat} {h : Hp} {Q : Pst} {a : Nat} {i : Int32} {ls : List Value} {st : List Value} : T d 189 61 ls (.int i :: .ref a :: st) h Q ↔ aL (h.2.2 a) i (fun x => T d 189 62 ls (.int x :: st) h Q) := T_iaload c189_61
theorem c189_62 : cod 189 62 = some (.bipush 6, 2) := cod_of b189 dX8_mark_62
theorem t189_62 {d : Nat} {h : Hp} {Q : Pst} {ls : List Value} {st : List Value} : T d 189 62 ls st h Q ↔ T d 189 64 ls (.int 6 :: st) h Q := T_bipushV c189_62 (by decide)
theorem c189_64 : cod 189 64 = some (.if_icmp .ne 10, 3) := cod_of b189 dX8_mark_64
theorem t189_64 {d : Nat} {h : Hp} {Q : Pst} {x y : Int32} {ls : List Value} {st : List Value} : T d 189 64 ls (.int y :: .int x :: st) h Q ↔ (if ¬ x = y then T d 189 74 ls st h Q else T d 189 67 ls st h Q) := T_icmp_ne c189_64 (by decide)
theorem c189_67 : cod 189 67 = some (.aload_n 0, 1) := cod_of b189 dX8_mark_67
theorem t189_67 {d : Nat} {h : Hp} {Q : Pst} {l1 l2 l3 l4 l5 l6 : Value} {x : Nat} {st : List Value} : T d 189 67 [.ref x, l1, l2, l3, l4, l5, l6] st h Q ↔ T d 189 68 [.ref x, l1, l2, l3, l4, l5, l6] (.ref x :: st) h Q := T_aload_n c189_67 rfl
theorem c189_68 : cod 189 68 = some (.bipush (-4), 2) := cod_of b189 dX8_mark_68
theorem t189_68 {d : Nat} {h : Hp} {Q : Pst} {ls : List Value} {st : List Value} : T d 189 68 ls st h Q ↔ T d 189 70 ls (.int (-4) :: st) h Q := T_bipushV c189_68 (by decide)
theorem c189_70 : cod 189 70 = some (.invokevirtual 45, 3) := cod_of b189 dX8_mark_70
theorem t189_70 {d : Nat} {h : Hp} {Q : Pst} {a0 : Int32} {a : Nat} {ls : List Value} (ho : isO (h.2.2 a) 7) : T (d + 1) 189 70 ls [.int a0, .ref a] h Q ↔ T d 129 0 [.ref a, .int a0] [] h (fun x h2 => T (d + 1) 189 73 ls (rl x []) h2 Q) := T_virtualR (as := [.int a0]) (r := []) m189 m129 c189_70 k8_45  rfl (by decide) rfl (by simp [wrd, Value.category]) (by simp [stk, Value.category]) rfl (by decide +kernel) ho
theorem c189_73 : cod 189 73 = some (.ireturn, 1) := cod_of b189 dX8_mark_73
theorem t189_73 {d : Nat} {h : Hp} {Q : Pst} {x : Int32} {ls : List Value} : T d 189 73 ls [.int x] h Q ↔ Q (some (.int x)) h := T_iretR m189 c189_73 rfl
theorem c189_74 : cod 189 74 = some (.bipush 81, 2) := cod_of b189 dX8_mark_74
theorem t189_74 {d : Nat} {h : Hp} {Q : Pst} {ls : List Value} {st : List Value} : T d 189 74 ls st h Q ↔ T d 189 76 ls (.int 81 :: st) h Q := T_bipushV c189_74 (by decide)
theorem c189_76 : cod 189 76 = some (.iconst 5, 1) := cod_of b189 dX8_mark_76
theorem t189_76 {d : Nat} {h : Hp} {Q : Pst} {ls : List Value} {st : List Value} : T d 189 76 ls st h Q ↔ T d 189 77 ls (.int 5 :: st) h Q := T_iconstV c189_76 (by decide)
theorem c189_77 : cod 189 77 = some (.aload_n 0, 1) := cod_of b189 dX8_mark_77
theorem t189_77 {d : Nat} {h : Hp} {Q : Pst} {l1 l2 l3 l4 l5 l6 : Value} {x : Nat} {st : List Value} : T d 189 77 [.ref x, l1, l2, l3, l4, l5, l6] st h Q ↔ T d 189 78 [.ref x, l1, l2, l3, l4, l5, l6] (.ref x :: st) h Q := T_aload_n c189_77 rfl
theorem c189_78 : cod 189 78 = some (.getfield 7, 3) := cod_of b189 dX8_mark_78
theorem t189_78 {d : Nat} {h : Hp} {Q : Pst} {a : Nat} {ls : List Value} {st : List Value} : T d 189 78 ls (.ref a :: st) h Q ↔ gF (h.2.2 a) 7 0 (fun v => T d 189 81 ls (v :: st) h Q) := T_getfieldR m189 c189_78 f8_7
theorem c189_81 : cod 189 81 = some (.bipush 80, 2) := cod_of b189 dX8_mark_81
theorem t189_81 {d : Nat} {h : Hp} {Q : Pst} {ls : List Value} {st : List Value} : T d 189 81 ls st h Q ↔ T d 189 83 ls (.int 80 :: st) h Q := T_bipushV c189_81 (by decide)
theorem c189_83 : cod 189 83 = some (.iaload, 1) := cod_of b189 dX8_mark_83
theorem t189_83 {d : Nat} {h : Hp} {Q : Pst} {a : Nat} {i : Int32} {ls : List Value} {st : List Value} : T d 189 83 ls (.int i :: .ref a :: st) h Q ↔ aL (h.2.2 a) i (fun x => T d 189 84 ls (.int x :: st) h Q) := T_iaload c189_83
theorem c189_84 : cod 189 84 = some (.imul, 1) := cod_of b189 dX8_mark_84
theorem t189_84 {d : Nat} {h : Hp} {Q : Pst} {x y : Int32} {ls : List Value} {st : List Value} : T d 189 84 ls (.int y :: .int x :: st) h Q ↔ T d 189 85 ls (.int (x * y) :: st) h Q := T_imul c189_84
theorem c189_85 : cod 189 85 = some (.iadd, 1) := cod_of b189 dX8_mark_85
theorem t189_85 {d : Nat} {h : Hp} {Q : Pst} {x y : Int32} {ls : List Value} {st : List Value} : T d 189 85 ls (.int y :: .int x :: st) h Q ↔ T d 189 86 ls (.int (x + y) :: st) h Q := T_iadd c189_85
theorem c189_86 : cod 189 86 = some (.istore 6, 2) := cod_of b189 dX8_mark_86
theorem t189_86 {d : Nat} {h : Hp} {Q : Pst} {l0 l1 l2 l3 l4 l5 l6 : Value} {x : Int32} {st : List Value} : T d 189 86 [l0, l1, l2, l3, l4, l5, l6] (.int x :: st) h Q ↔ T d 189 88 [l0, l1, l2, l3, l4, kil l5, .int x] st h Q := T_istore c189_86 (Nat.le_of_ble_eq_true rfl)
theorem c189_88 : cod 189 88 = some (.aload_n 0, 1) := cod_of b189 dX8_mark_88
theorem t189_88 {d : Nat} {h : Hp} {Q : Pst} {l1 l2 l3 l4 l5 l6 : Value} {x : Nat} {st : List Value} : T d 189 88 [.ref x, l1, l2, l3, l4, l5, l6] st h Q ↔ T d 189 89 [.ref x, l1, l2, l3, l4, l5, l6] (.ref x :: st) h Q := T_aload_n c189_88 rfl
theorem c189_89 : cod 189 89 = some (.getfield 7, 3) := cod_of b189 dX8_mark_89
theorem t189_89 {d : Nat} {h : Hp} {Q : Pst} {a : Nat} {ls : List Value} {st : List Value} : T d 189 89 ls (.ref a :: st) h Q ↔ gF (h.2.2 a) 7 0 (fun v => T d 189 92 ls (v :: st) h Q) := T_getfieldR m189 c189_89 f8_7
theorem c189_92 : cod 189 92 = some (.iload 6, 2) := cod_of b189 dX8_mark_92
theorem t189_92 {d : Nat} {h : Hp} {Q : Pst} {l0 l1 l2 l3 l4 l5 : Value} {x : Int32} {st : List Value} : T d 189 92 [l0, l1, l2, l3, l4, l5, .int x] st h Q ↔ T d 189 94 [l0, l1, l2, l3, l4, l5, .int x] (.int x :: st) h Q := T_iload c189_92 rfl
theorem c189_94 : cod 189 94 = some (.iload_n 1, 1) := cod_of b189 dX8_mark_94
theorem t189_94 {d : Nat} {h : Hp} {Q : Pst} {l0 l2 l3 l4 l5 l6 : Value} {x : Int32} {st : List Value} : T d 189 94 [l0, .int x, l2, l3, l4, l5, l6] st h Q ↔ T d 189 95 [l0, .int x, l2, l3, l4, l5, l6] (.int x :: st) h Q := T_iload_n c189_94 rfl
theorem c189_95 : cod 189 95 = some (.iastore, 1) := cod_of b189 dX8_mark_95
theorem t189_95 {d : Nat} {h : Hp} {Q : Pst} {a : Nat} {i x : Int32} {ls : List Value} {st : List Value} : T d 189 95 ls (.int x :: .int i :: .ref a :: st) h Q ↔ aS (h.2.2 a) i x (fun cell => T d 189 96 ls st (hup h a cell) Q) := T_iastore c189_95
theorem c189_96 : cod 189 96 = some (.aload_n 0, 1) := cod_of b189 dX8_mark_96
theorem t189_96 {d : Nat} {h : Hp} {Q : Pst} {l1 l2 l3 l4 l5 l6 : Value} {x : Nat} {st : List Value} : T d 189 96 [.ref x, l1, l2, l3, l4, l5, l6] st h Q ↔ T d 189 97 [.ref x, l1, l2, l3, l4, l5, l6] (.ref x :: st) h Q := T_aload_n c189_96 rfl
theorem c189_97 : cod 189 97 = some (.getfield 7, 3) := cod_of b189 dX8_mark_97
theorem t189_97 {d : Nat} {h : Hp} {Q : Pst} {a : Nat} {ls : List Value} {st : List Value} : T d 189 97 ls (.ref a :: st) h Q ↔ gF (h.2.2 a) 7 0 (fun v => T d 189 100 ls (v :: st) h Q) := T_getfieldR m189 c189_97 f8_7
theorem c189_100 : cod 189 100 = some (.iload 6, 2) := cod_of b189 dX8_mark_100
theorem t189_100 {d : Nat} {h : Hp} {Q : Pst} {l0 l1 l2 l3 l4 l5 : Value} {x : Int32} {st : List Value} : T d 189 100 [l0, l1, l2, l3, l4, l5, .int x] st h Q ↔ T d 189 102 [l0, l1, l2, l3, l4, l5, .int x] (.int x :: st) h Q := T_iload c189_100 rfl
theorem c189_102 : cod 189 102 = some (.iconst 1, 1) := cod_of b189 dX8_mark_102
theorem t189_102 {d : Nat} {h : Hp} {Q : Pst} {ls : List Value} {st : List Value} : T d 189 102 ls st h Q ↔ T d 189 103 ls (.int 1 :: st) h Q := T_iconstV c189_102 (by decide)
theorem c189_103 : cod 189 103 = some (.iadd, 1) := cod_of b189 dX8_mark_103
theorem t189_103 {d : Nat} {h : Hp} {Q : Pst} {x y : Int32} {ls : List Value} {st : List Value} : T d 189 103 ls (.int y :: .int x :: st) h Q ↔ T d 189 104 ls (.int (x + y) :: st) h Q := T_iadd c189_103
theorem c189_104 : cod 189 104 = some (.iload_n 2, 1) := cod_of b189 dX8_mark_104
theorem t189_104 {d : Nat} {h : Hp} {Q : Pst} {l0 l1 l3 l4 l5 l6 : Value} {x : Int32} {st : List Value} : T d 189 104 [l0, l1, .int x, l3, l4, l5, l6] st h Q ↔ T d 189 105 [l0, l1, .int x, l3, l4, l5, l6] (.int x :: st) h Q := T_iload_n c189_104 rfl
theorem c189_105 : cod 189 105 = some (.iastore, 1) := cod_of b189 dX8_mark_105
theorem t189_105 {d : Nat} {h : Hp} {Q : Pst} {a : Nat} {i x : Int32} {ls : List Value} {st : List Value} : T d 189 105 ls (.int x :: .int i :: .ref a :: st) h Q ↔ aS (h.2.2 a) i x (fun cell => T d 189 106 ls st (hup h a cell) Q) := T_iastore c189_105
theorem c189_106 : cod 189 106 = some (.aload_n 0, 1) := cod_of b189 dX8_mark_106
theorem t189_106 {d : Nat} {h : Hp} {Q : Pst} {l1 l2 l3 l4 l5 l6 : Value} {x : Nat} {st : List Value} : T d 189 106 [.ref x, l1, l2, l3, l4, l5, l6] st h Q ↔ T d 189 107 [.ref x, l1, l2, l3, l4, l5, l6] (.ref x :: st) h Q := T_aload_n c189_106 rfl
theorem c189_107 : cod 189 107 = some (.getfield 7, 3) := cod_of b189 dX8_mark_107
theorem t189_107 {d : Nat} {h : Hp} {Q : Pst} {a : Nat} {ls : List Value} {st : List Value} : T d 189 107 ls (.ref a :: st) h Q ↔ gF (h.2.2 a) 7 0 (fun v => T d 189 110 ls (v :: st) h Q) := T_getfieldR m189 c189_107 f8_7
theorem c189_110 : cod 189 110 = some (.iload 6, 2) := cod_of b189 dX8_mark_110
theorem t189_110 {d : Nat} {h : Hp} {Q : Pst} {l0 l1 l2 l3 l4 l5 : Value} {x : Int32} {st : List Value} : T d 189 110 [l0, l1, l2, l3, l4, l5, .int x] st h Q ↔ T d 189 112 [l0, l1, l2, l3, l4, l5, .int x] (.int x :: st) h Q := T_iload c189_110 rfl
theorem c189_112 : cod 189 112 = some (.iconst 2, 1) := cod_of b189 dX8_mark_112
theorem t189_112 {d : Nat} {h : Hp} {Q : Pst} {ls : List Value} {st : List Value} : T d 189 112 ls st h Q ↔ T d 189 113 ls (.int 2 :: st) h Q := T_iconstV c189_112 (by decide)
theorem c189_113 : cod 189 113 = some (.iadd, 1) := cod_of b189 dX8_mark_113
theorem t189_113 {d : Nat} {h : Hp} {Q : Pst} {x y : Int32} {ls : List Value} {st : List Value} : T d 189 113 ls (.int y :: .int x :: st) h Q ↔ T d 189 114 ls (.int (x + y) :: st) h Q := T_iadd c189_113
theorem c189_114 : cod 189 114 = some (.iload_n 3, 1) := cod_of b189 dX8_mark_114
theorem t189_114 {d : Nat} {h : Hp} {Q : Pst} {l0 l1 l2 l4 l5 l6 : Value} {x : Int32} {st : List Value} : T d 189 114 [l0, l1, l2, .int x, l4, l5, l6] st h Q ↔ T d 189 115 [l0, l1, l2, .int x, l4, l5, l6] (.int x :: st) h Q := T_iload_n c189_114 rfl
theorem c189_115 : cod 189 115 = some (.iastore, 1) := cod_of b189 dX8_mark_115
theorem t189_115 {d : Nat} {h : Hp} {Q : Pst} {a : Nat} {i x : Int32} {ls : List Value} {st : List Value} : T d 189 115 ls (.int x :: .int i :: .ref a :: st) h Q ↔ aS (h.2.2 a) i x (fun cell => T d 189 116 ls st (hup h a cell) Q) := T_iastore c189_115
theorem c189_116 : cod 189 116 = some (.aload_n 0, 1) := cod_of b189 dX8_mark_116
theorem t189_116 {d : Nat} {h : Hp} {Q : Pst} {l1 l2 l3 l4 l5 l6 : Value} {x : Nat} {st : List Value} : T d 189 116 [.ref x, l1, l2, l3, l4, l5, l6] st h Q ↔ T d 189 117 [.ref x, l1, l2, l3, l4, l5, l6] (.ref x :: st) h Q := T_aload_n c189_116 rfl
theorem c189_117 : cod 189 117 = some (.getfield 7, 3) := cod_of b189 dX8_mark_117
theorem t189_117 {d : Nat} {h : Hp} {Q : Pst} {a : Nat} {ls : List Value} {st : List Value} : T d 189 117 ls (.ref a :: st) h Q ↔ gF (h.2.2 a) 7 0 (fun v => T d 189 120 ls (v :: st) h Q) := T_getfieldR m189 c189_117 f8_7
theorem c189_120 : cod 189 120 = some (.iload 6, 2) := cod_of b189 dX8_mark_120
theorem t189_120 {d : Nat} {h : Hp} {Q : Pst} {l0 l1 l2 l3 l4 l5 : Value} {x : Int32} {st : List Value} : T d 189 120 [l0, l1, l2, l3, l4, l5, .int x] st h Q ↔ T d 189 122 [l0, l1, l2, l3, l4, l5, .int x] (.int x :: st) h Q := T_iload c189_120 rfl
theorem c189_122 : cod 189 122 = some (.iconst 3, 1) := cod_of b189 dX8_mark_122
theorem t189_122 {d : Nat} {h : Hp} {Q : Pst} {ls : List Value} {st : List Value} : T d 189 122 ls st h Q ↔ T d 189 123 ls (.int 3 :: st) h Q := T_iconstV c189_122 (by decide)
theorem c189_123 : cod 189 123 = some (.iadd, 1) := cod_of b189 dX8_mark_123
theorem t189_123 {d : Nat} {h : Hp} {Q : Pst} {x y : Int32} {ls : List Value} {st : List Value} : T d 189 123 ls (.int y :: .int x :: st) h Q ↔ T d 189 124 ls (.int (x + y) :: st) h Q := T_iadd c189_123
theorem c189_124 : cod 189 124 = some (.iload 4, 2) := cod_of b189 dX8_mark_124
theorem t189_124 {d : Nat} {h : Hp} {Q : Pst} {l0 l1 l2 l3 l5 l6 : Value} {x : Int32} {st : List Value} : T d 189 124 [l0, l1, l2, l3, .int x, l5, l6] st h Q ↔ T d 189 126 [l0, l1, l2, l3, .int x, l5, l6] (.int x :: st) h Q := T_iload c189_124 rfl
theorem c189_126 : cod 189 126 = some (.iastore, 1) := cod_of b189 dX8_mark_126
theorem t189_126 {d : Nat} {h : Hp} {Q : Pst} {a : Nat} {i x : Int32} {ls : List Value} {st : List Value} : T d 189 126 ls (.int x :: .int i :: .ref a :: st) h Q ↔ aS (h.2.2 a) i x (fun cell => T d 189 127 ls st (hup h a cell) Q) := T_iastore c189_126
theorem c189_127 : cod 189 127 = some (.aload_n 0, 1) := cod_of b189 dX8_mark_127
theorem t189_127 {d : Nat} {h : Hp} {Q : Pst} {l1 l2 l3 l4 l5 l6 : Value} {x : Nat} {st : List Value} : T d 189 127 [.ref x, l1, l2, l3, l4, l5, l6] st h Q ↔ T d 189 128 [.ref x, l1, l2, l3, l4, l5, l6] (.ref x :: st) h Q := T_aload_n c189_127 rfl
theorem c189_128 : cod 189 128 = some (.getfield 7, 3) := cod_of b189 dX8_mark_128
theorem t189_128 {d : Nat} {h : Hp} {Q : Pst} {a : Nat} {ls : List Value} {st : List Value} : T d 189 128 ls (.ref a :: st) h Q ↔ gF (h.2.2 a) 7 0 (fun v => T d 189 131 ls (v :: st) h Q) := T_getfieldR m189 c189_128 f8_7
theorem c189_131 : cod 189 131 = some (.iload 6, 2) := cod_of b189 dX8_mark_131
theorem t189_131 {d : Nat} {h : Hp} {Q : Pst} {l0 l1 l2 l3 l4 l5 : Value} {x : Int32} {st : List Value} : T d 189 131 [l0, l1, l2, l3, l4, l5, .int x] st h Q ↔ T d 189 133 [l0, l1, l2, l3, l4, l5, .int x] (.int x :: st) h Q := T_iload c189_131 rfl
theorem c189_133 : cod 189 133 = some (.iconst 4, 1) := cod_of b189 dX8_mark_133
theorem t189_133 {d : Nat} {h : Hp} {Q : Pst} {ls : List Value} {st : List Value} : T d 189 133 ls st h Q ↔ T d 189 134 ls (.int 4 :: st) h Q := T_iconstV c189_133 (by decide)
theorem c189_134 : cod 189 134 = some (.iadd, 1) := cod_of b189 dX8_mark_134
theorem t189_134 {d : Nat} {h : Hp} {Q : Pst} {x y : Int32} {ls : List Value} {st : List Value} : T d 189 134 ls (.int y :: .int x :: st) h Q ↔ T d 189 135 ls (.int (x + y) :: st) h Q := T_iadd c189_134
theorem c189_135 : cod 189 135 = some (.iload 5, 2) := cod_of b189 dX8_mark_135
theorem t189_135 {d : Nat} {h : Hp} {Q : Pst} {l0 l1 l2 l3 l4 l6 : Value} {x : Int32} {st : List Value} : T d 189 135 [l0, l1, l2, l3, l4, .int x, l6] st h Q ↔ T d 189 137 [l0, l1, l2, l3, l4, .int x, l6] (.int x :: st) h Q := T_iload c189_135 rfl
theorem c189_137 : cod 189 137 = some (.iastore, 1) := cod_of b189 dX8_mark_137
theorem t189_137 {d : Nat} {h : Hp} {Q : Pst} {a : Nat} {i x : Int32} {ls : List Value} {st : List Value} : T d 189 137 ls (.int x :: .int i :: .ref a :: st) h Q ↔ aS (h.2.2 a) i x (fun cell => T d 189 138 ls st (hup h a cell) Q) := T_iastore c189_137
theorem c189_138 : cod 189 138 = some (.aload_n 0, 1) := cod_of b189 dX8_mark_138
theorem t189_138 {d : Nat} {h : Hp} {Q : Pst} {l1 l2 l3 l4 l5 l6 : Value} {x : Nat} {st : List Value} : T d 189 138 [.ref x, l1, l2, l3, l4, l5, l6] st h Q ↔ T d 189 139 [.ref x, l1, l2, l3, l4, l5, l6] (.ref x :: st) h Q := T_aload_n c189_138 rfl
theorem c189_139 : cod 189 139 = some (.getfield 7, 3) := cod_of b189 dX8_mark_139
theorem t189_139 {d : Nat} {h : Hp} {Q : Pst} {a : Nat} {ls : List Value} {st : List Value} : T d 189 139 ls (.ref a :: st) h Q ↔ gF (h.2.2 a) 7 0 (fun v => T d 189 142 ls (v :: st) h Q) := T_getfieldR m189 c189_139 f8_7
theorem c189_142 : cod 189 142 = some (.bipush 80, 2) := cod_of b189 dX8_mark_142
theorem t189_142 {d : Nat} {h : Hp} {Q : Pst} {ls : List Value} {st : List Value} : T d 189 142 ls st h Q ↔ T d 189 144 ls (.int 80 :: st) h Q := T_bipushV c189_142 (by decide)
theorem c189_144 : cod 189 144 = some (.dup2, 1) := cod_of b189 dX8_mark_144
theorem t189_144 {d : Nat} {h : Hp} {Q : Pst} {x : Int32} {y : Nat} {ls : List Value} {st : List Value} : T d 189 144 ls (.int x :: .ref y :: st) h Q ↔ T d 189 145 ls (.int x :: .ref y :: .int x :: .ref y :: st) h Q := T_dup2 c189_144 rfl rfl
theorem c189_145 : cod 189 145 = some (.iaload, 1) := cod_of b189 dX8_mark_145
theorem t189_145 {d : Nat} {h : Hp} {Q : Pst} {a : Nat} {i : Int32} {ls : List Value} {st : List Value} : T d 189 145 ls (.int i :: .ref a :: st) h Q ↔ aL (h.2.2 a) i (fun x => T d 189 146 ls (.int x :: st) h Q) := T_iaload c189_145
theorem c189_146 : cod 189 146 = some (.iconst 1, 1) := cod_of b189 dX8_mark_146
theorem t189_146 {d : Nat} {h : Hp} {Q : Pst} {ls : List Value} {st : List Value} : T d 189 146 ls st h Q ↔ T d 189 147 ls (.int 1 :: st) h Q := T_iconstV c189_146 (by decide)
theorem c189_147 : cod 189 147 = some (.iadd, 1) := cod_of b189 dX8_mark_147
theorem t189_147 {d : Nat} {h : Hp} {Q : Pst} {x y : Int32} {ls : List Value} {st : List Value} : T d 189 147 ls (.int y :: .int x :: st) h Q ↔ T d 189 148 ls (.int (x + y) :: st) h Q := T_iadd c189_147
theorem c189_148 : cod 189 148 = some (.iastore, 1) := cod_of b189 dX8_mark_148
theorem t189_148 {d : Nat} {h : Hp} {Q : Pst} {a : Nat} {i x : Int32} {ls : List Value} {st : List Value} : T d 189 148 ls (.int x :: .int i :: .ref a :: st) h Q ↔ aS (h.2.2 a) i x (fun cell => T d 189 149 ls st (hup h a cell) Q) := T_iastore c189_148
theorem c189_149 : cod 189 149 = some (.aload_n 0, 1) := cod_of b189 dX8_mark_149
theorem t189_149 {d : Nat} {h : Hp} {Q : Pst} {l1 l2 l3 l4 l5 l6 : Value} {x : Nat} {st : List Value} : T d 189 149 [.ref x, l1, l2, l3, l4, l5, l6] st h Q ↔ T d 189 150 [.ref x, l1, l2, l3, l4, l5, l6] (.ref x :: st) h Q := T_aload_n c189_149 rfl
theorem c189_150 : cod 189 150 = some (.getfield 7, 3) := cod_of b189 dX8_mark_150
theorem t189_150 {d : Nat} {h : Hp} {Q : Pst} {a : Nat} {ls : List Value} {st : List Value} : T d 189 150 ls (.ref a :: st) h Q ↔ gF (h.2.2 a) 7 0 (fun v => T d 189 153 ls (v :: st) h Q) := T_getfieldR m189 c189_150 f8_7
theorem c189_153 : cod 189 153 = some (.bipush 80, 2) := cod_of b189 dX8_mark_153
theorem t189_153 {d : Nat} {h : Hp} {Q : Pst} {ls : List Value} {st : List Value} : T d 189 153 ls st h Q ↔ T d 189 155 ls (.int 80 :: st) h Q := T_bipushV c189_153 (by decide)
theorem c189_155 : cod 189 155 = some (.iaload, 1) := cod_of b189 dX8_mark_155
theorem t189_155 {d : Nat} {h : Hp} {Q : Pst} {a : Nat} {i : Int32} {ls : List Value} {st : List Value} : T d 189 155 ls (.int i :: .ref a :: st) h Q ↔ aL (h.2.2 a) i (fun x => T d 189 156 ls (.int x :: st) h Q) := T_iaload c189_155
theorem c189_156 : cod 189 156 = some (.ireturn, 1) := cod_of b189 dX8_mark_156
theorem t189_156 {d : Nat} {h : Hp} {Q : Pst} {x : Int32} {ls : List Value} : T d 189 156 ls [.int x] h Q ↔ Q (some (.int x)) h := T_iretR m189 c189_156 rfl
theorem c189_48 : cod 189 48 = some (.aload_n 0, 1) := cod_of b189 dX8_mark_48
theorem t189_48 {d : Nat} {h : Hp} {Q : Pst} {l1 l2 l3 l4 l5 l6 : Value} {x : Nat} {st : List Value} : T d 189 48 [.ref x, l1, l2, l3, l4, l5, l6] st h Q ↔ T d 189 49 [.ref x, l1, l2, l3, l4, l5, l6] (.ref x :: st) h Q := T_aload_n c189_48 rfl
theorem c189_49 : cod 189 49 = some (.bipush (-2), 2) := cod_of b189 dX8_mark_49
theorem t189_49 {d : Nat} {h : Hp} {Q : Pst} {ls : List Value} {st : List Value} : T d 189 49 ls st h Q ↔ T d 189 51 ls (.int (-2) :: st) h Q := T_bipushV c189_49 (by decide)
theorem c189_51 : cod 189 51 = some (.invokevirtual 45, 3) := cod_of b189 dX8_mark_51
theorem t189_51 {d : Nat} {h : Hp} {Q : Pst} {a0 : Int32} {a : Nat} {ls : List Value} (ho : isO (h.2.2 a) 7) : T (d + 1) 189 51 ls [.int a0, .ref a] h Q ↔ T d 129 0 [.ref a, .int a0] [] h (fun x h2 => T (d + 1) 189 54 ls (rl x []) h2 Q) := T_virtualR (as := [.int a0]) (r := []) m189 m129 c189_51 k8_45  rfl (by decide) rfl (by simp [wrd, Value.category]) (by simp [stk, Value.category]) rfl (by decide +kernel) ho
theorem c189_54 : cod 189 54 = some (.ireturn, 1) := cod_of b189 dX8_mark_54
theorem t189_54 {d : Nat} {h : Hp} {Q : Pst} {x : Int32} {ls : List Value} : T d 189 54 ls [.int x] h Q ↔ Q (some (.int x)) h := T_iretR m189 c189_54 rfl
theorem b190 : (mR 190).2.2.1 = cX8_forget := by rw [m190]
theorem c190_0 : cod 190 0 = some (.iload_n 1, 1) := cod_of b190 dX8_forget_0
theorem t190_0 {d : Nat} {h : Hp} {Q : Pst} {l0 l2 l3 : Value} {x : Int32} {st : List Value} : T d 190 0 [l0, .int x, l2, l3] st h Q ↔ T d 190 1 [l0, .int x, l2, l3] (.int x :: st) h Q := T_iload_n c190_0 rfl
theorem c190_1 : cod 190 1 = some (.iconst 0, 1) := cod_of b190 dX8_forget_1
theorem t190_1 {d : Nat} {h : Hp} {Q : Pst} {ls : List Value} {st : List Value} : T d 190 1 ls st h Q ↔ T d 190 2 ls (.int 0 :: st) h Q := T_iconstV c190_1 (by decide)
theorem c190_2 : cod 190 2 = some (.iconst 2, 1) := cod_of b190 dX8_forget_2
theorem t190_2 {d : Nat} {h : Hp} {Q : Pst} {ls : List Value} {st : List Value} : T d 190 2 ls st h Q ↔ T d 190 3 ls (.int 2 :: st) h Q := T_iconstV c190_2 (by decide)
theorem c190_3 : cod 190 3 = some (.invokestatic 49, 3) := cod_of b190 dX8_forget_3
theorem t190_3 {d : Nat} {h : Hp} {Q : Pst} {a0 a1 a2 : Int32} {ls : List Value} : T (d + 1) 190 3 ls [.int a2, .int a1, .int a0] h Q ↔ T d 126 0 [.int a0, .int a1, .int a2] [] h (fun x h2 => T (d + 1) 190 6 ls (rl x []) h2 Q) := T_staticR (as := [.int a0, .int a1, .int a2]) (r := []) m190 m126 c190_3 k8_49 (Or.inl rfl) rfl (by decide) rfl (by simp [wrd, Value.category]) (by simp [stk, Value.category]) rfl
theorem c190_6 : cod 190 6 = some (.ifCond .ne 10, 3) := cod_of b190 dX8_forget_6
theorem t190_6 {d : Nat} {h : Hp} {Q : Pst} {x : Int32} {ls : List Value} {st : List Value} : T d 190 6 ls (.int x :: st) h Q ↔ (if ¬ x = 0 then T d 190 16 ls st h Q else T d 190 9 ls st h Q) := T_if_ne c190_6 (by decide)
theorem c190_9 : cod 190 9 = some (.aload_n 0, 1) := cod_of b190 dX8_forget_9
theorem t190_9 {d : Nat} {h : Hp} {Q : Pst} {l1 l2 l3 : Value} {x : Nat} {st : List Value} : T d 190 9 [.ref x, l1, l2, l3] st h Q ↔ T d 190 10 [.ref x, l1, l2, l3] (.ref x :: st) h Q := T_aload_n c190_9 rfl
theorem c190_10 : cod 190 10 = some (.bipush (-2), 2) := cod_of b190 dX8_forget_10
theorem t190_10 {d : Nat} {h : Hp} {Q : Pst} {ls : List Value} {st : List Value} : T d 190 10 ls st h Q ↔ T d 190 12 ls (.int (-2) :: st) h Q := T_bipushV c190_10 (by decide)
theorem c190_12 : cod 190 12 = some (.invokevirtual 45, 3) := cod_of b190 dX8_forget_12
theorem t190_12 {d : Nat} {h : Hp} {Q : Pst} {a0 : Int32} {a : Nat} {ls : List Value} (ho : isO (h.2.2 a) 7) : T (d + 1) 190 12 ls [.int a0, .ref a] h Q ↔ T d 129 0 [.ref a, .int a0] [] h (fun x h2 => T (d + 1) 190 15 ls (rl x []) h2 Q) := T_virtualR (as := [.int a0]) (r := []) m190 m129 c190_12 k8_45  rfl (by decide) rfl (by simp [wrd, Value.category]) (by simp [stk, Value.category]) rfl (by decide +kernel) ho
theorem c190_15 : cod 190 15 = some (.ireturn, 1) := cod_of b190 dX8_forget_15
theorem t190_15 {d : Nat} {h : Hp} {Q : Pst} {x : Int32} {ls : List Value} : T d 190 15 ls [.int x] h Q ↔ Q (some (.int x)) h := T_iretR m190 c190_15 rfl
theorem c190_16 : cod 190 16 = some (.iload_n 1, 1) := cod_of b190 dX8_forget_16
theorem t190_16 {d : Nat} {h : Hp} {Q : Pst} {l0 l2 l3 : Value} {x : Int32} {st : List Value} : T d 190 16 [l0, .int x, l2, l3] st h Q ↔ T d 190 17 [l0, .int x, l2, l3] (.int x :: st) h Q := T_iload_n c190_16 rfl
theorem c190_17 : cod 190 17 = some (.ifCond .ne 8, 3) := cod_of b190 dX8_forget_17
theorem t190_17 {d : Nat} {h : Hp} {Q : Pst} {x : Int32} {ls : List Value} {st : List Value} : T d 190 17 ls (.int x :: st) h Q ↔ (if ¬ x = 0 then T d 190 25 ls st h Q else T d 190 20 ls st h Q) := T_if_ne c190_17 (by decide)
theorem c190_20 : cod 190 20 = some (.bipush 34, 2) := cod_of b190 dX8_forget_20
theorem t190_20 {d : Nat} {h : Hp} {Q : Pst} {ls : List Value} {st : List Value} : T d 190 20 ls st h Q ↔ T d 190 22 ls (.int 34 :: st) h Q := T_bipushV c190_20 (by decide)
theorem c190_22 : cod 190 22 = some (.goto 15, 3) := cod_of b190 dX8_forget_22
theorem t190_22 {d : Nat} {h : Hp} {Q : Pst} {ls : List Value} {st : List Value} : T d 190 22 ls st h Q ↔ T d 190 37 ls st h Q := T_goto c190_22 (by decide)
theorem c190_37 : cod 190 37 = some (.istore_n 2, 1) := cod_of b190 dX8_forget_37
theorem t190_37 {d : Nat} {h : Hp} {Q : Pst} {l0 l1 l2 l3 : Value} {x : Int32} {st : List Value} : T d 190 37 [l0, l1, l2, l3] (.int x :: st) h Q ↔ T d 190 38 [l0, kil l1, .int x, l3] st h Q := T_istore_n c190_37 (Nat.le_of_ble_eq_true rfl)
theorem c190_38 : cod 190 38 = some (.aload_n 0, 1) := cod_of b190 dX8_forget_38
theorem t190_38 {d : Nat} {h : Hp} {Q : Pst} {l1 l2 l3 : Value} {x : Nat} {st : List Value} : T d 190 38 [.ref x, l1, l2, l3] st h Q ↔ T d 190 39 [.ref x, l1, l2, l3] (.ref x :: st) h Q := T_aload_n c190_38 rfl
theorem c190_39 : cod 190 39 = some (.getfield 7, 3) := cod_of b190 dX8_forget_39
theorem t190_39 {d : Nat} {h : Hp} {Q : Pst} {a : Nat} {ls : List Value} {st : List Value} : T d 190 39 ls (.ref a :: st) h Q ↔ gF (h.2.2 a) 7 0 (fun v => T d 190 42 ls (v :: st) h Q) := T_getfieldR m190 c190_39 f8_7
theorem c190_42 : cod 190 42 = some (.iload_n 2, 1) := cod_of b190 dX8_forget_42
theorem t190_42 {d : Nat} {h : Hp} {Q : Pst} {l0 l1 l3 : Value} {x : Int32} {st : List Value} : T d 190 42 [l0, l1, .int x, l3] st h Q ↔ T d 190 43 [l0, l1, .int x, l3] (.int x :: st) h Q := T_iload_n c190_42 rfl
theorem c190_43 : cod 190 43 = some (.iaload, 1) := cod_of b190 dX8_forget_43
theorem t190_43 {d : Nat} {h : Hp} {Q : Pst} {a : Nat} {i : Int32} {ls : List Value} {st : List Value} : T d 190 43 ls (.int i :: .ref a :: st) h Q ↔ aL (h.2.2 a) i (fun x => T d 190 44 ls (.int x :: st) h Q) := T_iaload c190_43
theorem c190_44 : cod 190 44 = some (.istore_n 3, 1) := cod_of b190 dX8_forget_44
theorem t190_44 {d : Nat} {h : Hp} {Q : Pst} {l0 l1 l2 l3 : Value} {x : Int32} {st : List Value} : T d 190 44 [l0, l1, l2, l3] (.int x :: st) h Q ↔ T d 190 45 [l0, l1, kil l2, .int x] st h Q := T_istore_n c190_44 (Nat.le_of_ble_eq_true rfl)
theorem c190_45 : cod 190 45 = some (.aload_n 0, 1) := cod_of b190 dX8_forget_45
theorem t190_45 {d : Nat} {h : Hp} {Q : Pst} {l1 l2 l3 : Value} {x : Nat} {st : List Value} : T d 190 45 [.ref x, l1, l2, l3] st h Q ↔ T d 190 46 [.ref x, l1, l2, l3] (.ref x :: st) h Q := T_aload_n c190_45 rfl
theorem c190_46 : cod 190 46 = some (.getfield 7, 3) := cod_of b190 dX8_forget_46
theorem t190_46 {d : Nat} {h : Hp} {Q : Pst} {a : Nat} {ls : List Value} {st : List Value} : T d 190 46 ls (.ref a :: st) h Q ↔ gF (h.2.2 a) 7 0 (fun v => T d 190 49 ls (v :: st) h Q) := T_getfieldR m190 c190_46 f8_7
theorem c190_49 : cod 190 49 = some (.iload_n 2, 1) := cod_of b190 dX8_forget_49
theorem t190_49 {d : Nat} {h : Hp} {Q : Pst} {l0 l1 l3 : Value} {x : Int32} {st : List Value} : T d 190 49 [l0, l1, .int x, l3] st h Q ↔ T d 190 50 [l0, l1, .int x, l3] (.int x :: st) h Q := T_iload_n c190_49 rfl
theorem c190_50 : cod 190 50 = some (.iconst 0, 1) := cod_of b190 dX8_forget_50
theorem t190_50 {d : Nat} {h : Hp} {Q : Pst} {ls : List Value} {st : List Value} : T d 190 50 ls st h Q ↔ T d 190 51 ls (.int 0 :: st) h Q := T_iconstV c190_50 (by decide)
theorem c190_51 : cod 190 51 = some (.iastore, 1) := cod_of b190 dX8_forget_51
theorem t190_51 {d : Nat} {h : Hp} {Q : Pst} {a : Nat} {i x : Int32} {ls : List Value} {st : List Value} : T d 190 51 ls (.int x :: .int i :: .ref a :: st) h Q ↔ aS (h.2.2 a) i x (fun cell => T d 190 52 ls st (hup h a cell) Q) := T_iastore c190_51
theorem c190_52 : cod 190 52 = some (.iload_n 3, 1) := cod_of b190 dX8_forget_52
theorem t190_52 {d : Nat} {h : Hp} {Q : Pst} {l0 l1 l2 : Value} {x : Int32} {st : List Value} : T d 190 52 [l0, l1, l2, .int x] st h Q ↔ T d 190 53 [l0, l1, l2, .int x] (.int x :: st) h Q := T_iload_n c190_52 rfl
theorem c190_53 : cod 190 53 = some (.ireturn, 1) := cod_of b190 dX8_forget_53
theorem t190_53 {d : Nat} {h : Hp} {Q : Pst} {x : Int32} {ls : List Value} : T d 190 53 ls [.int x] h Q ↔ Q (some (.int x)) h := T_iretR m190 c190_53 rfl
theorem c190_25 : cod 190 25 = some (.iload_n 1, 1) := cod_of b190 dX8_forget_25
theorem t190_25 {d : Nat} {h : Hp} {Q : Pst} {l0 l2 l3 : Value} {x : Int32} {st : List Value} : T d 190 25 [l0, .int x, l2, l3] st h Q ↔ T d 190 26 [l0, .int x, l2, l3] (.int x :: st) h Q := T_iload_n c190_25 rfl
theorem c190_26 : cod 190 26 = some (.iconst 1, 1) := cod_of b190 dX8_forget_26
theorem t190_26 {d : Nat} {h : Hp} {Q : Pst} {ls : List Value} {st : List Value} : T d 190 26 ls st h Q ↔ T d 190 27 ls (.int 1 :: st) h Q := T_iconstV c190_26 (by decide)
theorem c190_27 : cod 190 27 = some (.if_icmp .ne 8, 3) := cod_of b190 dX8_forget_27
theorem t190_27 {d : Nat} {h : Hp} {Q : Pst} {x y : Int32} {ls : List Value} {st : List Value} : T d 190 27 ls (.int y :: .int x :: st) h Q ↔ (if ¬ x = y then T d 190 35 ls st h Q else T d 190 30 ls st h Q) := T_icmp_ne c190_27 (by decide)
theorem c190_30 : cod 190 30 = some (.bipush 55, 2) := cod_of b190 dX8_forget_30
theorem t190_30 {d : Nat} {h : Hp} {Q : Pst} {ls : List Value} {st : List Value} : T d 190 30 ls st h Q ↔ T d 190 32 ls (.int 55 :: st) h Q := T_bipushV c190_30 (by decide)
theorem c190_32 : cod 190 32 = some (.goto 5, 3) := cod_of b190 dX8_forget_32
theorem t190_32 {d : Nat} {h : Hp} {Q : Pst} {ls : List Value} {st : List Value} : T d 190 32 ls st h Q ↔ T d 190 37 ls st h Q := T_goto c190_32 (by decide)
theorem c190_35 : cod 190 35 = some (.bipush 80, 2) := cod_of b190 dX8_forget_35
theorem t190_35 {d : Nat} {h : Hp} {Q : Pst} {ls : List Value} {st : List Value} : T d 190 35 ls st h Q ↔ T d 190 37 ls (.int 80 :: st) h Q := T_bipushV c190_35 (by decide)
theorem b191 : (mR 191).2.2.1 = cX8_kindsOf := by rw [m191]
theorem c191_0 : cod 191 0 = some (.bipush 63, 2) := cod_of b191 dX8_kindsOf_0
theorem t191_0 {d : Nat} {h : Hp} {Q : Pst} {ls : List Value} {st : List Value} : T d 191 0 ls st h Q ↔ T d 191 2 ls (.int 63 :: st) h Q := T_bipushV c191_0 (by decide)
theorem c191_2 : cod 191 2 = some (.istore_n 2, 1) := cod_of b191 dX8_kindsOf_2
theorem t191_2 {d : Nat} {h : Hp} {Q : Pst} {l0 l1 l2 l3 l4 l5 : Value} {x : Int32} {st : List Value} : T d 191 2 [l0, l1, l2, l3, l4, l5] (.int x :: st) h Q ↔ T d 191 3 [l0, kil l1, .int x, l3, l4, l5] st h Q := T_istore_n c191_2 (Nat.le_of_ble_eq_true rfl)
theorem c191_3 : cod 191 3 = some (.bipush 56, 2) := cod_of b191 dX8_kindsOf_3
theorem t191_3 {d : Nat} {h : Hp} {Q : Pst} {ls : List Value} {st : List Value} : T d 191 3 ls st h Q ↔ T d 191 5 ls (.int 56 :: st) h Q := T_bipushV c191_3 (by decide)
theorem c191_5 : cod 191 5 = some (.istore_n 3, 1) := cod_of b191 dX8_kindsOf_5
theorem t191_5 {d : Nat} {h : Hp} {Q : Pst} {l0 l1 l2 l3 l4 l5 : Value} {x : Int32} {st : List Value} : T d 191 5 [l0, l1, l2, l3, l4, l5] (.int x :: st) h Q ↔ T d 191 6 [l0, l1, kil l2, .int x, l4, l5] st h Q := T_istore_n c191_5 (Nat.le_of_ble_eq_true rfl)
theorem c191_6 : cod 191 6 = some (.iload_n 3, 1) := cod_of b191 dX8_kindsOf_6
theorem t191_6 {d : Nat} {h : Hp} {Q : Pst} {l0 l1 l2 l4 l5 : Value} {x : Int32} {st : List Value} : T d 191 6 [l0, l1, l2, .int x, l4, l5] st h Q ↔ T d 191 7 [l0, l1, l2, .int x, l4, l5] (.int x :: st) h Q := T_iload_n c191_6 rfl
theorem c191_7 : cod 191 7 = some (.bipush 56, 2) := cod_of b191 dX8_kindsOf_7
theorem t191_7 {d : Nat} {h : Hp} {Q : Pst} {ls : List Value} {st : List Value} : T d 191 7 ls st h Q ↔ T d 191 9 ls (.int 56 :: st) h Q := T_bipushV c191_7 (by decide)
theorem c191_9 : cod 191 9 = some (.iconst 4, 1) := cod_of b191 dX8_kindsOf_9
theorem t191_9 {d : Nat} {h : Hp} {Q : Pst} {ls : List Value} {st : List Value} : T d 191 9 ls st h Q ↔ T d 191 10 ls (.int 4 :: st) h Q := T_iconstV c191_9 (by decide)
theorem c191_10 : cod 191 10 = some (.aload_n 0, 1) := cod_of b191 dX8_kindsOf_10
theorem t191_10 {d : Nat} {h : Hp} {Q : Pst} {l1 l2 l3 l4 l5 : Value} {x : Nat} {st : List Value} : T d 191 10 [.ref x, l1, l2, l3, l4, l5] st h Q ↔ T d 191 11 [.ref x, l1, l2, l3, l4, l5] (.ref x :: st) h Q := T_aload_n c191_10 rfl
theorem c191_11 : cod 191 11 = some (.getfield 7, 3) := cod_of b191 dX8_kindsOf_11
theorem t191_11 {d : Nat} {h : Hp} {Q : Pst} {a : Nat} {ls : List Value} {st : List Value} : T d 191 11 ls (.ref a :: st) h Q ↔ gF (h.2.2 a) 7 0 (fun v => T d 191 14 ls (v :: st) h Q) := T_getfieldR m191 c191_11 f8_7
theorem c191_14 : cod 191 14 = some (.bipush 55, 2) := cod_of b191 dX8_kindsOf_14
theorem t191_14 {d : Nat} {h : Hp} {Q : Pst} {ls : List Value} {st : List Value} : T d 191 14 ls st h Q ↔ T d 191 16 ls (.int 55 :: st) h Q := T_bipushV c191_14 (by decide)
theorem c191_16 : cod 191 16 = some (.iaload, 1) := cod_of b191 dX8_kindsOf_16
theorem t191_16 {d : Nat} {h : Hp} {Q : Pst} {a : Nat} {i : Int32} {ls : List Value} {st : List Value} : T d 191 16 ls (.int i :: .ref a :: st) h Q ↔ aL (h.2.2 a) i (fun x => T d 191 17 ls (.int x :: st) h Q) := T_iaload c191_16
theorem c191_17 : cod 191 17 = some (.imul, 1) := cod_of b191 dX8_kindsOf_17
theorem t191_17 {d : Nat} {h : Hp} {Q : Pst} {x y : Int32} {ls : List Value} {st : List Value} : T d 191 17 ls (.int y :: .int x :: st) h Q ↔ T d 191 18 ls (.int (x * y) :: st) h Q := T_imul c191_17
theorem c191_18 : cod 191 18 = some (.iadd, 1) := cod_of b191 dX8_kindsOf_18
theorem t191_18 {d : Nat} {h : Hp} {Q : Pst} {x y : Int32} {ls : List Value} {st : List Value} : T d 191 18 ls (.int y :: .int x :: st) h Q ↔ T d 191 19 ls (.int (x + y) :: st) h Q := T_iadd c191_18
theorem c191_19 : cod 191 19 = some (.if_icmp .ge 93, 3) := cod_of b191 dX8_kindsOf_19
theorem t191_19 {d : Nat} {h : Hp} {Q : Pst} {x y : Int32} {ls : List Value} {st : List Value} : T d 191 19 ls (.int y :: .int x :: st) h Q ↔ (if y ≤ x then T d 191 112 ls st h Q else T d 191 22 ls st h Q) := T_icmp_ge c191_19 (by decide)
theorem c191_22 : cod 191 22 = some (.iconst 0, 1) := cod_of b191 dX8_kindsOf_22
theorem t191_22 {d : Nat} {h : Hp} {Q : Pst} {ls : List Value} {st : List Value} : T d 191 22 ls st h Q ↔ T d 191 23 ls (.int 0 :: st) h Q := T_iconstV c191_22 (by decide)
theorem c191_23 : cod 191 23 = some (.istore 4, 2) := cod_of b191 dX8_kindsOf_23
theorem t191_23 {d : Nat} {h : Hp} {Q : Pst} {l0 l1 l2 l3 l4 l5 : Value} {x : Int32} {st : List Value} : T d 191 23 [l0, l1, l2, l3, l4, l5] (.int x :: st) h Q ↔ T d 191 25 [l0, l1, l2, kil l3, .int x, l5] st h Q := T_istore c191_23 (Nat.le_of_ble_eq_true rfl)
theorem c191_25 : cod 191 25 = some (.iload 4, 2) := cod_of b191 dX8_kindsOf_25
theorem t191_25 {d : Nat} {h : Hp} {Q : Pst} {l0 l1 l2 l3 l5 : Value} {x : Int32} {st : List Value} : T d 191 25 [l0, l1, l2, l3, .int x, l5] st h Q ↔ T d 191 27 [l0, l1, l2, l3, .int x, l5] (.int x :: st) h Q := T_iload c191_25 rfl
theorem c191_27 : cod 191 27 = some (.bipush 6, 2) := cod_of b191 dX8_kindsOf_27
theorem t191_27 {d : Nat} {h : Hp} {Q : Pst} {ls : List Value} {st : List Value} : T d 191 27 ls st h Q ↔ T d 191 29 ls (.int 6 :: st) h Q := T_bipushV c191_27 (by decide)
theorem c191_29 : cod 191 29 = some (.if_icmp .ge 77, 3) := cod_of b191 dX8_kindsOf_29
theorem t191_29 {d : Nat} {h : Hp} {Q : Pst} {x y : Int32} {ls : List Value} {st : List Value} : T d 191 29 ls (.int y :: .int x :: st) h Q ↔ (if y ≤ x then T d 191 106 ls st h Q else T d 191 32 ls st h Q) := T_icmp_ge c191_29 (by decide)
theorem c191_32 : cod 191 32 = some (.aload_n 0, 1) := cod_of b191 dX8_kindsOf_32
theorem t191_32 {d : Nat} {h : Hp} {Q : Pst} {l1 l2 l3 l4 l5 : Value} {x : Nat} {st : List Value} : T d 191 32 [.ref x, l1, l2, l3, l4, l5] st h Q ↔ T d 191 33 [.ref x, l1, l2, l3, l4, l5] (.ref x :: st) h Q := T_aload_n c191_32 rfl
theorem c191_33 : cod 191 33 = some (.getfield 7, 3) := cod_of b191 dX8_kindsOf_33
theorem t191_33 {d : Nat} {h : Hp} {Q : Pst} {a : Nat} {ls : List Value} {st : List Value} : T d 191 33 ls (.ref a :: st) h Q ↔ gF (h.2.2 a) 7 0 (fun v => T d 191 36 ls (v :: st) h Q) := T_getfieldR m191 c191_33 f8_7
theorem c191_36 : cod 191 36 = some (.iload_n 3, 1) := cod_of b191 dX8_kindsOf_36
theorem t191_36 {d : Nat} {h : Hp} {Q : Pst} {l0 l1 l2 l4 l5 : Value} {x : Int32} {st : List Value} : T d 191 36 [l0, l1, l2, .int x, l4, l5] st h Q ↔ T d 191 37 [l0, l1, l2, .int x, l4, l5] (.int x :: st) h Q := T_iload_n c191_36 rfl
theorem c191_37 : cod 191 37 = some (.iaload, 1) := cod_of b191 dX8_kindsOf_37
theorem t191_37 {d : Nat} {h : Hp} {Q : Pst} {a : Nat} {i : Int32} {ls : List Value} {st : List Value} : T d 191 37 ls (.int i :: .ref a :: st) h Q ↔ aL (h.2.2 a) i (fun x => T d 191 38 ls (.int x :: st) h Q) := T_iaload c191_37
theorem c191_38 : cod 191 38 = some (.iload_n 1, 1) := cod_of b191 dX8_kindsOf_38
theorem t191_38 {d : Nat} {h : Hp} {Q : Pst} {l0 l2 l3 l4 l5 : Value} {x : Int32} {st : List Value} : T d 191 38 [l0, .int x, l2, l3, l4, l5] st h Q ↔ T d 191 39 [l0, .int x, l2, l3, l4, l5] (.int x :: st) h Q := T_iload_n c191_38 rfl
theorem c191_39 : cod 191 39 = some (.if_icmp .ne 35, 3) := cod_of b191 dX8_kindsOf_39
theorem t191_39 {d : Nat} {h : Hp} {Q : Pst} {x y : Int32} {ls : List Value} {st : List Value} : T d 191 39 ls (.int y :: .int x :: st) h Q ↔ (if ¬ x = y then T d 191 74 ls st h Q else T d 191 42 ls st h Q) := T_icmp_ne c191_39 (by decide)
theorem c191_42 : cod 191 42 = some (.iload 4, 2) := cod_of b191 dX8_kindsOf_42
theorem t191_42 {d : Nat} {h : Hp} {Q : Pst} {l0 l1 l2 l3 l5 : Value} {x : Int32} {st : List Value} : T d 191 42 [l0, l1, l2, l3, .int x, l5] st h Q ↔ T d 191 44 [l0, l1, l2, l3, .int x, l5] (.int x :: st) h Q := T_iload c191_42 rfl
theorem c191_44 : cod 191 44 = some (.aload_n 0, 1) := cod_of b191 dX8_kindsOf_44
theorem t191_44 {d : Nat} {h : Hp} {Q : Pst} {l1 l2 l3 l4 l5 : Value} {x : Nat} {st : List Value} : T d 191 44 [.ref x, l1, l2, l3, l4, l5] st h Q ↔ T d 191 45 [.ref x, l1, l2, l3, l4, l5] (.ref x :: st) h Q := T_aload_n c191_44 rfl
theorem c191_45 : cod 191 45 = some (.getfield 7, 3) := cod_of b191 dX8_kindsOf_45
theorem t191_45 {d : Nat} {h : Hp} {Q : Pst} {a : Nat} {ls : List Value} {st : List Value} : T d 191 45 ls (.ref a :: st) h Q ↔ gF (h.2.2 a) 7 0 (fun v => T d 191 48 ls (v :: st) h Q) := T_getfieldR m191 c191_45 f8_7
theorem c191_48 : cod 191 48 = some (.iload_n 3, 1) := cod_of b191 dX8_kindsOf_48
theorem t191_48 {d : Nat} {h : Hp} {Q : Pst} {l0 l1 l2 l4 l5 : Value} {x : Int32} {st : List Value} : T d 191 48 [l0, l1, l2, .int x, l4, l5] st h Q ↔ T d 191 49 [l0, l1, l2, .int x, l4, l5] (.int x :: st) h Q := T_iload_n c191_48 rfl
theorem c191_49 : cod 191 49 = some (.iconst 1, 1) := cod_of b191 dX8_kindsOf_49
theorem t191_49 {d : Nat} {h : Hp} {Q : Pst} {ls : List Value} {st : List Value} : T d 191 49 ls st h Q ↔ T d 191 50 ls (.int 1 :: st) h Q := T_iconstV c191_49 (by decide)
theorem c191_50 : cod 191 50 = some (.iadd, 1) := cod_of b191 dX8_kindsOf_50
theorem t191_50 {d : Nat} {h : Hp} {Q : Pst} {x y : Int32} {ls : List Value} {st : List Value} : T d 191 50 ls (.int y :: .int x :: st) h Q ↔ T d 191 51 ls (.int (x + y) :: st) h Q := T_iadd c191_50
theorem c191_51 : cod 191 51 = some (.iaload, 1) := cod_of b191 dX8_kindsOf_51
theorem t191_51 {d : Nat} {h : Hp} {Q : Pst} {a : Nat} {i : Int32} {ls : List Value} {st : List Value} : T d 191 51 ls (.int i :: .ref a :: st) h Q ↔ aL (h.2.2 a) i (fun x => T d 191 52 ls (.int x :: st) h Q) := T_iaload c191_51
theorem c191_52 : cod 191 52 = some (.aload_n 0, 1) := cod_of b191 dX8_kindsOf_52
theorem t191_52 {d : Nat} {h : Hp} {Q : Pst} {l1 l2 l3 l4 l5 : Value} {x : Nat} {st : List Value} : T d 191 52 [.ref x, l1, l2, l3, l4, l5] st h Q ↔ T d 191 53 [.ref x, l1, l2, l3, l4, l5] (.ref x :: st) h Q := T_aload_n c191_52 rfl
theorem c191_53 : cod 191 53 = some (.getfield 7, 3) := cod_of b191 dX8_kindsOf_53
theorem t191_53 {d : Nat} {h : Hp} {Q : Pst} {a : Nat} {ls : List Value} {st : List Value} : T d 191 53 ls (.ref a :: st) h Q ↔ gF (h.2.2 a) 7 0 (fun v => T d 191 56 ls (v :: st) h Q) := T_getfieldR m191 c191_53 f8_7
theorem c191_56 : cod 191 56 = some (.iload_n 3, 1) := cod_of b191 dX8_kindsOf_56
theorem t191_56 {d : Nat} {h : Hp} {Q : Pst} {l0 l1 l2 l4 l5 : Value} {x : Int32} {st : List Value} : T d 191 56 [l0, l1, l2, .int x, l4, l5] st h Q ↔ T d 191 57 [l0, l1, l2, .int x, l4, l5] (.int x :: st) h Q := T_iload_n c191_56 rfl
theorem c191_57 : cod 191 57 = some (.iconst 2, 1) := cod_of b191 dX8_kindsOf_57
theorem t191_57 {d : Nat} {h : Hp} {Q : Pst} {ls : List Value} {st : List Value} : T d 191 57 ls st h Q ↔ T d 191 58 ls (.int 2 :: st) h Q := T_iconstV c191_57 (by decide)
theorem c191_58 : cod 191 58 = some (.iadd, 1) := cod_of b191 dX8_kindsOf_58
theorem t191_58 {d : Nat} {h : Hp} {Q : Pst} {x y : Int32} {ls : List Value} {st : List Value} : T d 191 58 ls (.int y :: .int x :: st) h Q ↔ T d 191 59 ls (.int (x + y) :: st) h Q := T_iadd c191_58
theorem c191_59 : cod 191 59 = some (.iaload, 1) := cod_of b191 dX8_kindsOf_59
theorem t191_59 {d : Nat} {h : Hp} {Q : Pst} {a : Nat} {i : Int32} {ls : List Value} {st : List Value} : T d 191 59 ls (.int i :: .ref a :: st) h Q ↔ aL (h.2.2 a) i (fun x => T d 191 60 ls (.int x :: st) h Q) := T_iaload c191_59
theorem c191_60 : cod 191 60 = some (.invokestatic 132, 3) := cod_of b191 dX8_kindsOf_60
theorem t191_60 {d : Nat} {h : Hp} {Q : Pst} {a0 a1 a2 : Int32} {ls : List Value} : T (d + 1) 191 60 ls [.int a2, .int a1, .int a0] h Q ↔ T d 152 0 [.int a0, .int a1, .int a2, un] [] h (fun x h2 => T (d + 1) 191 63 ls (rl x []) h2 Q) := T_staticR (as := [.int a0, .int a1, .int a2]) (r := []) m191 m152 c191_60 k8_132 (Or.inl rfl) rfl (by decide) rfl (by simp [wrd, Value.category]) (by simp [stk, Value.category]) rfl
theorem c191_63 : cod 191 63 = some (.aload_n 0, 1) := cod_of b191 dX8_kindsOf_63
theorem t191_63 {d : Nat} {h : Hp} {Q : Pst} {l1 l2 l3 l4 l5 : Value} {x : Nat} {st : List Value} : T d 191 63 [.ref x, l1, l2, l3, l4, l5] st h Q ↔ T d 191 64 [.ref x, l1, l2, l3, l4, l5] (.ref x :: st) h Q := T_aload_n c191_63 rfl
theorem c191_64 : cod 191 64 = some (.getfield 7, 3) := cod_of b191 dX8_kindsOf_64
theorem t191_64 {d : Nat} {h : Hp} {Q : Pst} {a : Nat} {ls : List Value} {st : List Value} : T d 191 64 ls (.ref a :: st) h Q ↔ gF (h.2.2 a) 7 0 (fun v => T d 191 67 ls (v :: st) h Q) := T_getfieldR m191 c191_64 f8_7
theorem c191_67 : cod 191 67 = some (.iload_n 3, 1) := cod_of b191 dX8_kindsOf_67
theorem t191_67 {d : Nat} {h : Hp} {Q : Pst} {l0 l1 l2 l4 l5 : Value} {x : Int32} {st : List Value} : T d 191 67 [l0, l1, l2, .int x, l4, l5] st h Q ↔ T d 191 68 [l0, l1, l2, .int x, l4, l5] (.int x :: st) h Q := T_iload_n c191_67 rfl
theorem c191_68 : cod 191 68 = some (.iconst 3, 1) := cod_of b191 dX8_kindsOf_68
theorem t191_68 {d : Nat} {h : Hp} {Q : Pst} {ls : List Value} {st : List Value} : T d 191 68 ls st h Q ↔ T d 191 69 ls (.int 3 :: st) h Q := T_iconstV c191_68 (by decide)
theorem c191_69 : cod 191 69 = some (.iadd, 1) := cod_of b191 dX8_kindsOf_69
theorem t191_69 {d : Nat} {h : Hp} {Q : Pst} {x y : Int32} {ls : List Value} {st : List Value} : T d 191 69 ls (.int y :: .int x :: st) h Q ↔ T d 191 70 ls (.int (x + y) :: st) h Q := T_iadd c191_69
theorem c191_70 : cod 191 70 = some (.iaload, 1) := cod_of b191 dX8_kindsOf_70
theorem t191_70 {d : Nat} {h : Hp} {Q : Pst} {a : Nat} {i : Int32} {ls : List Value} {st : List Value} : T d 191 70 ls (.int i :: .ref a :: st) h Q ↔ aL (h.2.2 a) i (fun x => T d 191 71 ls (.int x :: st) h Q) := T_iaload c191_70
theorem c191_71 : cod 191 71 = some (.if_icmp .ne 7, 3) := cod_of b191 dX8_kindsOf_71
theorem t191_71 {d : Nat} {h : Hp} {Q : Pst} {x y : Int32} {ls : List Value} {st : List Value} : T d 191 71 ls (.int y :: .int x :: st) h Q ↔ (if ¬ x = y then T d 191 78 ls st h Q else T d 191 74 ls st h Q) := T_icmp_ne c191_71 (by decide)
theorem c191_78 : cod 191 78 = some (.iconst 0, 1) := cod_of b191 dX8_kindsOf_78
theorem t191_78 {d : Nat} {h : Hp} {Q : Pst} {ls : List Value} {st : List Value} : T d 191 78 ls st h Q ↔ T d 191 79 ls (.int 0 :: st) h Q := T_iconstV c191_78 (by decide)
theorem c191_79 : cod 191 79 = some (.istore 5, 2) := cod_of b191 dX8_kindsOf_79
theorem t191_79 {d : Nat} {h : Hp} {Q : Pst} {l0 l1 l2 l3 l4 l5 : Value} {x : Int32} {st : List Value} : T d 191 79 [l0, l1, l2, l3, l4, l5] (.int x :: st) h Q ↔ T d 191 81 [l0, l1, l2, l3, kil l4, .int x] st h Q := T_istore c191_79 (Nat.le_of_ble_eq_true rfl)
theorem c191_81 : cod 191 81 = some (.iload_n 2, 1) := cod_of b191 dX8_kindsOf_81
theorem t191_81 {d : Nat} {h : Hp} {Q : Pst} {l0 l1 l3 l4 l5 : Value} {x : Int32} {st : List Value} : T d 191 81 [l0, l1, .int x, l3, l4, l5] st h Q ↔ T d 191 82 [l0, l1, .int x, l3, l4, l5] (.int x :: st) h Q := T_iload_n c191_81 rfl
theorem c191_82 : cod 191 82 = some (.iload 5, 2) := cod_of b191 dX8_kindsOf_82
theorem t191_82 {d : Nat} {h : Hp} {Q : Pst} {l0 l1 l2 l3 l4 : Value} {x : Int32} {st : List Value} : T d 191 82 [l0, l1, l2, l3, l4, .int x] st h Q ↔ T d 191 84 [l0, l1, l2, l3, l4, .int x] (.int x :: st) h Q := T_iload c191_82 rfl
theorem c191_84 : cod 191 84 = some (.ifCond .eq 8, 3) := cod_of b191 dX8_kindsOf_84
theorem t191_84 {d : Nat} {h : Hp} {Q : Pst} {x : Int32} {ls : List Value} {st : List Value} : T d 191 84 ls (.int x :: st) h Q ↔ (if x = 0 then T d 191 92 ls st h Q else T d 191 87 ls st h Q) := T_if_eq c191_84 (by decide)
theorem c191_87 : cod 191 87 = some (.bipush 63, 2) := cod_of b191 dX8_kindsOf_87
theorem t191_87 {d : Nat} {h : Hp} {Q : Pst} {ls : List Value} {st : List Value} : T d 191 87 ls st h Q ↔ T d 191 89 ls (.int 63 :: st) h Q := T_bipushV c191_87 (by decide)
theorem c191_89 : cod 191 89 = some (.goto 9, 3) := cod_of b191 dX8_kindsOf_89
theorem t191_89 {d : Nat} {h : Hp} {Q : Pst} {ls : List Value} {st : List Value} : T d 191 89 ls st h Q ↔ T d 191 98 ls st h Q := T_goto c191_89 (by decide)
theorem c191_98 : cod 191 98 = some (.iand, 1) := cod_of b191 dX8_kindsOf_98
theorem t191_98 {d : Nat} {h : Hp} {Q : Pst} {x y : Int32} {ls : List Value} {st : List Value} : T d 191 98 ls (.int y :: .int x :: st) h Q ↔ T d 191 99 ls (.int (x &&& y) :: st) h Q := T_iand c191_98
theorem c191_99 : cod 191 99 = some (.istore_n 2, 1) := cod_of b191 dX8_kindsOf_99
theorem t191_99 {d : Nat} {h : Hp} {Q : Pst} {l0 l1 l2 l3 l4 l5 : Value} {x : Int32} {st : List Value} : T d 191 99 [l0, l1, l2, l3, l4, l5] (.int x :: st) h Q ↔ T d 191 100 [l0, kil l1, .int x, l3, l4, l5] st h Q := T_istore_n c191_99 (Nat.le_of_ble_eq_true rfl)
theorem c191_100 : cod 191 100 = some (.iinc 4 1, 3) := cod_of b191 dX8_kindsOf_100
theorem t191_100 {d : Nat} {h : Hp} {Q : Pst} {l0 l1 l2 l3 l5 : Value} {x : Int32} {st : List Value} : T d 191 100 [l0, l1, l2, l3, .int x, l5] st h Q ↔ T d 191 103 [l0, l1, l2, kil l3, .int (x + 1), l5] st h Q := T_iincV c191_100 rfl (Nat.le_of_ble_eq_true rfl) (by decide) rfl
theorem c191_103 : cod 191 103 = some (.goto (-78), 3) := cod_of b191 dX8_kindsOf_103
theorem t191_103 {d : Nat} {h : Hp} {Q : Pst} {ls : List Value} {st : List Value} : T d 191 103 ls st h Q ↔ T d 191 25 ls st h Q := T_goto c191_103 (by decide)
theorem c191_92 : cod 191 92 = some (.iconst 1, 1) := cod_of b191 dX8_kindsOf_92
theorem t191_92 {d : Nat} {h : Hp} {Q : Pst} {ls : List Value} {st : List Value} : T d 191 92 ls st h Q ↔ T d 191 93 ls (.int 1 :: st) h Q := T_iconstV c191_92 (by decide)
theorem c191_93 : cod 191 93 = some (.iload 4, 2) := cod_of b191 dX8_kindsOf_93
theorem t191_93 {d : Nat} {h : Hp} {Q : Pst} {l0 l1 l2 l3 l5 : Value} {x : Int32} {st : List Value} : T d 191 93 [l0, l1, l2, l3, .int x, l5] st h Q ↔ T d 191 95 [l0, l1, l2, l3, .int x, l5] (.int x :: st) h Q := T_iload c191_93 rfl
theorem c191_95 : cod 191 95 = some (.ishl, 1) := cod_of b191 dX8_kindsOf_95
theorem t191_95 {d : Nat} {h : Hp} {Q : Pst} {x y : Int32} {ls : List Value} {st : List Value} : T d 191 95 ls (.int y :: .int x :: st) h Q ↔ T d 191 96 ls (.int (x <<< (y &&& 31)) :: st) h Q := T_ishl c191_95
theorem c191_96 : cod 191 96 = some (.iconst (-1), 1) := cod_of b191 dX8_kindsOf_96
theorem t191_96 {d : Nat} {h : Hp} {Q : Pst} {ls : List Value} {st : List Value} : T d 191 96 ls st h Q ↔ T d 191 97 ls (.int (-1) :: st) h Q := T_iconstV c191_96 (by decide)
theorem c191_97 : cod 191 97 = some (.ixor, 1) := cod_of b191 dX8_kindsOf_97
theorem t191_97 {d : Nat} {h : Hp} {Q : Pst} {x y : Int32} {ls : List Value} {st : List Value} : T d 191 97 ls (.int y :: .int x :: st) h Q ↔ T d 191 98 ls (.int (x ^^^ y) :: st) h Q := T_ixor c191_97
theorem c191_74 : cod 191 74 = some (.iconst 1, 1) := cod_of b191 dX8_kindsOf_74
theorem t191_74 {d : Nat} {h : Hp} {Q : Pst} {ls : List Value} {st : List Value} : T d 191 74 ls st h Q ↔ T d 191 75 ls (.int 1 :: st) h Q := T_iconstV c191_74 (by decide)
theorem c191_75 : cod 191 75 = some (.goto 4, 3) := cod_of b191 dX8_kindsOf_75
theorem t191_75 {d : Nat} {h : Hp} {Q : Pst} {ls : List Value} {st : List Value} : T d 191 75 ls st h Q ↔ T d 191 79 ls st h Q := T_goto c191_75 (by decide)
theorem c191_106 : cod 191 106 = some (.iinc 3 4, 3) := cod_of b191 dX8_kindsOf_106
theorem t191_106 {d : Nat} {h : Hp} {Q : Pst} {l0 l1 l2 l4 l5 : Value} {x : Int32} {st : List Value} : T d 191 106 [l0, l1, l2, .int x, l4, l5] st h Q ↔ T d 191 109 [l0, l1, kil l2, .int (x + 4), l4, l5] st h Q := T_iincV c191_106 rfl (Nat.le_of_ble_eq_true rfl) (by decide) rfl
theorem c191_109 : cod 191 109 = some (.goto (-103), 3) := cod_of b191 dX8_kindsOf_109
theorem t191_109 {d : Nat} {h : Hp} {Q : Pst} {ls : List Value} {st : List Value} : T d 191 109 ls st h Q ↔ T d 191 6 ls st h Q := T_goto c191_109 (by decide)
theorem c191_112 : cod 191 112 = some (.iload_n 2, 1) := cod_of b191 dX8_kindsOf_112
theorem t191_112 {d : Nat} {h : Hp} {Q : Pst} {l0 l1 l3 l4 l5 : Value} {x : Int32} {st : List Value} : T d 191 112 [l0, l1, .int x, l3, l4, l5] st h Q ↔ T d 191 113 [l0, l1, .int x, l3, l4, l5] (.int x :: st) h Q := T_iload_n c191_112 rfl
theorem c191_113 : cod 191 113 = some (.ireturn, 1) := cod_of b191 dX8_kindsOf_113
theorem t191_113 {d : Nat} {h : Hp} {Q : Pst} {x : Int32} {ls : List Value} : T d 191 113 ls [.int x] h Q ↔ Q (some (.int x)) h := T_iretR m191 c191_113 rfl
theorem b192 : (mR 192).2.2.1 = cX8_is := by rw [m192]
theorem c192_0 : cod 192 0 = some (.aload_n 0, 1) := cod_of b192 dX8_is_0
theorem t192_0 {d : Nat} {h : Hp} {Q : Pst} {l1 : Value} {x : Nat} {st : List Value} : T d 192 0 [.ref x, l1] st h Q ↔ T d 192 1 [.ref x, l1] (.ref x :: st) h Q := T_aload_n c192_0 rfl
theorem c192_1 : cod 192 1 = some (.iload_n 1, 1) := cod_of b192 dX8_is_1
theorem t192_1 {d : Nat} {h : Hp} {Q : Pst} {l0 : Value} {x : Int32} {st : List Value} : T d 192 1 [l0, .int x] st h Q ↔ T d 192 2 [l0, .int x] (.int x :: st) h Q := T_iload_n c192_1 rfl
theorem c192_2 : cod 192 2 = some (.invokevirtual 157, 3) := cod_of b192 dX8_is_2
theorem t192_2 {d : Nat} {h : Hp} {Q : Pst} {a0 : Int32} {a : Nat} {ls : List Value} (ho : isO (h.2.2 a) 7) : T (d + 1) 192 2 ls [.int a0, .ref a] h Q ↔ T d 163 0 [.ref a, .int a0] [] h (fun x h2 => T (d + 1) 192 5 ls (rl x []) h2 Q) := T_virtualR (as := [.int a0]) (r := []) m192 m163 c192_2 k8_157  rfl (by decide) rfl (by simp [wrd, Value.category]) (by simp [stk, Value.category]) rfl (by decide +kernel) ho
theorem c192_5 : cod 192 5 = some (.ifCond .eq 11, 3) := cod_of b192 dX8_is_5
theorem t192_5 {d : Nat} {h : Hp} {Q : Pst} {x : Int32} {ls : List Value} {st : List Value} : T d 192 5 ls (.int x :: st) h Q ↔ (if x = 0 then T d 192 16 ls st h Q else T d 192 8 ls st h Q) := T_if_eq c192_5 (by decide)
theorem c192_8 : cod 192 8 = some (.aload_n 0, 1) := cod_of b192 dX8_is_8
theorem t192_8 {d : Nat} {h : Hp} {Q : Pst} {l1 : Value} {x : Nat} {st : List Value} : T d 192 8 [.ref x, l1] st h Q ↔ T d 192 9 [.ref x, l1] (.ref x :: st) h Q := T_aload_n c192_8 rfl
theorem c192_9 : cod 192 9 = some (.iload_n 1, 1) := cod_of b192 dX8_is_9
theorem t192_9 {d : Nat} {h : Hp} {Q : Pst} {l0 : Value} {x : Int32} {st : List Value} : T d 192 9 [l0, .int x] st h Q ↔ T d 192 10 [l0, .int x] (.int x :: st) h Q := T_iload_n c192_9 rfl
theorem c192_10 : cod 192 10 = some (.invokevirtual 191, 3) := cod_of b192 dX8_is_10
theorem t192_10 {d : Nat} {h : Hp} {Q : Pst} {a0 : Int32} {a : Nat} {ls : List Value} (ho : isO (h.2.2 a) 7) : T (d + 1) 192 10 ls [.int a0, .ref a] h Q ↔ T d 191 0 [.ref a, .int a0, un, un, un, un] [] h (fun x h2 => T (d + 1) 192 13 ls (rl x []) h2 Q) := T_virtualR (as := [.int a0]) (r := []) m192 m191 c192_10 k8_191  rfl (by decide) rfl (by simp [wrd, Value.category]) (by simp [stk, Value.category]) rfl (by decide +kernel) ho
theorem c192_13 : cod 192 13 = some (.goto 9, 3) := cod_of b192 dX8_is_13
theorem t192_13 {d : Nat} {h : Hp} {Q : Pst} {ls : List Value} {st : List Value} : T d 192 13 ls st h Q ↔ T d 192 22 ls st h Q := T_goto c192_13 (by decide)
theorem c192_22 : cod 192 22 = some (.ireturn, 1) := cod_of b192 dX8_is_22
theorem t192_22 {d : Nat} {h : Hp} {Q : Pst} {x : Int32} {ls : List Value} : T d 192 22 ls [.int x] h Q ↔ Q (some (.int x)) h := T_iretR m192 c192_22 rfl
theorem c192_16 : cod 192 16 = some (.aload_n 0, 1) := cod_of b192 dX8_is_16
theorem t192_16 {d : Nat} {h : Hp} {Q : Pst} {l1 : Value} {x : Nat} {st : List Value} : T d 192 16 [.ref x, l1] st h Q ↔ T d 192 17 [.ref x, l1] (.ref x :: st) h Q := T_aload_n c192_16 rfl
theorem c192_17 : cod 192 17 = some (.bipush (-2), 2) := cod_of b192 dX8_is_17
theorem t192_17 {d : Nat} {h : Hp} {Q : Pst} {ls : List Value} {st : List Value} : T d 192 17 ls st h Q ↔ T d 192 19 ls (.int (-2) :: st) h Q := T_bipushV c192_17 (by decide)
theorem c192_19 : cod 192 19 = some (.invokevirtual 45, 3) := cod_of b192 dX8_is_19
theorem t192_19 {d : Nat} {h : Hp} {Q : Pst} {a0 : Int32} {a : Nat} {ls : List Value} (ho : isO (h.2.2 a) 7) : T (d + 1) 192 19 ls [.int a0, .ref a] h Q ↔ T d 129 0 [.ref a, .int a0] [] h (fun x h2 => T (d + 1) 192 22 ls (rl x []) h2 Q) := T_virtualR (as := [.int a0]) (r := []) m192 m129 c192_19 k8_45  rfl (by decide) rfl (by simp [wrd, Value.category]) (by simp [stk, Value.category]) rfl (by decide +kernel) ho
theorem b193 : (mR 193).2.2.1 = cX8_mostAlike := by rw [m193]
theorem c193_0 : cod 193 0 = some (.iconst 0, 1) := cod_of b193 dX8_mostAlike_0
theorem t193_0 {d : Nat} {h : Hp} {Q : Pst} {ls : List Value} {st : List Value} : T d 193 0 ls st h Q ↔ T d 193 1 ls (.int 0 :: st) h Q := T_iconstV c193_0 (by decide)
theorem c193_1 : cod 193 1 = some (.istore_n 2, 1) := cod_of b193 dX8_mostAlike_1
theorem t193_1 {d : Nat} {h : Hp} {Q : Pst} {l0 l1 l2 l3 l4 l5 : Value} {x : Int32} {st : List Value} : T d 193 1 [l0, l1, l2, l3, l4, l5] (.int x :: st) h Q ↔ T d 193 2 [l0, kil l1, .int x, l3, l4, l5] st h Q := T_istore_n c193_1 (Nat.le_of_ble_eq_true rfl)
theorem c193_2 : cod 193 2 = some (.iconst 0, 1) := cod_of b193 dX8_mostAlike_2
theorem t193_2 {d : Nat} {h : Hp} {Q : Pst} {ls : List Value} {st : List Value} : T d 193 2 ls st h Q ↔ T d 193 3 ls (.int 0 :: st) h Q := T_iconstV c193_2 (by decide)
theorem c193_3 : cod 193 3 = some (.istore_n 3, 1) := cod_of b193 dX8_mostAlike_3
theorem t193_3 {d : Nat} {h : Hp} {Q : Pst} {l0 l1 l2 l3 l4 l5 : Value} {x : Int32} {st : List Value} : T d 193 3 [l0, l1, l2, l3, l4, l5] (.int x :: st) h Q ↔ T d 193 4 [l0, l1, kil l2, .int x, l4, l5] st h Q := T_istore_n c193_3 (Nat.le_of_ble_eq_true rfl)
theorem c193_4 : cod 193 4 = some (.iload_n 3, 1) := cod_of b193 dX8_mostAlike_4
theorem t193_4 {d : Nat} {h : Hp} {Q : Pst} {l0 l1 l2 l4 l5 : Value} {x : Int32} {st : List Value} : T d 193 4 [l0, l1, l2, .int x, l4, l5] st h Q ↔ T d 193 5 [l0, l1, l2, .int x, l4, l5] (.int x :: st) h Q := T_iload_n c193_4 rfl
theorem c193_5 : cod 193 5 = some (.bipush 6, 2) := cod_of b193 dX8_mostAlike_5
theorem t193_5 {d : Nat} {h : Hp} {Q : Pst} {ls : List Value} {st : List Value} : T d 193 5 ls st h Q ↔ T d 193 7 ls (.int 6 :: st) h Q := T_bipushV c193_5 (by decide)
theorem c193_7 : cod 193 7 = some (.if_icmp .ge 84, 3) := cod_of b193 dX8_mostAlike_7
theorem t193_7 {d : Nat} {h : Hp} {Q : Pst} {x y : Int32} {ls : List Value} {st : List Value} : T d 193 7 ls (.int y :: .int x :: st) h Q ↔ (if y ≤ x then T d 193 91 ls st h Q else T d 193 10 ls st h Q) := T_icmp_ge c193_7 (by decide)
theorem c193_10 : cod 193 10 = some (.iconst 0, 1) := cod_of b193 dX8_mostAlike_10
theorem t193_10 {d : Nat} {h : Hp} {Q : Pst} {ls : List Value} {st : List Value} : T d 193 10 ls st h Q ↔ T d 193 11 ls (.int 0 :: st) h Q := T_iconstV c193_10 (by decide)
theorem c193_11 : cod 193 11 = some (.istore 4, 2) := cod_of b193 dX8_mostAlike_11
theorem t193_11 {d : Nat} {h : Hp} {Q : Pst} {l0 l1 l2 l3 l4 l5 : Value} {x : Int32} {st : List Value} : T d 193 11 [l0, l1, l2, l3, l4, l5] (.int x :: st) h Q ↔ T d 193 13 [l0, l1, l2, kil l3, .int x, l5] st h Q := T_istore c193_11 (Nat.le_of_ble_eq_true rfl)
theorem c193_13 : cod 193 13 = some (.iconst 0, 1) := cod_of b193 dX8_mostAlike_13
theorem t193_13 {d : Nat} {h : Hp} {Q : Pst} {ls : List Value} {st : List Value} : T d 193 13 ls st h Q ↔ T d 193 14 ls (.int 0 :: st) h Q := T_iconstV c193_13 (by decide)
theorem c193_14 : cod 193 14 = some (.istore 5, 2) := cod_of b193 dX8_mostAlike_14
theorem t193_14 {d : Nat} {h : Hp} {Q : Pst} {l0 l1 l2 l3 l4 l5 : Value} {x : Int32} {st : List Value} : T d 193 14 [l0, l1, l2, l3, l4, l5] (.int x :: st) h Q ↔ T d 193 16 [l0, l1, l2, l3, kil l4, .int x] st h Q := T_istore c193_14 (Nat.le_of_ble_eq_true rfl)
theorem c193_16 : cod 193 16 = some (.iload 5, 2) := cod_of b193 dX8_mostAlike_16
theorem t193_16 {d : Nat} {h : Hp} {Q : Pst} {l0 l1 l2 l3 l4 : Value} {x : Int32} {st : List Value} : T d 193 16 [l0, l1, l2, l3, l4, .int x] st h Q ↔ T d 193 18 [l0, l1, l2, l3, l4, .int x] (.int x :: st) h Q := T_iload c193_16 rfl
theorem c193_18 : cod 193 18 = some (.bipush 6, 2) := cod_of b193 dX8_mostAlike_18
theorem t193_18 {d : Nat} {h : Hp} {Q : Pst} {ls : List Value} {st : List Value} : T d 193 18 ls st h Q ↔ T d 193 20 ls (.int 6 :: st) h Q := T_bipushV c193_18 (by decide)
theorem c193_20 : cod 193 20 = some (.if_icmp .ge 52, 3) := cod_of b193 dX8_mostAlike_20
theorem t193_20 {d : Nat} {h : Hp} {Q : Pst} {x y : Int32} {ls : List Value} {st : List Value} : T d 193 20 ls (.int y :: .int x :: st) h Q ↔ (if y ≤ x then T d 193 72 ls st h Q else T d 193 23 ls st h Q) := T_icmp_ge c193_20 (by decide)
theorem c193_23 : cod 193 23 = some (.iload 4, 2) := cod_of b193 dX8_mostAlike_23
theorem t193_23 {d : Nat} {h : Hp} {Q : Pst} {l0 l1 l2 l3 l5 : Value} {x : Int32} {st : List Value} : T d 193 23 [l0, l1, l2, l3, .int x, l5] st h Q ↔ T d 193 25 [l0, l1, l2, l3, .int x, l5] (.int x :: st) h Q := T_iload c193_23 rfl
theorem c193_25 : cod 193 25 = some (.iload_n 1, 1) := cod_of b193 dX8_mostAlike_25
theorem t193_25 {d : Nat} {h : Hp} {Q : Pst} {l0 l2 l3 l4 l5 : Value} {x : Int32} {st : List Value} : T d 193 25 [l0, .int x, l2, l3, l4, l5] st h Q ↔ T d 193 26 [l0, .int x, l2, l3, l4, l5] (.int x :: st) h Q := T_iload_n c193_25 rfl
theorem c193_26 : cod 193 26 = some (.iload_n 3, 1) := cod_of b193 dX8_mostAlike_26
theorem t193_26 {d : Nat} {h : Hp} {Q : Pst} {l0 l1 l2 l4 l5 : Value} {x : Int32} {st : List Value} : T d 193 26 [l0, l1, l2, .int x, l4, l5] st h Q ↔ T d 193 27 [l0, l1, l2, .int x, l4, l5] (.int x :: st) h Q := T_iload_n c193_26 rfl
theorem c193_27 : cod 193 27 = some (.invokestatic 172, 3) := cod_of b193 dX8_mostAlike_27
theorem t193_27 {d : Nat} {h : Hp} {Q : Pst} {a0 a1 s0 : Int32} {ls : List Value} : T (d + 1) 193 27 ls [.int a1, .int a0, .int s0] h Q ↔ T d 127 0 [.int a0, .int a1] [] h (fun x h2 => T (d + 1) 193 30 ls (rl x [.int s0]) h2 Q) := T_staticR (as := [.int a0, .int a1]) (r := [.int s0]) m193 m127 c193_27 k8_172 (Or.inl rfl) rfl (by decide) rfl (by simp [wrd, Value.category]) (by simp [stk, Value.category]) rfl
theorem c193_30 : cod 193 30 = some (.ifCond .eq 32, 3) := cod_of b193 dX8_mostAlike_30
theorem t193_30 {d : Nat} {h : Hp} {Q : Pst} {x : Int32} {ls : List Value} {st : List Value} : T d 193 30 ls (.int x :: st) h Q ↔ (if x = 0 then T d 193 62 ls st h Q else T d 193 33 ls st h Q) := T_if_eq c193_30 (by decide)
theorem c193_33 : cod 193 33 = some (.iload_n 1, 1) := cod_of b193 dX8_mostAlike_33
theorem t193_33 {d : Nat} {h : Hp} {Q : Pst} {l0 l2 l3 l4 l5 : Value} {x : Int32} {st : List Value} : T d 193 33 [l0, .int x, l2, l3, l4, l5] st h Q ↔ T d 193 34 [l0, .int x, l2, l3, l4, l5] (.int x :: st) h Q := T_iload_n c193_33 rfl
theorem c193_34 : cod 193 34 = some (.iload 5, 2) := cod_of b193 dX8_mostAlike_34
theorem t193_34 {d : Nat} {h : Hp} {Q : Pst} {l0 l1 l2 l3 l4 : Value} {x : Int32} {st : List Value} : T d 193 34 [l0, l1, l2, l3, l4, .int x] st h Q ↔ T d 193 36 [l0, l1, l2, l3, l4, .int x] (.int x :: st) h Q := T_iload c193_34 rfl
theorem c193_36 : cod 193 36 = some (.invokestatic 172, 3) := cod_of b193 dX8_mostAlike_36
theorem t193_36 {d : Nat} {h : Hp} {Q : Pst} {a0 a1 s0 : Int32} {ls : List Value} : T (d + 1) 193 36 ls [.int a1, .int a0, .int s0] h Q ↔ T d 127 0 [.int a0, .int a1] [] h (fun x h2 => T (d + 1) 193 39 ls (rl x [.int s0]) h2 Q) := T_staticR (as := [.int a0, .int a1]) (r := [.int s0]) m193 m127 c193_36 k8_172 (Or.inl rfl) rfl (by decide) rfl (by simp [wrd, Value.category]) (by simp [stk, Value.category]) rfl
theorem c193_39 : cod 193 39 = some (.ifCond .eq 23, 3) := cod_of b193 dX8_mostAlike_39
theorem t193_39 {d : Nat} {h : Hp} {Q : Pst} {x : Int32} {ls : List Value} {st : List Value} : T d 193 39 ls (.int x :: st) h Q ↔ (if x = 0 then T d 193 62 ls st h Q else T d 193 42 ls st h Q) := T_if_eq c193_39 (by decide)
theorem c193_42 : cod 193 42 = some (.aload_n 0, 1) := cod_of b193 dX8_mostAlike_42
theorem t193_42 {d : Nat} {h : Hp} {Q : Pst} {l1 l2 l3 l4 l5 : Value} {x : Nat} {st : List Value} : T d 193 42 [.ref x, l1, l2, l3, l4, l5] st h Q ↔ T d 193 43 [.ref x, l1, l2, l3, l4, l5] (.ref x :: st) h Q := T_aload_n c193_42 rfl
theorem c193_43 : cod 193 43 = some (.getfield 36, 3) := cod_of b193 dX8_mostAlike_43
theorem t193_43 {d : Nat} {h : Hp} {Q : Pst} {a : Nat} {ls : List Value} {st : List Value} : T d 193 43 ls (.ref a :: st) h Q ↔ gF (h.2.2 a) 7 15 (fun v => T d 193 46 ls (v :: st) h Q) := T_getfieldR m193 c193_43 f8_36
theorem c193_46 : cod 193 46 = some (.iload_n 3, 1) := cod_of b193 dX8_mostAlike_46
theorem t193_46 {d : Nat} {h : Hp} {Q : Pst} {l0 l1 l2 l4 l5 : Value} {x : Int32} {st : List Value} : T d 193 46 [l0, l1, l2, .int x, l4, l5] st h Q ↔ T d 193 47 [l0, l1, l2, .int x, l4, l5] (.int x :: st) h Q := T_iload_n c193_46 rfl
theorem c193_47 : cod 193 47 = some (.iaload, 1) := cod_of b193 dX8_mostAlike_47
theorem t193_47 {d : Nat} {h : Hp} {Q : Pst} {a : Nat} {i : Int32} {ls : List Value} {st : List Value} : T d 193 47 ls (.int i :: .ref a :: st) h Q ↔ aL (h.2.2 a) i (fun x => T d 193 48 ls (.int x :: st) h Q) := T_iaload c193_47
theorem c193_48 : cod 193 48 = some (.aload_n 0, 1) := cod_of b193 dX8_mostAlike_48
theorem t193_48 {d : Nat} {h : Hp} {Q : Pst} {l1 l2 l3 l4 l5 : Value} {x : Nat} {st : List Value} : T d 193 48 [.ref x, l1, l2, l3, l4, l5] st h Q ↔ T d 193 49 [.ref x, l1, l2, l3, l4, l5] (.ref x :: st) h Q := T_aload_n c193_48 rfl
theorem c193_49 : cod 193 49 = some (.getfield 36, 3) := cod_of b193 dX8_mostAlike_49
theorem t193_49 {d : Nat} {h : Hp} {Q : Pst} {a : Nat} {ls : List Value} {st : List Value} : T d 193 49 ls (.ref a :: st) h Q ↔ gF (h.2.2 a) 7 15 (fun v => T d 193 52 ls (v :: st) h Q) := T_getfieldR m193 c193_49 f8_36
theorem c193_52 : cod 193 52 = some (.iload 5, 2) := cod_of b193 dX8_mostAlike_52
theorem t193_52 {d : Nat} {h : Hp} {Q : Pst} {l0 l1 l2 l3 l4 : Value} {x : Int32} {st : List Value} : T d 193 52 [l0, l1, l2, l3, l4, .int x] st h Q ↔ T d 193 54 [l0, l1, l2, l3, l4, .int x] (.int x :: st) h Q := T_iload c193_52 rfl
theorem c193_54 : cod 193 54 = some (.iaload, 1) := cod_of b193 dX8_mostAlike_54
theorem t193_54 {d : Nat} {h : Hp} {Q : Pst} {a : Nat} {i : Int32} {ls : List Value} {st : List Value} : T d 193 54 ls (.int i :: .ref a :: st) h Q ↔ aL (h.2.2 a) i (fun x => T d 193 55 ls (.int x :: st) h Q) := T_iaload c193_54
theorem c193_55 : cod 193 55 = some (.if_icmp .ne 7, 3) := cod_of b193 dX8_mostAlike_55
theorem t193_55 {d : Nat} {h : Hp} {Q : Pst} {x y : Int32} {ls : List Value} {st : List Value} : T d 193 55 ls (.int y :: .int x :: st) h Q ↔ (if ¬ x = y then T d 193 62 ls st h Q else T d 193 58 ls st h Q) := T_icmp_ne c193_55 (by decide)
theorem c193_58 : cod 193 58 = some (.iconst 1, 1) := cod_of b193 dX8_mostAlike_58
theorem t193_58 {d : Nat} {h : Hp} {Q : Pst} {ls : List Value} {st : List Value} : T d 193 58 ls st h Q ↔ T d 193 59 ls (.int 1 :: st) h Q := T_iconstV c193_58 (by decide)
theorem c193_59 : cod 193 59 = some (.goto 4, 3) := cod_of b193 dX8_mostAlike_59
theorem t193_59 {d : Nat} {h : Hp} {Q : Pst} {ls : List Value} {st : List Value} : T d 193 59 ls st h Q ↔ T d 193 63 ls st h Q := T_goto c193_59 (by decide)
theorem c193_63 : cod 193 63 = some (.iadd, 1) := cod_of b193 dX8_mostAlike_63
theorem t193_63 {d : Nat} {h : Hp} {Q : Pst} {x y : Int32} {ls : List Value} {st : List Value} : T d 193 63 ls (.int y :: .int x :: st) h Q ↔ T d 193 64 ls (.int (x + y) :: st) h Q := T_iadd c193_63
theorem c193_64 : cod 193 64 = some (.istore 4, 2) := cod_of b193 dX8_mostAlike_64
theorem t193_64 {d : Nat} {h : Hp} {Q : Pst} {l0 l1 l2 l3 l4 l5 : Value} {x : Int32} {st : List Value} : T d 193 64 [l0, l1, l2, l3, l4, l5] (.int x :: st) h Q ↔ T d 193 66 [l0, l1, l2, kil l3, .int x, l5] st h Q := T_istore c193_64 (Nat.le_of_ble_eq_true rfl)
theorem c193_66 : cod 193 66 = some (.iinc 5 1, 3) := cod_of b193 dX8_mostAlike_66
theorem t193_66 {d : Nat} {h : Hp} {Q : Pst} {l0 l1 l2 l3 l4 : Value} {x : Int32} {st : List Value} : T d 193 66 [l0, l1, l2, l3, l4, .int x] st h Q ↔ T d 193 69 [l0, l1, l2, l3, kil l4, .int (x + 1)] st h Q := T_iincV c193_66 rfl (Nat.le_of_ble_eq_true rfl) (by decide) rfl
theorem c193_69 : cod 193 69 = some (.goto (-53), 3) := cod_of b193 dX8_mostAlike_69
theorem t193_69 {d : Nat} {h : Hp} {Q : Pst} {ls : List Value} {st : List Value} : T d 193 69 ls st h Q ↔ T d 193 16 ls st h Q := T_goto c193_69 (by decide)
theorem c193_62 : cod 193 62 = some (.iconst 0, 1) := cod_of b193 dX8_mostAlike_62
theorem t193_62 {d : Nat} {h : Hp} {Q : Pst} {ls : List Value} {st : List Value} : T d 193 62 ls st h Q ↔ T d 193 63 ls (.int 0 :: st) h Q := T_iconstV c193_62 (by decide)
theorem c193_72 : cod 193 72 = some (.iload 4, 2) := cod_of b193 dX8_mostAlike_72
theorem t193_72 {d : Nat} {h : Hp} {Q : Pst} {l0 l1 l2 l3 l5 : Value} {x : Int32} {st : List Value} : T d 193 72 [l0, l1, l2, l3, .int x, l5] st h Q ↔ T d 193 74 [l0, l1, l2, l3, .int x, l5] (.int x :: st) h Q := T_iload c193_72 rfl
theorem c193_74 : cod 193 74 = some (.iload_n 2, 1) := cod_of b193 dX8_mostAlike_74
theorem t193_74 {d : Nat} {h : Hp} {Q : Pst} {l0 l1 l3 l4 l5 : Value} {x : Int32} {st : List Value} : T d 193 74 [l0, l1, .int x, l3, l4, l5] st h Q ↔ T d 193 75 [l0, l1, .int x, l3, l4, l5] (.int x :: st) h Q := T_iload_n c193_74 rfl
theorem c193_75 : cod 193 75 = some (.if_icmp .le 8, 3) := cod_of b193 dX8_mostAlike_75
theorem t193_75 {d : Nat} {h : Hp} {Q : Pst} {x y : Int32} {ls : List Value} {st : List Value} : T d 193 75 ls (.int y :: .int x :: st) h Q ↔ (if x ≤ y then T d 193 83 ls st h Q else T d 193 78 ls st h Q) := T_icmp_le c193_75 (by decide)
theorem c193_78 : cod 193 78 = some (.iload 4, 2) := cod_of b193 dX8_mostAlike_78
theorem t193_78 {d : Nat} {h : Hp} {Q : Pst} {l0 l1 l2 l3 l5 : Value} {x : Int32} {st : List Value} : T d 193 78 [l0, l1, l2, l3, .int x, l5] st h Q ↔ T d 193 80 [l0, l1, l2, l3, .int x, l5] (.int x :: st) h Q := T_iload c193_78 rfl
theorem c193_80 : cod 193 80 = some (.goto 4, 3) := cod_of b193 dX8_mostAlike_80
theorem t193_80 {d : Nat} {h : Hp} {Q : Pst} {ls : List Value} {st : List Value} : T d 193 80 ls st h Q ↔ T d 193 84 ls st h Q := T_goto c193_80 (by decide)
theorem c193_84 : cod 193 84 = some (.istore_n 2, 1) := cod_of b193 dX8_mostAlike_84
theorem t193_84 {d : Nat} {h : Hp} {Q : Pst} {l0 l1 l2 l3 l4 l5 : Value} {x : Int32} {st : List Value} : T d 193 84 [l0, l1, l2, l3, l4, l5] (.int x :: st) h Q ↔ T d 193 85 [l0, kil l1, .int x, l3, l4, l5] st h Q := T_istore_n c193_84 (Nat.le_of_ble_eq_true rfl)
theorem c193_85 : cod 193 85 = some (.iinc 3 1, 3) := cod_of b193 dX8_mostAlike_85
theorem t193_85 {d : Nat} {h : Hp} {Q : Pst} {l0 l1 l2 l4 l5 : Value} {x : Int32} {st : List Value} : T d 193 85 [l0, l1, l2, .int x, l4, l5] st h Q ↔ T d 193 88 [l0, l1, kil l2, .int (x + 1), l4, l5] st h Q := T_iincV c193_85 rfl (Nat.le_of_ble_eq_true rfl) (by decide) rfl
theorem c193_88 : cod 193 88 = some (.goto (-84), 3) := cod_of b193 dX8_mostAlike_88
theorem t193_88 {d : Nat} {h : Hp} {Q : Pst} {ls : List Value} {st : List Value} : T d 193 88 ls st h Q ↔ T d 193 4 ls st h Q := T_goto c193_88 (by decide)
theorem c193_83 : cod 193 83 = some (.iload_n 2, 1) := cod_of b193 dX8_mostAlike_83
theorem t193_83 {d : Nat} {h : Hp} {Q : Pst} {l0 l1 l3 l4 l5 : Value} {x : Int32} {st : List Value} : T d 193 83 [l0, l1, .int x, l3, l4, l5] st h Q ↔ T d 193 84 [l0, l1, .int x, l3, l4, l5] (.int x :: st) h Q := T_iload_n c193_83 rfl
theorem c193_91 : cod 193 91 = some (.iload_n 2, 1) := cod_of b193 dX8_mostAlike_91
theorem t193_91 {d : Nat} {h : Hp} {Q : Pst} {l0 l1 l3 l4 l5 : Value} {x : Int32} {st : List Value} : T d 193 91 [l0, l1, .int x, l3, l4, l5] st h Q ↔ T d 193 92 [l0, l1, .int x, l3, l4, l5] (.int x :: st) h Q := T_iload_n c193_91 rfl
theorem c193_92 : cod 193 92 = some (.ireturn, 1) := cod_of b193 dX8_mostAlike_92
theorem t193_92 {d : Nat} {h : Hp} {Q : Pst} {x : Int32} {ls : List Value} : T d 193 92 ls [.int x] h Q ↔ Q (some (.int x)) h := T_iretR m193 c193_92 rfl
theorem b194 : (mR 194).2.2.1 = cX8_look := by rw [m194]
theorem c194_0 : cod 194 0 = some (.aload_n 0, 1) := cod_of b194 dX8_look_0
theorem t194_0 {d : Nat} {h : Hp} {Q : Pst} {l1 l2 l3 l4 l5 l6 : Value} {x : Nat} {st : List Value} : T d 194 0 [.ref x, l1, l2, l3, l4, l5, l6] st h Q ↔ T d 194 1 [.ref x, l1, l2, l3, l4, l5, l6] (.ref x :: st) h Q := T_aload_n c194_0 rfl
theorem c194_1 : cod 194 1 = some (.iload_n 1, 1) := cod_of b194 dX8_look_1
theorem t194_1 {d : Nat} {h : Hp} {Q : Pst} {l0 l2 l3 l4 l5 l6 : Value} {x : Int32} {st : List Value} : T d 194 1 [l0, .int x, l2, l3, l4, l5, l6] st h Q ↔ T d 194 2 [l0, .int x, l2, l3, l4, l5, l6] (.int x :: st) h Q := T_iload_n c194_1 rfl
theorem c194_2 : cod 194 2 = some (.invokevirtual 157, 3) := cod_of b194 dX8_look_2
theorem t194_2 {d : Nat} {h : Hp} {Q : Pst} {a0 : Int32} {a : Nat} {ls : List Value} (ho : isO (h.2.2 a) 7) : T (d + 1) 194 2 ls [.int a0, .ref a] h Q ↔ T d 163 0 [.ref a, .int a0] [] h (fun x h2 => T (d + 1) 194 5 ls (rl x []) h2 Q) := T_virtualR (as := [.int a0]) (r := []) m194 m163 c194_2 k8_157  rfl (by decide) rfl (by simp [wrd, Value.category]) (by simp [stk, Value.category]) rfl (by decide +kernel) ho
theorem c194_5 : cod 194 5 = some (.ifCond .ne 10, 3) := cod_of b194 dX8_look_5
theorem t194_5 {d : Nat} {h : Hp} {Q : Pst} {x : Int32} {ls : List Value} {st : List Value} : T d 194 5 ls (.int x :: st) h Q ↔ (if ¬ x = 0 then T d 194 15 ls st h Q else T d 194 8 ls st h Q) := T_if_ne c194_5 (by decide)
theorem c194_8 : cod 194 8 = some (.aload_n 0, 1) := cod_of b194 dX8_look_8
theorem t194_8 {d : Nat} {h : Hp} {Q : Pst} {l1 l2 l3 l4 l5 l6 : Value} {x : Nat} {st : List Value} : T d 194 8 [.ref x, l1, l2, l3, l4, l5, l6] st h Q ↔ T d 194 9 [.ref x, l1, l2, l3, l4, l5, l6] (.ref x :: st) h Q := T_aload_n c194_8 rfl
theorem c194_9 : cod 194 9 = some (.bipush (-2), 2) := cod_of b194 dX8_look_9
theorem t194_9 {d : Nat} {h : Hp} {Q : Pst} {ls : List Value} {st : List Value} : T d 194 9 ls st h Q ↔ T d 194 11 ls (.int (-2) :: st) h Q := T_bipushV c194_9 (by decide)
theorem c194_11 : cod 194 11 = some (.invokevirtual 45, 3) := cod_of b194 dX8_look_11
theorem t194_11 {d : Nat} {h : Hp} {Q : Pst} {a0 : Int32} {a : Nat} {ls : List Value} (ho : isO (h.2.2 a) 7) : T (d + 1) 194 11 ls [.int a0, .ref a] h Q ↔ T d 129 0 [.ref a, .int a0] [] h (fun x h2 => T (d + 1) 194 14 ls (rl x []) h2 Q) := T_virtualR (as := [.int a0]) (r := []) m194 m129 c194_11 k8_45  rfl (by decide) rfl (by simp [wrd, Value.category]) (by simp [stk, Value.category]) rfl (by decide +kernel) ho
theorem c194_14 : cod 194 14 = some (.ireturn, 1) := cod_of b194 dX8_look_14
theorem t194_14 {d : Nat} {h : Hp} {Q : Pst} {x : Int32} {ls : List Value} : T d 194 14 ls [.int x] h Q ↔ Q (some (.int x)) h := T_iretR m194 c194_14 rfl
theorem c194_15 : cod 194 15 = some (.aload_n 0, 1) := cod_of b194 dX8_look_15
theorem t194_15 {d : Nat} {h : Hp} {Q : Pst} {l1 l2 l3 l4 l5 l6 : Value} {x : Nat} {st : List Value} : T d 194 15 [.ref x, l1, l2, l3, l4, l5, l6] st h Q ↔ T d 194 16 [.ref x, l1, l2, l3, l4, l5, l6] (.ref x :: st) h Q := T_aload_n c194_15 rfl
theorem c194_16 : cod 194 16 = some (.iload_n 1, 1) := cod_of b194 dX8_look_16
theorem t194_16 {d : Nat} {h : Hp} {Q : Pst} {l0 l2 l3 l4 l5 l6 : Value} {x : Int32} {st : List Value} : T d 194 16 [l0, .int x, l2, l3, l4, l5, l6] st h Q ↔ T d 194 17 [l0, .int x, l2, l3, l4, l5, l6] (.int x :: st) h Q := T_iload_n c194_16 rfl
theorem c194_17 : cod 194 17 = some (.invokevirtual 191, 3) := cod_of b194 dX8_look_17
theorem t194_17 {d : Nat} {h : Hp} {Q : Pst} {a0 : Int32} {a : Nat} {ls : List Value} (ho : isO (h.2.2 a) 7) : T (d + 1) 194 17 ls [.int a0, .ref a] h Q ↔ T d 191 0 [.ref a, .int a0, un, un, un, un] [] h (fun x h2 => T (d + 1) 194 20 ls (rl x []) h2 Q) := T_virtualR (as := [.int a0]) (r := []) m194 m191 c194_17 k8_191  rfl (by decide) rfl (by simp [wrd, Value.category]) (by simp [stk, Value.category]) rfl (by decide +kernel) ho
theorem c194_20 : cod 194 20 = some (.istore_n 2, 1) := cod_of b194 dX8_look_20
theorem t194_20 {d : Nat} {h : Hp} {Q : Pst} {l0 l1 l2 l3 l4 l5 l6 : Value} {x : Int32} {st : List Value} : T d 194 20 [l0, l1, l2, l3, l4, l5, l6] (.int x :: st) h Q ↔ T d 194 21 [l0, kil l1, .int x, l3, l4, l5, l6] st h Q := T_istore_n c194_20 (Nat.le_of_ble_eq_true rfl)
theorem c194_21 : cod 194 21 = some (.iconst (-1), 1) := cod_of b194 dX8_look_21
theorem t194_21 {d : Nat} {h : Hp} {Q : Pst} {ls : List Value} {st : List Value} : T d 194 21 ls st h Q ↔ T d 194 22 ls (.int (-1) :: st) h Q := T_iconstV c194_21 (by decide)
theorem c194_22 : cod 194 22 = some (.istore_n 3, 1) := cod_of b194 dX8_look_22
theorem t194_22 {d : Nat} {h : Hp} {Q : Pst} {l0 l1 l2 l3 l4 l5 l6 : Value} {x : Int32} {st : List Value} : T d 194 22 [l0, l1, l2, l3, l4, l5, l6] (.int x :: st) h Q ↔ T d 194 23 [l0, l1, kil l2, .int x, l4, l5, l6] st h Q := T_istore_n c194_22 (Nat.le_of_ble_eq_true rfl)
theorem c194_23 : cod 194 23 = some (.bipush 99, 2) := cod_of b194 dX8_look_23
theorem t194_23 {d : Nat} {h : Hp} {Q : Pst} {ls : List Value} {st : List Value} : T d 194 23 ls st h Q ↔ T d 194 25 ls (.int 99 :: st) h Q := T_bipushV c194_23 (by decide)
theorem c194_25 : cod 194 25 = some (.istore 4, 2) := cod_of b194 dX8_look_25
theorem t194_25 {d : Nat} {h : Hp} {Q : Pst} {l0 l1 l2 l3 l4 l5 l6 : Value} {x : Int32} {st : List Value} : T d 194 25 [l0, l1, l2, l3, l4, l5, l6] (.int x :: st) h Q ↔ T d 194 27 [l0, l1, l2, kil l3, .int x, l5, l6] st h Q := T_istore c194_25 (Nat.le_of_ble_eq_true rfl)
theorem c194_27 : cod 194 27 = some (.iconst 0, 1) := cod_of b194 dX8_look_27
theorem t194_27 {d : Nat} {h : Hp} {Q : Pst} {ls : List Value} {st : List Value} : T d 194 27 ls st h Q ↔ T d 194 28 ls (.int 0 :: st) h Q := T_iconstV c194_27 (by decide)
theorem c194_28 : cod 194 28 = some (.istore 5, 2) := cod_of b194 dX8_look_28
theorem t194_28 {d : Nat} {h : Hp} {Q : Pst} {l0 l1 l2 l3 l4 l5 l6 : Value} {x : Int32} {st : List Value} : T d 194 28 [l0, l1, l2, l3, l4, l5, l6] (.int x :: st) h Q ↔ T d 194 30 [l0, l1, l2, l3, kil l4, .int x, l6] st h Q := T_istore c194_28 (Nat.le_of_ble_eq_true rfl)
theorem c194_30 : cod 194 30 = some (.iload 5, 2) := cod_of b194 dX8_look_30
theorem t194_30 {d : Nat} {h : Hp} {Q : Pst} {l0 l1 l2 l3 l4 l6 : Value} {x : Int32} {st : List Value} : T d 194 30 [l0, l1, l2, l3, l4, .int x, l6] st h Q ↔ T d 194 32 [l0, l1, l2, l3, l4, .int x, l6] (.int x :: st) h Q := T_iload c194_30 rfl
theorem c194_32 : cod 194 32 = some (.iconst 5, 1) := cod_of b194 dX8_look_32
theorem t194_32 {d : Nat} {h : Hp} {Q : Pst} {ls : List Value} {st : List Value} : T d 194 32 ls st h Q ↔ T d 194 33 ls (.int 5 :: st) h Q := T_iconstV c194_32 (by decide)
theorem c194_33 : cod 194 33 = some (.if_icmp .ge 89, 3) := cod_of b194 dX8_look_33
theorem t194_33 {d : Nat} {h : Hp} {Q : Pst} {x y : Int32} {ls : List Value} {st : List Value} : T d 194 33 ls (.int y :: .int x :: st) h Q ↔ (if y ≤ x then T d 194 122 ls st h Q else T d 194 36 ls st h Q) := T_icmp_ge c194_33 (by decide)
theorem c194_36 : cod 194 36 = some (.iload_n 2, 1) := cod_of b194 dX8_look_36
theorem t194_36 {d : Nat} {h : Hp} {Q : Pst} {l0 l1 l3 l4 l5 l6 : Value} {x : Int32} {st : List Value} : T d 194 36 [l0, l1, .int x, l3, l4, l5, l6] st h Q ↔ T d 194 37 [l0, l1, .int x, l3, l4, l5, l6] (.int x :: st) h Q := T_iload_n c194_36 rfl
theorem c194_37 : cod 194 37 = some (.ifCond .eq 85, 3) := cod_of b194 dX8_look_37
theorem t194_37 {d : Nat} {h : Hp} {Q : Pst} {x : Int32} {ls : List Value} {st : List Value} : T d 194 37 ls (.int x :: st) h Q ↔ (if x = 0 then T d 194 122 ls st h Q else T d 194 40 ls st h Q) := T_if_eq c194_37 (by decide)
theorem c194_40 : cod 194 40 = some (.iconst 0, 1) := cod_of b194 dX8_look_40
theorem t194_40 {d : Nat} {h : Hp} {Q : Pst} {ls : List Value} {st : List Value} : T d 194 40 ls st h Q ↔ T d 194 41 ls (.int 0 :: st) h Q := T_iconstV c194_40 (by decide)
theorem c194_41 : cod 194 41 = some (.istore 6, 2) := cod_of b194 dX8_look_41
theorem t194_41 {d : Nat} {h : Hp} {Q : Pst} {l0 l1 l2 l3 l4 l5 l6 : Value} {x : Int32} {st : List Value} : T d 194 41 [l0, l1, l2, l3, l4, l5, l6] (.int x :: st) h Q ↔ T d 194 43 [l0, l1, l2, l3, l4, kil l5, .int x] st h Q := T_istore c194_41 (Nat.le_of_ble_eq_true rfl)
theorem c194_43 : cod 194 43 = some (.iload 6, 2) := cod_of b194 dX8_look_43
theorem t194_43 {d : Nat} {h : Hp} {Q : Pst} {l0 l1 l2 l3 l4 l5 : Value} {x : Int32} {st : List Value} : T d 194 43 [l0, l1, l2, l3, l4, l5, .int x] st h Q ↔ T d 194 45 [l0, l1, l2, l3, l4, l5, .int x] (.int x :: st) h Q := T_iload c194_43 rfl
theorem c194_45 : cod 194 45 = some (.bipush 6, 2) := cod_of b194 dX8_look_45
theorem t194_45 {d : Nat} {h : Hp} {Q : Pst} {ls : List Value} {st : List Value} : T d 194 45 ls st h Q ↔ T d 194 47 ls (.int 6 :: st) h Q := T_bipushV c194_45 (by decide)
theorem c194_47 : cod 194 47 = some (.if_icmp .ge 32, 3) := cod_of b194 dX8_look_47
theorem t194_47 {d : Nat} {h : Hp} {Q : Pst} {x y : Int32} {ls : List Value} {st : List Value} : T d 194 47 ls (.int y :: .int x :: st) h Q ↔ (if y ≤ x then T d 194 79 ls st h Q else T d 194 50 ls st h Q) := T_icmp_ge c194_47 (by decide)
theorem c194_50 : cod 194 50 = some (.aload_n 0, 1) := cod_of b194 dX8_look_50
theorem t194_50 {d : Nat} {h : Hp} {Q : Pst} {l1 l2 l3 l4 l5 l6 : Value} {x : Nat} {st : List Value} : T d 194 50 [.ref x, l1, l2, l3, l4, l5, l6] st h Q ↔ T d 194 51 [.ref x, l1, l2, l3, l4, l5, l6] (.ref x :: st) h Q := T_aload_n c194_50 rfl
theorem c194_51 : cod 194 51 = some (.getfield 36, 3) := cod_of b194 dX8_look_51
theorem t194_51 {d : Nat} {h : Hp} {Q : Pst} {a : Nat} {ls : List Value} {st : List Value} : T d 194 51 ls (.ref a :: st) h Q ↔ gF (h.2.2 a) 7 15 (fun v => T d 194 54 ls (v :: st) h Q) := T_getfieldR m194 c194_51 f8_36
theorem c194_54 : cod 194 54 = some (.iload 6, 2) := cod_of b194 dX8_look_54
theorem t194_54 {d : Nat} {h : Hp} {Q : Pst} {l0 l1 l2 l3 l4 l5 : Value} {x : Int32} {st : List Value} : T d 194 54 [l0, l1, l2, l3, l4, l5, .int x] st h Q ↔ T d 194 56 [l0, l1, l2, l3, l4, l5, .int x] (.int x :: st) h Q := T_iload c194_54 rfl
theorem c194_56 : cod 194 56 = some (.iload 6, 2) := cod_of b194 dX8_look_56
theorem t194_56 {d : Nat} {h : Hp} {Q : Pst} {l0 l1 l2 l3 l4 l5 : Value} {x : Int32} {st : List Value} : T d 194 56 [l0, l1, l2, l3, l4, l5, .int x] st h Q ↔ T d 194 58 [l0, l1, l2, l3, l4, l5, .int x] (.int x :: st) h Q := T_iload c194_56 rfl
theorem c194_58 : cod 194 58 = some (.aload_n 0, 1) := cod_of b194 dX8_look_58
theorem t194_58 {d : Nat} {h : Hp} {Q : Pst} {l1 l2 l3 l4 l5 l6 : Value} {x : Nat} {st : List Value} : T d 194 58 [.ref x, l1, l2, l3, l4, l5, l6] st h Q ↔ T d 194 59 [.ref x, l1, l2, l3, l4, l5, l6] (.ref x :: st) h Q := T_aload_n c194_58 rfl
theorem c194_59 : cod 194 59 = some (.getfield 7, 3) := cod_of b194 dX8_look_59
theorem t194_59 {d : Nat} {h : Hp} {Q : Pst} {a : Nat} {ls : List Value} {st : List Value} : T d 194 59 ls (.ref a :: st) h Q ↔ gF (h.2.2 a) 7 0 (fun v => T d 194 62 ls (v :: st) h Q) := T_getfieldR m194 c194_59 f8_7
theorem c194_62 : cod 194 62 = some (.bipush 19, 2) := cod_of b194 dX8_look_62
theorem t194_62 {d : Nat} {h : Hp} {Q : Pst} {ls : List Value} {st : List Value} : T d 194 62 ls st h Q ↔ T d 194 64 ls (.int 19 :: st) h Q := T_bipushV c194_62 (by decide)
theorem c194_64 : cod 194 64 = some (.iload_n 1, 1) := cod_of b194 dX8_look_64
theorem t194_64 {d : Nat} {h : Hp} {Q : Pst} {l0 l2 l3 l4 l5 l6 : Value} {x : Int32} {st : List Value} : T d 194 64 [l0, .int x, l2, l3, l4, l5, l6] st h Q ↔ T d 194 65 [l0, .int x, l2, l3, l4, l5, l6] (.int x :: st) h Q := T_iload_n c194_64 rfl
theorem c194_65 : cod 194 65 = some (.iadd, 1) := cod_of b194 dX8_look_65
theorem t194_65 {d : Nat} {h : Hp} {Q : Pst} {x y : Int32} {ls : List Value} {st : List Value} : T d 194 65 ls (.int y :: .int x :: st) h Q ↔ T d 194 66 ls (.int (x + y) :: st) h Q := T_iadd c194_65
theorem c194_66 : cod 194 66 = some (.iaload, 1) := cod_of b194 dX8_look_66
theorem t194_66 {d : Nat} {h : Hp} {Q : Pst} {a : Nat} {i : Int32} {ls : List Value} {st : List Value} : T d 194 66 ls (.int i :: .ref a :: st) h Q ↔ aL (h.2.2 a) i (fun x => T d 194 67 ls (.int x :: st) h Q) := T_iaload c194_66
theorem c194_67 : cod 194 67 = some (.iload 5, 2) := cod_of b194 dX8_look_67
theorem t194_67 {d : Nat} {h : Hp} {Q : Pst} {l0 l1 l2 l3 l4 l6 : Value} {x : Int32} {st : List Value} : T d 194 67 [l0, l1, l2, l3, l4, .int x, l6] st h Q ↔ T d 194 69 [l0, l1, l2, l3, l4, .int x, l6] (.int x :: st) h Q := T_iload c194_67 rfl
theorem c194_69 : cod 194 69 = some (.invokestatic 132, 3) := cod_of b194 dX8_look_69
theorem t194_69 {d : Nat} {h : Hp} {Q : Pst} {a0 a1 a2 s0 : Int32} {s1 : Nat} {ls : List Value} : T (d + 1) 194 69 ls [.int a2, .int a1, .int a0, .int s0, .ref s1] h Q ↔ T d 152 0 [.int a0, .int a1, .int a2, un] [] h (fun x h2 => T (d + 1) 194 72 ls (rl x [.int s0, .ref s1]) h2 Q) := T_staticR (as := [.int a0, .int a1, .int a2]) (r := [.int s0, .ref s1]) m194 m152 c194_69 k8_132 (Or.inl rfl) rfl (by decide) rfl (by simp [wrd, Value.category]) (by simp [stk, Value.category]) rfl
theorem c194_72 : cod 194 72 = some (.iastore, 1) := cod_of b194 dX8_look_72
theorem t194_72 {d : Nat} {h : Hp} {Q : Pst} {a : Nat} {i x : Int32} {ls : List Value} {st : List Value} : T d 194 72 ls (.int x :: .int i :: .ref a :: st) h Q ↔ aS (h.2.2 a) i x (fun cell => T d 194 73 ls st (hup h a cell) Q) := T_iastore c194_72
theorem c194_73 : cod 194 73 = some (.iinc 6 1, 3) := cod_of b194 dX8_look_73
theorem t194_73 {d : Nat} {h : Hp} {Q : Pst} {l0 l1 l2 l3 l4 l5 : Value} {x : Int32} {st : List Value} : T d 194 73 [l0, l1, l2, l3, l4, l5, .int x] st h Q ↔ T d 194 76 [l0, l1, l2, l3, l4, kil l5, .int (x + 1)] st h Q := T_iincV c194_73 rfl (Nat.le_of_ble_eq_true rfl) (by decide) rfl
theorem c194_76 : cod 194 76 = some (.goto (-33), 3) := cod_of b194 dX8_look_76
theorem t194_76 {d : Nat} {h : Hp} {Q : Pst} {ls : List Value} {st : List Value} : T d 194 76 ls st h Q ↔ T d 194 43 ls st h Q := T_goto c194_76 (by decide)
theorem c194_79 : cod 194 79 = some (.aload_n 0, 1) := cod_of b194 dX8_look_79
theorem t194_79 {d : Nat} {h : Hp} {Q : Pst} {l1 l2 l3 l4 l5 l6 : Value} {x : Nat} {st : List Value} : T d 194 79 [.ref x, l1, l2, l3, l4, l5, l6] st h Q ↔ T d 194 80 [.ref x, l1, l2, l3, l4, l5, l6] (.ref x :: st) h Q := T_aload_n c194_79 rfl
theorem c194_80 : cod 194 80 = some (.iload_n 2, 1) := cod_of b194 dX8_look_80
theorem t194_80 {d : Nat} {h : Hp} {Q : Pst} {l0 l1 l3 l4 l5 l6 : Value} {x : Int32} {st : List Value} : T d 194 80 [l0, l1, .int x, l3, l4, l5, l6] st h Q ↔ T d 194 81 [l0, l1, .int x, l3, l4, l5, l6] (.int x :: st) h Q := T_iload_n c194_80 rfl
theorem c194_81 : cod 194 81 = some (.invokevirtual 194, 3) := cod_of b194 dX8_look_81
theorem t194_81 {d : Nat} {h : Hp} {Q : Pst} {a0 : Int32} {a : Nat} {ls : List Value} (ho : isO (h.2.2 a) 7) : T (d + 1) 194 81 ls [.int a0, .ref a] h Q ↔ T d 193 0 [.ref a, .int a0, un, un, un, un] [] h (fun x h2 => T (d + 1) 194 84 ls (rl x []) h2 Q) := T_virtualR (as := [.int a0]) (r := []) m194 m193 c194_81 k8_194  rfl (by decide) rfl (by simp [wrd, Value.category]) (by simp [stk, Value.category]) rfl (by decide +kernel) ho
theorem c194_84 : cod 194 84 = some (.istore 6, 2) := cod_of b194 dX8_look_84
theorem t194_84 {d : Nat} {h : Hp} {Q : Pst} {l0 l1 l2 l3 l4 l5 l6 : Value} {x : Int32} {st : List Value} : T d 194 84 [l0, l1, l2, l3, l4, l5, l6] (.int x :: st) h Q ↔ T d 194 86 [l0, l1, l2, l3, l4, kil l5, .int x] st h Q := T_istore c194_84 (Nat.le_of_ble_eq_true rfl)
theorem c194_86 : cod 194 86 = some (.iload 6, 2) := cod_of b194 dX8_look_86
theorem t194_86 {d : Nat} {h : Hp} {Q : Pst} {l0 l1 l2 l3 l4 l5 : Value} {x : Int32} {st : List Value} : T d 194 86 [l0, l1, l2, l3, l4, l5, .int x] st h Q ↔ T d 194 88 [l0, l1, l2, l3, l4, l5, .int x] (.int x :: st) h Q := T_iload c194_86 rfl
theorem c194_88 : cod 194 88 = some (.iload 4, 2) := cod_of b194 dX8_look_88
theorem t194_88 {d : Nat} {h : Hp} {Q : Pst} {l0 l1 l2 l3 l5 l6 : Value} {x : Int32} {st : List Value} : T d 194 88 [l0, l1, l2, l3, .int x, l5, l6] st h Q ↔ T d 194 90 [l0, l1, l2, l3, .int x, l5, l6] (.int x :: st) h Q := T_iload c194_88 rfl
theorem c194_90 : cod 194 90 = some (.if_icmp .ge 8, 3) := cod_of b194 dX8_look_90
theorem t194_90 {d : Nat} {h : Hp} {Q : Pst} {x y : Int32} {ls : List Value} {st : List Value} : T d 194 90 ls (.int y :: .int x :: st) h Q ↔ (if y ≤ x then T d 194 98 ls st h Q else T d 194 93 ls st h Q) := T_icmp_ge c194_90 (by decide)
theorem c194_93 : cod 194 93 = some (.iload 5, 2) := cod_of b194 dX8_look_93
theorem t194_93 {d : Nat} {h : Hp} {Q : Pst} {l0 l1 l2 l3 l4 l6 : Value} {x : Int32} {st : List Value} : T d 194 93 [l0, l1, l2, l3, l4, .int x, l6] st h Q ↔ T d 194 95 [l0, l1, l2, l3, l4, .int x, l6] (.int x :: st) h Q := T_iload c194_93 rfl
theorem c194_95 : cod 194 95 = some (.goto 4, 3) := cod_of b194 dX8_look_95
theorem t194_95 {d : Nat} {h : Hp} {Q : Pst} {ls : List Value} {st : List Value} : T d 194 95 ls st h Q ↔ T d 194 99 ls st h Q := T_goto c194_95 (by decide)
theorem c194_99 : cod 194 99 = some (.istore_n 3, 1) := cod_of b194 dX8_look_99
theorem t194_99 {d : Nat} {h : Hp} {Q : Pst} {l0 l1 l2 l3 l4 l5 l6 : Value} {x : Int32} {st : List Value} : T d 194 99 [l0, l1, l2, l3, l4, l5, l6] (.int x :: st) h Q ↔ T d 194 100 [l0, l1, kil l2, .int x, l4, l5, l6] st h Q := T_istore_n c194_99 (Nat.le_of_ble_eq_true rfl)
theorem c194_100 : cod 194 100 = some (.iload 6, 2) := cod_of b194 dX8_look_100
theorem t194_100 {d : Nat} {h : Hp} {Q : Pst} {l0 l1 l2 l3 l4 l5 : Value} {x : Int32} {st : List Value} : T d 194 100 [l0, l1, l2, l3, l4, l5, .int x] st h Q ↔ T d 194 102 [l0, l1, l2, l3, l4, l5, .int x] (.int x :: st) h Q := T_iload c194_100 rfl
theorem c194_102 : cod 194 102 = some (.iload 4, 2) := cod_of b194 dX8_look_102
theorem t194_102 {d : Nat} {h : Hp} {Q : Pst} {l0 l1 l2 l3 l5 l6 : Value} {x : Int32} {st : List Value} : T d 194 102 [l0, l1, l2, l3, .int x, l5, l6] st h Q ↔ T d 194 104 [l0, l1, l2, l3, .int x, l5, l6] (.int x :: st) h Q := T_iload c194_102 rfl
theorem c194_104 : cod 194 104 = some (.if_icmp .ge 8, 3) := cod_of b194 dX8_look_104
theorem t194_104 {d : Nat} {h : Hp} {Q : Pst} {x y : Int32} {ls : List Value} {st : List Value} : T d 194 104 ls (.int y :: .int x :: st) h Q ↔ (if y ≤ x then T d 194 112 ls st h Q else T d 194 107 ls st h Q) := T_icmp_ge c194_104 (by decide)
theorem c194_107 : cod 194 107 = some (.iload 6, 2) := cod_of b194 dX8_look_107
theorem t194_107 {d : Nat} {h : Hp} {Q : Pst} {l0 l1 l2 l3 l4 l5 : Value} {x : Int32} {st : List Value} : T d 194 107 [l0, l1, l2, l3, l4, l5, .int x] st h Q ↔ T d 194 109 [l0, l1, l2, l3, l4, l5, .int x] (.int x :: st) h Q := T_iload c194_107 rfl
theorem c194_109 : cod 194 109 = some (.goto 5, 3) := cod_of b194 dX8_look_109
theorem t194_109 {d : Nat} {h : Hp} {Q : Pst} {ls : List Value} {st : List Value} : T d 194 109 ls st h Q ↔ T d 194 114 ls st h Q := T_goto c194_109 (by decide)
theorem c194_114 : cod 194 114 = some (.istore 4, 2) := cod_of b194 dX8_look_114
theorem t194_114 {d : Nat} {h : Hp} {Q : Pst} {l0 l1 l2 l3 l4 l5 l6 : Value} {x : Int32} {st : List Value} : T d 194 114 [l0, l1, l2, l3, l4, l5, l6] (.int x :: st) h Q ↔ T d 194 116 [l0, l1, l2, kil l3, .int x, l5, l6] st h Q := T_istore c194_114 (Nat.le_of_ble_eq_true rfl)
theorem c194_116 : cod 194 116 = some (.iinc 5 1, 3) := cod_of b194 dX8_look_116
theorem t194_116 {d : Nat} {h : Hp} {Q : Pst} {l0 l1 l2 l3 l4 l6 : Value} {x : Int32} {st : List Value} : T d 194 116 [l0, l1, l2, l3, l4, .int x, l6] st h Q ↔ T d 194 119 [l0, l1, l2, l3, kil l4, .int (x + 1), l6] st h Q := T_iincV c194_116 rfl (Nat.le_of_ble_eq_true rfl) (by decide) rfl
theorem c194_119 : cod 194 119 = some (.goto (-89), 3) := cod_of b194 dX8_look_119
theorem t194_119 {d : Nat} {h : Hp} {Q : Pst} {ls : List Value} {st : List Value} : T d 194 119 ls st h Q ↔ T d 194 30 ls st h Q := T_goto c194_119 (by decide)
theorem c194_112 : cod 194 112 = some (.iload 4, 2) := cod_of b194 dX8_look_112
theorem t194_112 {d : Nat} {h : Hp} {Q : Pst} {l0 l1 l2 l3 l5 l6 : Value} {x : Int32} {st : List Value} : T d 194 112 [l0, l1, l2, l3, .int x, l5, l6] st h Q ↔ T d 194 114 [l0, l1, l2, l3, .int x, l5, l6] (.int x :: st) h Q := T_iload c194_112 rfl
theorem c194_98 : cod 194 98 = some (.iload_n 3, 1) := cod_of b194 dX8_look_98
theorem t194_98 {d : Nat} {h : Hp} {Q : Pst} {l0 l1 l2 l4 l5 l6 : Value} {x : Int32} {st : List Value} : T d 194 98 [l0, l1, l2, .int x, l4, l5, l6] st h Q ↔ T d 194 99 [l0, l1, l2, .int x, l4, l5, l6] (.int x :: st) h Q := T_iload_n c194_98 rfl
theorem c194_122 : cod 194 122 = some (.iload_n 3, 1) := cod_of b194 dX8_look_122
theorem t194_122 {d : Nat} {h : Hp} {Q : Pst} {l0 l1 l2 l4 l5 l6 : Value} {x : Int32} {st : List Value} : T d 194 122 [l0, l1, l2, .int x, l4, l5, l6] st h Q ↔ T d 194 123 [l0, l1, l2, .int x, l4, l5, l6] (.int x :: st) h Q := T_iload_n c194_122 rfl
theorem c194_123 : cod 194 123 = some (.ireturn, 1) := cod_of b194 dX8_look_123
theorem t194_123 {d : Nat} {h : Hp} {Q : Pst} {x : Int32} {ls : List Value} : T d 194 123 ls [.int x] h Q ↔ Q (some (.int x)) h := T_iretR m194 c194_123 rfl
theorem b195 : (mR 195).2.2.1 = cX8_sievesOf := by rw [m195]
theorem c195_0 : cod 195 0 = some (.bipush 63, 2) := cod_of b195 dX8_sievesOf_0
theorem t195_0 {d : Nat} {h : Hp} {Q : Pst} {ls : List Value} {st : List Value} : T d 195 0 ls st h Q ↔ T d 195 2 ls (.int 63 :: st) h Q := T_bipushV c195_0 (by decide)
theorem c195_2 : cod 195 2 = some (.istore_n 2, 1) := cod_of b195 dX8_sievesOf_2
theorem t195_2 {d : Nat} {h : Hp} {Q : Pst} {l0 l1 l2 l3 l4 l5 : Value} {x : Int32} {st : List Value} : T d 195 2 [l0, l1, l2, l3, l4, l5] (.int x :: st) h Q ↔ T d 195 3 [l0, kil l1, .int x, l3, l4, l5] st h Q := T_istore_n c195_2 (Nat.le_of_ble_eq_true rfl)
theorem c195_3 : cod 195 3 = some (.bipush 81, 2) := cod_of b195 dX8_sievesOf_3
theorem t195_3 {d : Nat} {h : Hp} {Q : Pst} {ls : List Value} {st : List Value} : T d 195 3 ls st h Q ↔ T d 195 5 ls (.int 81 :: st) h Q := T_bipushV c195_3 (by decide)
theorem c195_5 : cod 195 5 = some (.istore_n 3, 1) := cod_of b195 dX8_sievesOf_5
theorem t195_5 {d : Nat} {h : Hp} {Q : Pst} {l0 l1 l2 l3 l4 l5 : Value} {x : Int32} {st : List Value} : T d 195 5 [l0, l1, l2, l3, l4, l5] (.int x :: st) h Q ↔ T d 195 6 [l0, l1, kil l2, .int x, l4, l5] st h Q := T_istore_n c195_5 (Nat.le_of_ble_eq_true rfl)
theorem c195_6 : cod 195 6 = some (.iload_n 3, 1) := cod_of b195 dX8_sievesOf_6
theorem t195_6 {d : Nat} {h : Hp} {Q : Pst} {l0 l1 l2 l4 l5 : Value} {x : Int32} {st : List Value} : T d 195 6 [l0, l1, l2, .int x, l4, l5] st h Q ↔ T d 195 7 [l0, l1, l2, .int x, l4, l5] (.int x :: st) h Q := T_iload_n c195_6 rfl
theorem c195_7 : cod 195 7 = some (.bipush 81, 2) := cod_of b195 dX8_sievesOf_7
theorem t195_7 {d : Nat} {h : Hp} {Q : Pst} {ls : List Value} {st : List Value} : T d 195 7 ls st h Q ↔ T d 195 9 ls (.int 81 :: st) h Q := T_bipushV c195_7 (by decide)
theorem c195_9 : cod 195 9 = some (.iconst 5, 1) := cod_of b195 dX8_sievesOf_9
theorem t195_9 {d : Nat} {h : Hp} {Q : Pst} {ls : List Value} {st : List Value} : T d 195 9 ls st h Q ↔ T d 195 10 ls (.int 5 :: st) h Q := T_iconstV c195_9 (by decide)
theorem c195_10 : cod 195 10 = some (.aload_n 0, 1) := cod_of b195 dX8_sievesOf_10
theorem t195_10 {d : Nat} {h : Hp} {Q : Pst} {l1 l2 l3 l4 l5 : Value} {x : Nat} {st : List Value} : T d 195 10 [.ref x, l1, l2, l3, l4, l5] st h Q ↔ T d 195 11 [.ref x, l1, l2, l3, l4, l5] (.ref x :: st) h Q := T_aload_n c195_10 rfl
theorem c195_11 : cod 195 11 = some (.getfield 7, 3) := cod_of b195 dX8_sievesOf_11
theorem t195_11 {d : Nat} {h : Hp} {Q : Pst} {a : Nat} {ls : List Value} {st : List Value} : T d 195 11 ls (.ref a :: st) h Q ↔ gF (h.2.2 a) 7 0 (fun v => T d 195 14 ls (v :: st) h Q) := T_getfieldR m195 c195_11 f8_7
theorem c195_14 : cod 195 14 = some (.bipush 80, 2) := cod_of b195 dX8_sievesOf_14
theorem t195_14 {d : Nat} {h : Hp} {Q : Pst} {ls : List Value} {st : List Value} : T d 195 14 ls st h Q ↔ T d 195 16 ls (.int 80 :: st) h Q := T_bipushV c195_14 (by decide)
theorem c195_16 : cod 195 16 = some (.iaload, 1) := cod_of b195 dX8_sievesOf_16
theorem t195_16 {d : Nat} {h : Hp} {Q : Pst} {a : Nat} {i : Int32} {ls : List Value} {st : List Value} : T d 195 16 ls (.int i :: .ref a :: st) h Q ↔ aL (h.2.2 a) i (fun x => T d 195 17 ls (.int x :: st) h Q) := T_iaload c195_16
theorem c195_17 : cod 195 17 = some (.imul, 1) := cod_of b195 dX8_sievesOf_17
theorem t195_17 {d : Nat} {h : Hp} {Q : Pst} {x y : Int32} {ls : List Value} {st : List Value} : T d 195 17 ls (.int y :: .int x :: st) h Q ↔ T d 195 18 ls (.int (x * y) :: st) h Q := T_imul c195_17
theorem c195_18 : cod 195 18 = some (.iadd, 1) := cod_of b195 dX8_sievesOf_18
theorem t195_18 {d : Nat} {h : Hp} {Q : Pst} {x y : Int32} {ls : List Value} {st : List Value} : T d 195 18 ls (.int y :: .int x :: st) h Q ↔ T d 195 19 ls (.int (x + y) :: st) h Q := T_iadd c195_18
theorem c195_19 : cod 195 19 = some (.if_icmp .ge 118, 3) := cod_of b195 dX8_sievesOf_19
theorem t195_19 {d : Nat} {h : Hp} {Q : Pst} {x y : Int32} {ls : List Value} {st : List Value} : T d 195 19 ls (.int y :: .int x :: st) h Q ↔ (if y ≤ x then T d 195 137 ls st h Q else T d 195 22 ls st h Q) := T_icmp_ge c195_19 (by decide)
theorem c195_22 : cod 195 22 = some (.iconst 0, 1) := cod_of b195 dX8_sievesOf_22
theorem t195_22 {d : Nat} {h : Hp} {Q : Pst} {ls : List Value} {st : List Value} : T d 195 22 ls st h Q ↔ T d 195 23 ls (.int 0 :: st) h Q := T_iconstV c195_22 (by decide)
theorem c195_23 : cod 195 23 = some (.istore 4, 2) := cod_of b195 dX8_sievesOf_23
theorem t195_23 {d : Nat} {h : Hp} {Q : Pst} {l0 l1 l2 l3 l4 l5 : Value} {x : Int32} {st : List Value} : T d 195 23 [l0, l1, l2, l3, l4, l5] (.int x :: st) h Q ↔ T d 195 25 [l0, l1, l2, kil l3, .int x, l5] st h Q := T_istore c195_23 (Nat.le_of_ble_eq_true rfl)
theorem c195_25 : cod 195 25 = some (.iload 4, 2) := cod_of b195 dX8_sievesOf_25
theorem t195_25 {d : Nat} {h : Hp} {Q : Pst} {l0 l1 l2 l3 l5 : Value} {x : Int32} {st : List Value} : T d 195 25 [l0, l1, l2, l3, .int x, l5] st h Q ↔ T d 195 27 [l0, l1, l2, l3, .int x, l5] (.int x :: st) h Q := T_iload c195_25 rfl
theorem c195_27 : cod 195 27 = some (.bipush 6, 2) := cod_of b195 dX8_sievesOf_27
theorem t195_27 {d : Nat} {h : Hp} {Q : Pst} {ls : List Value} {st : List Value} : T d 195 27 ls st h Q ↔ T d 195 29 ls (.int 6 :: st) h Q := T_bipushV c195_27 (by decide)
theorem c195_29 : cod 195 29 = some (.if_icmp .ge 102, 3) := cod_of b195 dX8_sievesOf_29
theorem t195_29 {d : Nat} {h : Hp} {Q : Pst} {x y : Int32} {ls : List Value} {st : List Value} : T d 195 29 ls (.int y :: .int x :: st) h Q ↔ (if y ≤ x then T d 195 131 ls st h Q else T d 195 32 ls st h Q) := T_icmp_ge c195_29 (by decide)
theorem c195_32 : cod 195 32 = some (.aload_n 0, 1) := cod_of b195 dX8_sievesOf_32
theorem t195_32 {d : Nat} {h : Hp} {Q : Pst} {l1 l2 l3 l4 l5 : Value} {x : Nat} {st : List Value} : T d 195 32 [.ref x, l1, l2, l3, l4, l5] st h Q ↔ T d 195 33 [.ref x, l1, l2, l3, l4, l5] (.ref x :: st) h Q := T_aload_n c195_32 rfl
theorem c195_33 : cod 195 33 = some (.getfield 7, 3) := cod_of b195 dX8_sievesOf_33
theorem t195_33 {d : Nat} {h : Hp} {Q : Pst} {a : Nat} {ls : List Value} {st : List Value} : T d 195 33 ls (.ref a :: st) h Q ↔ gF (h.2.2 a) 7 0 (fun v => T d 195 36 ls (v :: st) h Q) := T_getfieldR m195 c195_33 f8_7
theorem c195_36 : cod 195 36 = some (.iload_n 3, 1) := cod_of b195 dX8_sievesOf_36
theorem t195_36 {d : Nat} {h : Hp} {Q : Pst} {l0 l1 l2 l4 l5 : Value} {x : Int32} {st : List Value} : T d 195 36 [l0, l1, l2, .int x, l4, l5] st h Q ↔ T d 195 37 [l0, l1, l2, .int x, l4, l5] (.int x :: st) h Q := T_iload_n c195_36 rfl
theorem c195_37 : cod 195 37 = some (.iaload, 1) := cod_of b195 dX8_sievesOf_37
theorem t195_37 {d : Nat} {h : Hp} {Q : Pst} {a : Nat} {i : Int32} {ls : List Value} {st : List Value} : T d 195 37 ls (.int i :: .ref a :: st) h Q ↔ aL (h.2.2 a) i (fun x => T d 195 38 ls (.int x :: st) h Q) := T_iaload c195_37
theorem c195_38 : cod 195 38 = some (.iload_n 1, 1) := cod_of b195 dX8_sievesOf_38
theorem t195_38 {d : Nat} {h : Hp} {Q : Pst} {l0 l2 l3 l4 l5 : Value} {x : Int32} {st : List Value} : T d 195 38 [l0, .int x, l2, l3, l4, l5] st h Q ↔ T d 195 39 [l0, .int x, l2, l3, l4, l5] (.int x :: st) h Q := T_iload_n c195_38 rfl
theorem c195_39 : cod 195 39 = some (.if_icmp .ne 60, 3) := cod_of b195 dX8_sievesOf_39
theorem t195_39 {d : Nat} {h : Hp} {Q : Pst} {x y : Int32} {ls : List Value} {st : List Value} : T d 195 39 ls (.int y :: .int x :: st) h Q ↔ (if ¬ x = y then T d 195 99 ls st h Q else T d 195 42 ls st h Q) := T_icmp_ne c195_39 (by decide)
theorem c195_42 : cod 195 42 = some (.aload_n 0, 1) := cod_of b195 dX8_sievesOf_42
theorem t195_42 {d : Nat} {h : Hp} {Q : Pst} {l1 l2 l3 l4 l5 : Value} {x : Nat} {st : List Value} : T d 195 42 [.ref x, l1, l2, l3, l4, l5] st h Q ↔ T d 195 43 [.ref x, l1, l2, l3, l4, l5] (.ref x :: st) h Q := T_aload_n c195_42 rfl
theorem c195_43 : cod 195 43 = some (.getfield 7, 3) := cod_of b195 dX8_sievesOf_43
theorem t195_43 {d : Nat} {h : Hp} {Q : Pst} {a : Nat} {ls : List Value} {st : List Value} : T d 195 43 ls (.ref a :: st) h Q ↔ gF (h.2.2 a) 7 0 (fun v => T d 195 46 ls (v :: st) h Q) := T_getfieldR m195 c195_43 f8_7
theorem c195_46 : cod 195 46 = some (.iload_n 3, 1) := cod_of b195 dX8_sievesOf_46
theorem t195_46 {d : Nat} {h : Hp} {Q : Pst} {l0 l1 l2 l4 l5 : Value} {x : Int32} {st : List Value} : T d 195 46 [l0, l1, l2, .int x, l4, l5] st h Q ↔ T d 195 47 [l0, l1, l2, .int x, l4, l5] (.int x :: st) h Q := T_iload_n c195_46 rfl
theorem c195_47 : cod 195 47 = some (.iconst 3, 1) := cod_of b195 dX8_sievesOf_47
theorem t195_47 {d : Nat} {h : Hp} {Q : Pst} {ls : List Value} {st : List Value} : T d 195 47 ls st h Q ↔ T d 195 48 ls (.int 3 :: st) h Q := T_iconstV c195_47 (by decide)
theorem c195_48 : cod 195 48 = some (.iadd, 1) := cod_of b195 dX8_sievesOf_48
theorem t195_48 {d : Nat} {h : Hp} {Q : Pst} {x y : Int32} {ls : List Value} {st : List Value} : T d 195 48 ls (.int y :: .int x :: st) h Q ↔ T d 195 49 ls (.int (x + y) :: st) h Q := T_iadd c195_48
theorem c195_49 : cod 195 49 = some (.iaload, 1) := cod_of b195 dX8_sievesOf_49
theorem t195_49 {d : Nat} {h : Hp} {Q : Pst} {a : Nat} {i : Int32} {ls : List Value} {st : List Value} : T d 195 49 ls (.int i :: .ref a :: st) h Q ↔ aL (h.2.2 a) i (fun x => T d 195 50 ls (.int x :: st) h Q) := T_iaload c195_49
theorem c195_50 : cod 195 50 = some (.iload 4, 2) := cod_of b195 dX8_sievesOf_50
theorem t195_50 {d : Nat} {h : Hp} {Q : Pst} {l0 l1 l2 l3 l5 : Value} {x : Int32} {st : List Value} : T d 195 50 [l0, l1, l2, l3, .int x, l5] st h Q ↔ T d 195 52 [l0, l1, l2, l3, .int x, l5] (.int x :: st) h Q := T_iload c195_50 rfl
theorem c195_52 : cod 195 52 = some (.aload_n 0, 1) := cod_of b195 dX8_sievesOf_52
theorem t195_52 {d : Nat} {h : Hp} {Q : Pst} {l1 l2 l3 l4 l5 : Value} {x : Nat} {st : List Value} : T d 195 52 [.ref x, l1, l2, l3, l4, l5] st h Q ↔ T d 195 53 [.ref x, l1, l2, l3, l4, l5] (.ref x :: st) h Q := T_aload_n c195_52 rfl
theorem c195_53 : cod 195 53 = some (.getfield 7, 3) := cod_of b195 dX8_sievesOf_53
theorem t195_53 {d : Nat} {h : Hp} {Q : Pst} {a : Nat} {ls : List Value} {st : List Value} : T d 195 53 ls (.ref a :: st) h Q ↔ gF (h.2.2 a) 7 0 (fun v => T d 195 56 ls (v :: st) h Q) := T_getfieldR m195 c195_53 f8_7
theorem c195_56 : cod 195 56 = some (.iload_n 3, 1) := cod_of b195 dX8_sievesOf_56
theorem t195_56 {d : Nat} {h : Hp} {Q : Pst} {l0 l1 l2 l4 l5 : Value} {x : Int32} {st : List Value} : T d 195 56 [l0, l1, l2, .int x, l4, l5] st h Q ↔ T d 195 57 [l0, l1, l2, .int x, l4, l5] (.int x :: st) h Q := T_iload_n c195_56 rfl
theorem c195_57 : cod 195 57 = some (.iconst 1, 1) := cod_of b195 dX8_sievesOf_57
theorem t195_57 {d : Nat} {h : Hp} {Q : Pst} {ls : List Value} {st : List Value} : T d 195 57 ls st h Q ↔ T d 195 58 ls (.int 1 :: st) h Q := T_iconstV c195_57 (by decide)
theorem c195_58 : cod 195 58 = some (.iadd, 1) := cod_of b195 dX8_sievesOf_58
theorem t195_58 {d : Nat} {h : Hp} {Q : Pst} {x y : Int32} {ls : List Value} {st : List Value} : T d 195 58 ls (.int y :: .int x :: st) h Q ↔ T d 195 59 ls (.int (x + y) :: st) h Q := T_iadd c195_58
theorem c195_59 : cod 195 59 = some (.iaload, 1) := cod_of b195 dX8_sievesOf_59
theorem t195_59 {d : Nat} {h : Hp} {Q : Pst} {a : Nat} {i : Int32} {ls : List Value} {st : List Value} : T d 195 59 ls (.int i :: .ref a :: st) h Q ↔ aL (h.2.2 a) i (fun x => T d 195 60 ls (.int x :: st) h Q) := T_iaload c195_59
theorem c195_60 : cod 195 60 = some (.aload_n 0, 1) := cod_of b195 dX8_sievesOf_60
theorem t195_60 {d : Nat} {h : Hp} {Q : Pst} {l1 l2 l3 l4 l5 : Value} {x : Nat} {st : List Value} : T d 195 60 [.ref x, l1, l2, l3, l4, l5] st h Q ↔ T d 195 61 [.ref x, l1, l2, l3, l4, l5] (.ref x :: st) h Q := T_aload_n c195_60 rfl
theorem c195_61 : cod 195 61 = some (.getfield 7, 3) := cod_of b195 dX8_sievesOf_61
theorem t195_61 {d : Nat} {h : Hp} {Q : Pst} {a : Nat} {ls : List Value} {st : List Value} : T d 195 61 ls (.ref a :: st) h Q ↔ gF (h.2.2 a) 7 0 (fun v => T d 195 64 ls (v :: st) h Q) := T_getfieldR m195 c195_61 f8_7
theorem c195_64 : cod 195 64 = some (.iload_n 3, 1) := cod_of b195 dX8_sievesOf_64
theorem t195_64 {d : Nat} {h : Hp} {Q : Pst} {l0 l1 l2 l4 l5 : Value} {x : Int32} {st : List Value} : T d 195 64 [l0, l1, l2, .int x, l4, l5] st h Q ↔ T d 195 65 [l0, l1, l2, .int x, l4, l5] (.int x :: st) h Q := T_iload_n c195_64 rfl
theorem c195_65 : cod 195 65 = some (.iconst 2, 1) := cod_of b195 dX8_sievesOf_65
theorem t195_65 {d : Nat} {h : Hp} {Q : Pst} {ls : List Value} {st : List Value} : T d 195 65 ls st h Q ↔ T d 195 66 ls (.int 2 :: st) h Q := T_iconstV c195_65 (by decide)
theorem c195_66 : cod 195 66 = some (.iadd, 1) := cod_of b195 dX8_sievesOf_66
theorem t195_66 {d : Nat} {h : Hp} {Q : Pst} {x y : Int32} {ls : List Value} {st : List Value} : T d 195 66 ls (.int y :: .int x :: st) h Q ↔ T d 195 67 ls (.int (x + y) :: st) h Q := T_iadd c195_66
theorem c195_67 : cod 195 67 = some (.iaload, 1) := cod_of b195 dX8_sievesOf_67
theorem t195_67 {d : Nat} {h : Hp} {Q : Pst} {a : Nat} {i : Int32} {ls : List Value} {st : List Value} : T d 195 67 ls (.int i :: .ref a :: st) h Q ↔ aL (h.2.2 a) i (fun x => T d 195 68 ls (.int x :: st) h Q) := T_iaload c195_67
theorem c195_68 : cod 195 68 = some (.invokestatic 136, 3) := cod_of b195 dX8_sievesOf_68
theorem t195_68 {d : Nat} {h : Hp} {Q : Pst} {a0 a1 a2 s0 : Int32} {ls : List Value} : T (d + 1) 195 68 ls [.int a2, .int a1, .int a0, .int s0] h Q ↔ T d 154 0 [.int a0, .int a1, .int a2, un, un] [] h (fun x h2 => T (d + 1) 195 71 ls (rl x [.int s0]) h2 Q) := T_staticR (as := [.int a0, .int a1, .int a2]) (r := [.int s0]) m195 m154 c195_68 k8_136 (Or.inl rfl) rfl (by decide) rfl (by simp [wrd, Value.category]) (by simp [stk, Value.category]) rfl
theorem c195_71 : cod 195 71 = some (.if_icmp .lt 7, 3) := cod_of b195 dX8_sievesOf_71
theorem t195_71 {d : Nat} {h : Hp} {Q : Pst} {x y : Int32} {ls : List Value} {st : List Value} : T d 195 71 ls (.int y :: .int x :: st) h Q ↔ (if x < y then T d 195 78 ls st h Q else T d 195 74 ls st h Q) := T_icmp_lt c195_71 (by decide)
theorem c195_74 : cod 195 74 = some (.iconst 1, 1) := cod_of b195 dX8_sievesOf_74
theorem t195_74 {d : Nat} {h : Hp} {Q : Pst} {ls : List Value} {st : List Value} : T d 195 74 ls st h Q ↔ T d 195 75 ls (.int 1 :: st) h Q := T_iconstV c195_74 (by decide)
theorem c195_75 : cod 195 75 = some (.goto 4, 3) := cod_of b195 dX8_sievesOf_75
theorem t195_75 {d : Nat} {h : Hp} {Q : Pst} {ls : List Value} {st : List Value} : T d 195 75 ls st h Q ↔ T d 195 79 ls st h Q := T_goto c195_75 (by decide)
theorem c195_79 : cod 195 79 = some (.aload_n 0, 1) := cod_of b195 dX8_sievesOf_79
theorem t195_79 {d : Nat} {h : Hp} {Q : Pst} {l1 l2 l3 l4 l5 : Value} {x : Nat} {st : List Value} : T d 195 79 [.ref x, l1, l2, l3, l4, l5] st h Q ↔ T d 195 80 [.ref x, l1, l2, l3, l4, l5] (.ref x :: st) h Q := T_aload_n c195_79 rfl
theorem c195_80 : cod 195 80 = some (.getfield 7, 3) := cod_of b195 dX8_sievesOf_80
theorem t195_80 {d : Nat} {h : Hp} {Q : Pst} {a : Nat} {ls : List Value} {st : List Value} : T d 195 80 ls (.ref a :: st) h Q ↔ gF (h.2.2 a) 7 0 (fun v => T d 195 83 ls (v :: st) h Q) := T_getfieldR m195 c195_80 f8_7
theorem c195_83 : cod 195 83 = some (.iload_n 3, 1) := cod_of b195 dX8_sievesOf_83
theorem t195_83 {d : Nat} {h : Hp} {Q : Pst} {l0 l1 l2 l4 l5 : Value} {x : Int32} {st : List Value} : T d 195 83 [l0, l1, l2, .int x, l4, l5] st h Q ↔ T d 195 84 [l0, l1, l2, .int x, l4, l5] (.int x :: st) h Q := T_iload_n c195_83 rfl
theorem c195_84 : cod 195 84 = some (.iconst 4, 1) := cod_of b195 dX8_sievesOf_84
theorem t195_84 {d : Nat} {h : Hp} {Q : Pst} {ls : List Value} {st : List Value} : T d 195 84 ls st h Q ↔ T d 195 85 ls (.int 4 :: st) h Q := T_iconstV c195_84 (by decide)
theorem c195_85 : cod 195 85 = some (.iadd, 1) := cod_of b195 dX8_sievesOf_85
theorem t195_85 {d : Nat} {h : Hp} {Q : Pst} {x y : Int32} {ls : List Value} {st : List Value} : T d 195 85 ls (.int y :: .int x :: st) h Q ↔ T d 195 86 ls (.int (x + y) :: st) h Q := T_iadd c195_85
theorem c195_86 : cod 195 86 = some (.iaload, 1) := cod_of b195 dX8_sievesOf_86
theorem t195_86 {d : Nat} {h : Hp} {Q : Pst} {a : Nat} {i : Int32} {ls : List Value} {st : List Value} : T d 195 86 ls (.int i :: .ref a :: st) h Q ↔ aL (h.2.2 a) i (fun x => T d 195 87 ls (.int x :: st) h Q) := T_iaload c195_86
theorem c195_87 : cod 195 87 = some (.iconst 1, 1) := cod_of b195 dX8_sievesOf_87
theorem t195_87 {d : Nat} {h : Hp} {Q : Pst} {ls : List Value} {st : List Value} : T d 195 87 ls st h Q ↔ T d 195 88 ls (.int 1 :: st) h Q := T_iconstV c195_87 (by decide)
theorem c195_88 : cod 195 88 = some (.if_icmp .ne 7, 3) := cod_of b195 dX8_sievesOf_88
theorem t195_88 {d : Nat} {h : Hp} {Q : Pst} {x y : Int32} {ls : List Value} {st : List Value} : T d 195 88 ls (.int y :: .int x :: st) h Q ↔ (if ¬ x = y then T d 195 95 ls st h Q else T d 195 91 ls st h Q) := T_icmp_ne c195_88 (by decide)
theorem c195_91 : cod 195 91 = some (.iconst 1, 1) := cod_of b195 dX8_sievesOf_91
theorem t195_91 {d : Nat} {h : Hp} {Q : Pst} {ls : List Value} {st : List Value} : T d 195 91 ls st h Q ↔ T d 195 92 ls (.int 1 :: st) h Q := T_iconstV c195_91 (by decide)
theorem c195_92 : cod 195 92 = some (.goto 4, 3) := cod_of b195 dX8_sievesOf_92
theorem t195_92 {d : Nat} {h : Hp} {Q : Pst} {ls : List Value} {st : List Value} : T d 195 92 ls st h Q ↔ T d 195 96 ls st h Q := T_goto c195_92 (by decide)
theorem c195_96 : cod 195 96 = some (.if_icmp .ne 7, 3) := cod_of b195 dX8_sievesOf_96
theorem t195_96 {d : Nat} {h : Hp} {Q : Pst} {x y : Int32} {ls : List Value} {st : List Value} : T d 195 96 ls (.int y :: .int x :: st) h Q ↔ (if ¬ x = y then T d 195 103 ls st h Q else T d 195 99 ls st h Q) := T_icmp_ne c195_96 (by decide)
theorem c195_103 : cod 195 103 = some (.iconst 0, 1) := cod_of b195 dX8_sievesOf_103
theorem t195_103 {d : Nat} {h : Hp} {Q : Pst} {ls : List Value} {st : List Value} : T d 195 103 ls st h Q ↔ T d 195 104 ls (.int 0 :: st) h Q := T_iconstV c195_103 (by decide)
theorem c195_104 : cod 195 104 = some (.istore 5, 2) := cod_of b195 dX8_sievesOf_104
theorem t195_104 {d : Nat} {h : Hp} {Q : Pst} {l0 l1 l2 l3 l4 l5 : Value} {x : Int32} {st : List Value} : T d 195 104 [l0, l1, l2, l3, l4, l5] (.int x :: st) h Q ↔ T d 195 106 [l0, l1, l2, l3, kil l4, .int x] st h Q := T_istore c195_104 (Nat.le_of_ble_eq_true rfl)
theorem c195_106 : cod 195 106 = some (.iload_n 2, 1) := cod_of b195 dX8_sievesOf_106
theorem t195_106 {d : Nat} {h : Hp} {Q : Pst} {l0 l1 l3 l4 l5 : Value} {x : Int32} {st : List Value} : T d 195 106 [l0, l1, .int x, l3, l4, l5] st h Q ↔ T d 195 107 [l0, l1, .int x, l3, l4, l5] (.int x :: st) h Q := T_iload_n c195_106 rfl
theorem c195_107 : cod 195 107 = some (.iload 5, 2) := cod_of b195 dX8_sievesOf_107
theorem t195_107 {d : Nat} {h : Hp} {Q : Pst} {l0 l1 l2 l3 l4 : Value} {x : Int32} {st : List Value} : T d 195 107 [l0, l1, l2, l3, l4, .int x] st h Q ↔ T d 195 109 [l0, l1, l2, l3, l4, .int x] (.int x :: st) h Q := T_iload c195_107 rfl
theorem c195_109 : cod 195 109 = some (.ifCond .eq 8, 3) := cod_of b195 dX8_sievesOf_109
theorem t195_109 {d : Nat} {h : Hp} {Q : Pst} {x : Int32} {ls : List Value} {st : List Value} : T d 195 109 ls (.int x :: st) h Q ↔ (if x = 0 then T d 195 117 ls st h Q else T d 195 112 ls st h Q) := T_if_eq c195_109 (by decide)
theorem c195_112 : cod 195 112 = some (.bipush 63, 2) := cod_of b195 dX8_sievesOf_112
theorem t195_112 {d : Nat} {h : Hp} {Q : Pst} {ls : List Value} {st : List Value} : T d 195 112 ls st h Q ↔ T d 195 114 ls (.int 63 :: st) h Q := T_bipushV c195_112 (by decide)
theorem c195_114 : cod 195 114 = some (.goto 9, 3) := cod_of b195 dX8_sievesOf_114
theorem t195_114 {d : Nat} {h : Hp} {Q : Pst} {ls : List Value} {st : List Value} : T d 195 114 ls st h Q ↔ T d 195 123 ls st h Q := T_goto c195_114 (by decide)
theorem c195_123 : cod 195 123 = some (.iand, 1) := cod_of b195 dX8_sievesOf_123
theorem t195_123 {d : Nat} {h : Hp} {Q : Pst} {x y : Int32} {ls : List Value} {st : List Value} : T d 195 123 ls (.int y :: .int x :: st) h Q ↔ T d 195 124 ls (.int (x &&& y) :: st) h Q := T_iand c195_123
theorem c195_124 : cod 195 124 = some (.istore_n 2, 1) := cod_of b195 dX8_sievesOf_124
theorem t195_124 {d : Nat} {h : Hp} {Q : Pst} {l0 l1 l2 l3 l4 l5 : Value} {x : Int32} {st : List Value} : T d 195 124 [l0, l1, l2, l3, l4, l5] (.int x :: st) h Q ↔ T d 195 125 [l0, kil l1, .int x, l3, l4, l5] st h Q := T_istore_n c195_124 (Nat.le_of_ble_eq_true rfl)
theorem c195_125 : cod 195 125 = some (.iinc 4 1, 3) := cod_of b195 dX8_sievesOf_125
theorem t195_125 {d : Nat} {h : Hp} {Q : Pst} {l0 l1 l2 l3 l5 : Value} {x : Int32} {st : List Value} : T d 195 125 [l0, l1, l2, l3, .int x, l5] st h Q ↔ T d 195 128 [l0, l1, l2, kil l3, .int (x + 1), l5] st h Q := T_iincV c195_125 rfl (Nat.le_of_ble_eq_true rfl) (by decide) rfl
theorem c195_128 : cod 195 128 = some (.goto (-103), 3) := cod_of b195 dX8_sievesOf_128
theorem t195_128 {d : Nat} {h : Hp} {Q : Pst} {ls : List Value} {st : List Value} : T d 195 128 ls st h Q ↔ T d 195 25 ls st h Q := T_goto c195_128 (by decide)
theorem c195_117 : cod 195 117 = some (.iconst 1, 1) := cod_of b195 dX8_sievesOf_117
theorem t195_117 {d : Nat} {h : Hp} {Q : Pst} {ls : List Value} {st : List Value} : T d 195 117 ls st h Q ↔ T d 195 118 ls (.int 1 :: st) h Q := T_iconstV c195_117 (by decide)
theorem c195_118 : cod 195 118 = some (.iload 4, 2) := cod_of b195 dX8_sievesOf_118
theorem t195_118 {d : Nat} {h : Hp} {Q : Pst} {l0 l1 l2 l3 l5 : Value} {x : Int32} {st : List Value} : T d 195 118 [l0, l1, l2, l3, .int x, l5] st h Q ↔ T d 195 120 [l0, l1, l2, l3, .int x, l5] (.int x :: st) h Q := T_iload c195_118 rfl
theorem c195_120 : cod 195 120 = some (.ishl, 1) := cod_of b195 dX8_sievesOf_120
theorem t195_120 {d : Nat} {h : Hp} {Q : Pst} {x y : Int32} {ls : List Value} {st : List Value} : T d 195 120 ls (.int y :: .int x :: st) h Q ↔ T d 195 121 ls (.int (x <<< (y &&& 31)) :: st) h Q := T_ishl c195_120
theorem c195_121 : cod 195 121 = some (.iconst (-1), 1) := cod_of b195 dX8_sievesOf_121
theorem t195_121 {d : Nat} {h : Hp} {Q : Pst} {ls : List Value} {st : List Value} : T d 195 121 ls st h Q ↔ T d 195 122 ls (.int (-1) :: st) h Q := T_iconstV c195_121 (by decide)
theorem c195_122 : cod 195 122 = some (.ixor, 1) := cod_of b195 dX8_sievesOf_122
theorem t195_122 {d : Nat} {h : Hp} {Q : Pst} {x y : Int32} {ls : List Value} {st : List Value} : T d 195 122 ls (.int y :: .int x :: st) h Q ↔ T d 195 123 ls (.int (x ^^^ y) :: st) h Q := T_ixor c195_122
theorem c195_95 : cod 195 95 = some (.iconst 0, 1) := cod_of b195 dX8_sievesOf_95
theorem t195_95 {d : Nat} {h : Hp} {Q : Pst} {ls : List Value} {st : List Value} : T d 195 95 ls st h Q ↔ T d 195 96 ls (.int 0 :: st) h Q := T_iconstV c195_95 (by decide)
theorem c195_78 : cod 195 78 = some (.iconst 0, 1) := cod_of b195 dX8_sievesOf_78
theorem t195_78 {d : Nat} {h : Hp} {Q : Pst} {ls : List Value} {st : List Value} : T d 195 78 ls st h Q ↔ T d 195 79 ls (.int 0 :: st) h Q := T_iconstV c195_78 (by decide)
theorem c195_99 : cod 195 99 = some (.iconst 1, 1) := cod_of b195 dX8_sievesOf_99
theorem t195_99 {d : Nat} {h : Hp} {Q : Pst} {ls : List Value} {st : List Value} : T d 195 99 ls st h Q ↔ T d 195 100 ls (.int 1 :: st) h Q := T_iconstV c195_99 (by decide)
theorem c195_100 : cod 195 100 = some (.goto 4, 3) := cod_of b195 dX8_sievesOf_100
theorem t195_100 {d : Nat} {h : Hp} {Q : Pst} {ls : List Value} {st : List Value} : T d 195 100 ls st h Q ↔ T d 195 104 ls st h Q := T_goto c195_100 (by decide)
theorem c195_131 : cod 195 131 = some (.iinc 3 5, 3) := cod_of b195 dX8_sievesOf_131
theorem t195_131 {d : Nat} {h : Hp} {Q : Pst} {l0 l1 l2 l4 l5 : Value} {x : Int32} {st : List Value} : T d 195 131 [l0, l1, l2, .int x, l4, l5] st h Q ↔ T d 195 134 [l0, l1, kil l2, .int (x + 5), l4, l5] st h Q := T_iincV c195_131 rfl (Nat.le_of_ble_eq_true rfl) (by decide) rfl
theorem c195_134 : cod 195 134 = some (.goto (-128), 3) := cod_of b195 dX8_sievesOf_134
theorem t195_134 {d : Nat} {h : Hp} {Q : Pst} {ls : List Value} {st : List Value} : T d 195 134 ls st h Q ↔ T d 195 6 ls st h Q := T_goto c195_134 (by decide)
theorem c195_137 : cod 195 137 = some (.iload_n 2, 1) := cod_of b195 dX8_sievesOf_137
theorem t195_137 {d : Nat} {h : Hp} {Q : Pst} {l0 l1 l3 l4 l5 : Value} {x : Int32} {st : List Value} : T d 195 137 [l0, l1, .int x, l3, l4, l5] st h Q ↔ T d 195 138 [l0, l1, .int x, l3, l4, l5] (.int x :: st) h Q := T_iload_n c195_137 rfl
theorem c195_138 : cod 195 138 = some (.ireturn, 1) := cod_of b195 dX8_sievesOf_138
theorem t195_138 {d : Nat} {h : Hp} {Q : Pst} {x : Int32} {ls : List Value} : T d 195 138 ls [.int x] h Q ↔ Q (some (.int x)) h := T_iretR m195 c195_138 rfl
theorem b196 : (mR 196).2.2.1 = cX8_kinds := by rw [m196]
theorem c196_0 : cod 196 0 = some (.aload_n 0, 1) := cod_of b196 dX8_kinds_0
theorem t196_0 {d : Nat} {h : Hp} {Q : Pst} {l1 : Value} {x : Nat} {st : List Value} : T d 196 0 [.ref x, l1] st h Q ↔ T d 196 1 [.ref x, l1] (.ref x :: st) h Q := T_aload_n c196_0 rfl
theorem c196_1 : cod 196 1 = some (.iload_n 1, 1) := cod_of b196 dX8_kinds_1
theorem t196_1 {d : Nat} {h : Hp} {Q : Pst} {l0 : Value} {x : Int32} {st : List Value} : T d 196 1 [l0, .int x] st h Q ↔ T d 196 2 [l0, .int x] (.int x :: st) h Q := T_iload_n c196_1 rfl
theorem c196_2 : cod 196 2 = some (.invokevirtual 160, 3) := cod_of b196 dX8_kinds_2
theorem t196_2 {d : Nat} {h : Hp} {Q : Pst} {a0 : Int32} {a : Nat} {ls : List Value} (ho : isO (h.2.2 a) 7) : T (d + 1) 196 2 ls [.int a0, .ref a] h Q ↔ T d 164 0 [.ref a, .int a0] [] h (fun x h2 => T (d + 1) 196 5 ls (rl x []) h2 Q) := T_virtualR (as := [.int a0]) (r := []) m196 m164 c196_2 k8_160  rfl (by decide) rfl (by simp [wrd, Value.category]) (by simp [stk, Value.category]) rfl (by decide +kernel) ho
theorem c196_5 : cod 196 5 = some (.ifCond .eq 11, 3) := cod_of b196 dX8_kinds_5
theorem t196_5 {d : Nat} {h : Hp} {Q : Pst} {x : Int32} {ls : List Value} {st : List Value} : T d 196 5 ls (.int x :: st) h Q ↔ (if x = 0 then T d 196 16 ls st h Q else T d 196 8 ls st h Q) := T_if_eq c196_5 (by decide)
theorem c196_8 : cod 196 8 = some (.aload_n 0, 1) := cod_of b196 dX8_kinds_8
theorem t196_8 {d : Nat} {h : Hp} {Q : Pst} {l1 : Value} {x : Nat} {st : List Value} : T d 196 8 [.ref x, l1] st h Q ↔ T d 196 9 [.ref x, l1] (.ref x :: st) h Q := T_aload_n c196_8 rfl
theorem c196_9 : cod 196 9 = some (.iload_n 1, 1) := cod_of b196 dX8_kinds_9
theorem t196_9 {d : Nat} {h : Hp} {Q : Pst} {l0 : Value} {x : Int32} {st : List Value} : T d 196 9 [l0, .int x] st h Q ↔ T d 196 10 [l0, .int x] (.int x :: st) h Q := T_iload_n c196_9 rfl
theorem c196_10 : cod 196 10 = some (.invokevirtual 197, 3) := cod_of b196 dX8_kinds_10
theorem t196_10 {d : Nat} {h : Hp} {Q : Pst} {a0 : Int32} {a : Nat} {ls : List Value} (ho : isO (h.2.2 a) 7) : T (d + 1) 196 10 ls [.int a0, .ref a] h Q ↔ T d 195 0 [.ref a, .int a0, un, un, un, un] [] h (fun x h2 => T (d + 1) 196 13 ls (rl x []) h2 Q) := T_virtualR (as := [.int a0]) (r := []) m196 m195 c196_10 k8_197  rfl (by decide) rfl (by simp [wrd, Value.category]) (by simp [stk, Value.category]) rfl (by decide +kernel) ho
theorem c196_13 : cod 196 13 = some (.goto 9, 3) := cod_of b196 dX8_kinds_13
theorem t196_13 {d : Nat} {h : Hp} {Q : Pst} {ls : List Value} {st : List Value} : T d 196 13 ls st h Q ↔ T d 196 22 ls st h Q := T_goto c196_13 (by decide)
theorem c196_22 : cod 196 22 = some (.ireturn, 1) := cod_of b196 dX8_kinds_22
theorem t196_22 {d : Nat} {h : Hp} {Q : Pst} {x : Int32} {ls : List Value} : T d 196 22 ls [.int x] h Q ↔ Q (some (.int x)) h := T_iretR m196 c196_22 rfl
theorem c196_16 : cod 196 16 = some (.aload_n 0, 1) := cod_of b196 dX8_kinds_16
theorem t196_16 {d : Nat} {h : Hp} {Q : Pst} {l1 : Value} {x : Nat} {st : List Value} : T d 196 16 [.ref x, l1] st h Q ↔ T d 196 17 [.ref x, l1] (.ref x :: st) h Q := T_aload_n c196_16 rfl
theorem c196_17 : cod 196 17 = some (.bipush (-2), 2) := cod_of b196 dX8_kinds_17
theorem t196_17 {d : Nat} {h : Hp} {Q : Pst} {ls : List Value} {st : List Value} : T d 196 17 ls st h Q ↔ T d 196 19 ls (.int (-2) :: st) h Q := T_bipushV c196_17 (by decide)
theorem c196_19 : cod 196 19 = some (.invokevirtual 45, 3) := cod_of b196 dX8_kinds_19
theorem t196_19 {d : Nat} {h : Hp} {Q : Pst} {a0 : Int32} {a : Nat} {ls : List Value} (ho : isO (h.2.2 a) 7) : T (d + 1) 196 19 ls [.int a0, .ref a] h Q ↔ T d 129 0 [.ref a, .int a0] [] h (fun x h2 => T (d + 1) 196 22 ls (rl x []) h2 Q) := T_virtualR (as := [.int a0]) (r := []) m196 m129 c196_19 k8_45  rfl (by decide) rfl (by simp [wrd, Value.category]) (by simp [stk, Value.category]) rfl (by decide +kernel) ho
theorem b197 : (mR 197).2.2.1 = cX8_ask := by rw [m197]
theorem c197_0 : cod 197 0 = some (.aload_n 0, 1) := cod_of b197 dX8_ask_0
theorem t197_0 {d : Nat} {h : Hp} {Q : Pst} {l1 l2 l3 l4 l5 l6 l7 l8 : Value} {x : Nat} {st : List Value} : T d 197 0 [.ref x, l1, l2, l3, l4, l5, l6, l7, l8] st h Q ↔ T d 197 1 [.ref x, l1, l2, l3, l4, l5, l6, l7, l8] (.ref x :: st) h Q := T_aload_n c197_0 rfl
theorem c197_1 : cod 197 1 = some (.iload_n 1, 1) := cod_of b197 dX8_ask_1
theorem t197_1 {d : Nat} {h : Hp} {Q : Pst} {l0 l2 l3 l4 l5 l6 l7 l8 : Value} {x : Int32} {st : List Value} : T d 197 1 [l0, .int x, l2, l3, l4, l5, l6, l7, l8] st h Q ↔ T d 197 2 [l0, .int x, l2, l3, l4, l5, l6, l7, l8] (.int x :: st) h Q := T_iload_n c197_1 rfl
theorem c197_2 : cod 197 2 = some (.invokevirtual 160, 3) := cod_of b197 dX8_ask_2
theorem t197_2 {d : Nat} {h : Hp} {Q : Pst} {a0 : Int32} {a : Nat} {ls : List Value} (ho : isO (h.2.2 a) 7) : T (d + 1) 197 2 ls [.int a0, .ref a] h Q ↔ T d 164 0 [.ref a, .int a0] [] h (fun x h2 => T (d + 1) 197 5 ls (rl x []) h2 Q) := T_virtualR (as := [.int a0]) (r := []) m197 m164 c197_2 k8_160  rfl (by decide) rfl (by simp [wrd, Value.category]) (by simp [stk, Value.category]) rfl (by decide +kernel) ho
theorem c197_5 : cod 197 5 = some (.ifCond .ne 10, 3) := cod_of b197 dX8_ask_5
theorem t197_5 {d : Nat} {h : Hp} {Q : Pst} {x : Int32} {ls : List Value} {st : List Value} : T d 197 5 ls (.int x :: st) h Q ↔ (if ¬ x = 0 then T d 197 15 ls st h Q else T d 197 8 ls st h Q) := T_if_ne c197_5 (by decide)
theorem c197_8 : cod 197 8 = some (.aload_n 0, 1) := cod_of b197 dX8_ask_8
theorem t197_8 {d : Nat} {h : Hp} {Q : Pst} {l1 l2 l3 l4 l5 l6 l7 l8 : Value} {x : Nat} {st : List Value} : T d 197 8 [.ref x, l1, l2, l3, l4, l5, l6, l7, l8] st h Q ↔ T d 197 9 [.ref x, l1, l2, l3, l4, l5, l6, l7, l8] (.ref x :: st) h Q := T_aload_n c197_8 rfl
theorem c197_9 : cod 197 9 = some (.bipush (-2), 2) := cod_of b197 dX8_ask_9
theorem t197_9 {d : Nat} {h : Hp} {Q : Pst} {ls : List Value} {st : List Value} : T d 197 9 ls st h Q ↔ T d 197 11 ls (.int (-2) :: st) h Q := T_bipushV c197_9 (by decide)
theorem c197_11 : cod 197 11 = some (.invokevirtual 45, 3) := cod_of b197 dX8_ask_11
theorem t197_11 {d : Nat} {h : Hp} {Q : Pst} {a0 : Int32} {a : Nat} {ls : List Value} (ho : isO (h.2.2 a) 7) : T (d + 1) 197 11 ls [.int a0, .ref a] h Q ↔ T d 129 0 [.ref a, .int a0] [] h (fun x h2 => T (d + 1) 197 14 ls (rl x []) h2 Q) := T_virtualR (as := [.int a0]) (r := []) m197 m129 c197_11 k8_45  rfl (by decide) rfl (by simp [wrd, Value.category]) (by simp [stk, Value.category]) rfl (by decide +kernel) ho
theorem c197_14 : cod 197 14 = some (.ireturn, 1) := cod_of b197 dX8_ask_14
theorem t197_14 {d : Nat} {h : Hp} {Q : Pst} {x : Int32} {ls : List Value} : T d 197 14 ls [.int x] h Q ↔ Q (some (.int x)) h := T_iretR m197 c197_14 rfl
theorem c197_15 : cod 197 15 = some (.aload_n 0, 1) := cod_of b197 dX8_ask_15
theorem t197_15 {d : Nat} {h : Hp} {Q : Pst} {l1 l2 l3 l4 l5 l6 l7 l8 : Value} {x : Nat} {st : List Value} : T d 197 15 [.ref x, l1, l2, l3, l4, l5, l6, l7, l8] st h Q ↔ T d 197 16 [.ref x, l1, l2, l3, l4, l5, l6, l7, l8] (.ref x :: st) h Q := T_aload_n c197_15 rfl
theorem c197_16 : cod 197 16 = some (.iload_n 1, 1) := cod_of b197 dX8_ask_16
theorem t197_16 {d : Nat} {h : Hp} {Q : Pst} {l0 l2 l3 l4 l5 l6 l7 l8 : Value} {x : Int32} {st : List Value} : T d 197 16 [l0, .int x, l2, l3, l4, l5, l6, l7, l8] st h Q ↔ T d 197 17 [l0, .int x, l2, l3, l4, l5, l6, l7, l8] (.int x :: st) h Q := T_iload_n c197_16 rfl
theorem c197_17 : cod 197 17 = some (.invokevirtual 197, 3) := cod_of b197 dX8_ask_17
theorem t197_17 {d : Nat} {h : Hp} {Q : Pst} {a0 : Int32} {a : Nat} {ls : List Value} (ho : isO (h.2.2 a) 7) : T (d + 1) 197 17 ls [.int a0, .ref a] h Q ↔ T d 195 0 [.ref a, .int a0, un, un, un, un] [] h (fun x h2 => T (d + 1) 197 20 ls (rl x []) h2 Q) := T_virtualR (as := [.int a0]) (r := []) m197 m195 c197_17 k8_197  rfl (by decide) rfl (by simp [wrd, Value.category]) (by simp [stk, Value.category]) rfl (by decide +kernel) ho
theorem c197_20 : cod 197 20 = some (.istore_n 2, 1) := cod_of b197 dX8_ask_20
theorem t197_20 {d : Nat} {h : Hp} {Q : Pst} {l0 l1 l2 l3 l4 l5 l6 l7 l8 : Value} {x : Int32} {st : List Value} : T d 197 20 [l0, l1, l2, l3, l4, l5, l6, l7, l8] (.int x :: st) h Q ↔ T d 197 21 [l0, kil l1, .int x, l3, l4, l5, l6, l7, l8] st h Q := T_istore_n c197_20 (Nat.le_of_ble_eq_true rfl)
theorem c197_21 : cod 197 21 = some (.iconst (-1), 1) := cod_of b197 dX8_ask_21
theorem t197_21 {d : Nat} {h : Hp} {Q : Pst} {ls : List Value} {st : List Value} : T d 197 21 ls st h Q ↔ T d 197 22 ls (.int (-1) :: st) h Q := T_iconstV c197_21 (by decide)
theorem c197_22 : cod 197 22 = some (.istore_n 3, 1) := cod_of b197 dX8_ask_22
theorem t197_22 {d : Nat} {h : Hp} {Q : Pst} {l0 l1 l2 l3 l4 l5 l6 l7 l8 : Value} {x : Int32} {st : List Value} : T d 197 22 [l0, l1, l2, l3, l4, l5, l6, l7, l8] (.int x :: st) h Q ↔ T d 197 23 [l0, l1, kil l2, .int x, l4, l5, l6, l7, l8] st h Q := T_istore_n c197_22 (Nat.le_of_ble_eq_true rfl)
theorem c197_23 : cod 197 23 = some (.bipush 99, 2) := cod_of b197 dX8_ask_23
theorem t197_23 {d : Nat} {h : Hp} {Q : Pst} {ls : List Value} {st : List Value} : T d 197 23 ls st h Q ↔ T d 197 25 ls (.int 99 :: st) h Q := T_bipushV c197_23 (by decide)
theorem c197_25 : cod 197 25 = some (.istore 4, 2) := cod_of b197 dX8_ask_25
theorem t197_25 {d : Nat} {h : Hp} {Q : Pst} {l0 l1 l2 l3 l4 l5 l6 l7 l8 : Value} {x : Int32} {st : List Value} : T d 197 25 [l0, l1, l2, l3, l4, l5, l6, l7, l8] (.int x :: st) h Q ↔ T d 197 27 [l0, l1, l2, kil l3, .int x, l5, l6, l7, l8] st h Q := T_istore c197_25 (Nat.le_of_ble_eq_true rfl)
theorem c197_27 : cod 197 27 = some (.iconst 0, 1) := cod_of b197 dX8_ask_27
theorem t197_27 {d : Nat} {h : Hp} {Q : Pst} {ls : List Value} {st : List Value} : T d 197 27 ls st h Q ↔ T d 197 28 ls (.int 0 :: st) h Q := T_iconstV c197_27 (by decide)
theorem c197_28 : cod 197 28 = some (.istore 5, 2) := cod_of b197 dX8_ask_28
theorem t197_28 {d : Nat} {h : Hp} {Q : Pst} {l0 l1 l2 l3 l4 l5 l6 l7 l8 : Value} {x : Int32} {st : List Value} : T d 197 28 [l0, l1, l2, l3, l4, l5, l6, l7, l8] (.int x :: st) h Q ↔ T d 197 30 [l0, l1, l2, l3, kil l4, .int x, l6, l7, l8] st h Q := T_istore c197_28 (Nat.le_of_ble_eq_true rfl)
theorem c197_30 : cod 197 30 = some (.iload 5, 2) := cod_of b197 dX8_ask_30
theorem t197_30 {d : Nat} {h : Hp} {Q : Pst} {l0 l1 l2 l3 l4 l6 l7 l8 : Value} {x : Int32} {st : List Value} : T d 197 30 [l0, l1, l2, l3, l4, .int x, l6, l7, l8] st h Q ↔ T d 197 32 [l0, l1, l2, l3, l4, .int x, l6, l7, l8] (.int x :: st) h Q := T_iload c197_30 rfl
theorem c197_32 : cod 197 32 = some (.sipush 305, 3) := cod_of b197 dX8_ask_32
theorem t197_32 {d : Nat} {h : Hp} {Q : Pst} {ls : List Value} {st : List Value} : T d 197 32 ls st h Q ↔ T d 197 35 ls (.int 305 :: st) h Q := T_sipushV c197_32 (by decide)
theorem c197_35 : cod 197 35 = some (.if_icmp .ge 119, 3) := cod_of b197 dX8_ask_35
theorem t197_35 {d : Nat} {h : Hp} {Q : Pst} {x y : Int32} {ls : List Value} {st : List Value} : T d 197 35 ls (.int y :: .int x :: st) h Q ↔ (if y ≤ x then T d 197 154 ls st h Q else T d 197 38 ls st h Q) := T_icmp_ge c197_35 (by decide)
theorem c197_38 : cod 197 38 = some (.iload_n 2, 1) := cod_of b197 dX8_ask_38
theorem t197_38 {d : Nat} {h : Hp} {Q : Pst} {l0 l1 l3 l4 l5 l6 l7 l8 : Value} {x : Int32} {st : List Value} : T d 197 38 [l0, l1, .int x, l3, l4, l5, l6, l7, l8] st h Q ↔ T d 197 39 [l0, l1, .int x, l3, l4, l5, l6, l7, l8] (.int x :: st) h Q := T_iload_n c197_38 rfl
theorem c197_39 : cod 197 39 = some (.ifCond .eq 115, 3) := cod_of b197 dX8_ask_39
theorem t197_39 {d : Nat} {h : Hp} {Q : Pst} {x : Int32} {ls : List Value} {st : List Value} : T d 197 39 ls (.int x :: st) h Q ↔ (if x = 0 then T d 197 154 ls st h Q else T d 197 42 ls st h Q) := T_if_eq c197_39 (by decide)
theorem c197_42 : cod 197 42 = some (.iload 5, 2) := cod_of b197 dX8_ask_42
theorem t197_42 {d : Nat} {h : Hp} {Q : Pst} {l0 l1 l2 l3 l4 l6 l7 l8 : Value} {x : Int32} {st : List Value} : T d 197 42 [l0, l1, l2, l3, l4, .int x, l6, l7, l8] st h Q ↔ T d 197 44 [l0, l1, l2, l3, l4, .int x, l6, l7, l8] (.int x :: st) h Q := T_iload c197_42 rfl
theorem c197_44 : cod 197 44 = some (.bipush 61, 2) := cod_of b197 dX8_ask_44
theorem t197_44 {d : Nat} {h : Hp} {Q : Pst} {ls : List Value} {st : List Value} : T d 197 44 ls st h Q ↔ T d 197 46 ls (.int 61 :: st) h Q := T_bipushV c197_44 (by decide)
theorem c197_46 : cod 197 46 = some (.idiv, 1) := cod_of b197 dX8_ask_46
theorem t197_46 {d : Nat} {h : Hp} {Q : Pst} {x y : Int32} {ls : List Value} {st : List Value} : T d 197 46 ls (.int y :: .int x :: st) h Q ↔ (¬ y = 0 ∧ T d 197 47 ls (.int (x / y) :: st) h Q) := T_idiv c197_46
theorem c197_47 : cod 197 47 = some (.istore 6, 2) := cod_of b197 dX8_ask_47
theorem t197_47 {d : Nat} {h : Hp} {Q : Pst} {l0 l1 l2 l3 l4 l5 l6 l7 l8 : Value} {x : Int32} {st : List Value} : T d 197 47 [l0, l1, l2, l3, l4, l5, l6, l7, l8] (.int x :: st) h Q ↔ T d 197 49 [l0, l1, l2, l3, l4, kil l5, .int x, l7, l8] st h Q := T_istore c197_47 (Nat.le_of_ble_eq_true rfl)
theorem c197_49 : cod 197 49 = some (.iload 5, 2) := cod_of b197 dX8_ask_49
theorem t197_49 {d : Nat} {h : Hp} {Q : Pst} {l0 l1 l2 l3 l4 l6 l7 l8 : Value} {x : Int32} {st : List Value} : T d 197 49 [l0, l1, l2, l3, l4, .int x, l6, l7, l8] st h Q ↔ T d 197 51 [l0, l1, l2, l3, l4, .int x, l6, l7, l8] (.int x :: st) h Q := T_iload c197_49 rfl
theorem c197_51 : cod 197 51 = some (.bipush 61, 2) := cod_of b197 dX8_ask_51
theorem t197_51 {d : Nat} {h : Hp} {Q : Pst} {ls : List Value} {st : List Value} : T d 197 51 ls st h Q ↔ T d 197 53 ls (.int 61 :: st) h Q := T_bipushV c197_51 (by decide)
theorem c197_53 : cod 197 53 = some (.irem, 1) := cod_of b197 dX8_ask_53
theorem t197_53 {d : Nat} {h : Hp} {Q : Pst} {x y : Int32} {ls : List Value} {st : List Value} : T d 197 53 ls (.int y :: .int x :: st) h Q ↔ (¬ y = 0 ∧ T d 197 54 ls (.int (x - x / y * y) :: st) h Q) := T_irem c197_53
theorem c197_54 : cod 197 54 = some (.istore 7, 2) := cod_of b197 dX8_ask_54
theorem t197_54 {d : Nat} {h : Hp} {Q : Pst} {l0 l1 l2 l3 l4 l5 l6 l7 l8 : Value} {x : Int32} {st : List Value} : T d 197 54 [l0, l1, l2, l3, l4, l5, l6, l7, l8] (.int x :: st) h Q ↔ T d 197 56 [l0, l1, l2, l3, l4, l5, kil l6, .int x, l8] st h Q := T_istore c197_54 (Nat.le_of_ble_eq_true rfl)
theorem c197_56 : cod 197 56 = some (.iconst 0, 1) := cod_of b197 dX8_ask_56
theorem t197_56 {d : Nat} {h : Hp} {Q : Pst} {ls : List Value} {st : List Value} : T d 197 56 ls st h Q ↔ T d 197 57 ls (.int 0 :: st) h Q := T_iconstV c197_56 (by decide)
theorem c197_57 : cod 197 57 = some (.istore 8, 2) := cod_of b197 dX8_ask_57
theorem t197_57 {d : Nat} {h : Hp} {Q : Pst} {l0 l1 l2 l3 l4 l5 l6 l7 l8 : Value} {x : Int32} {st : List Value} : T d 197 57 [l0, l1, l2, l3, l4, l5, l6, l7, l8] (.int x :: st) h Q ↔ T d 197 59 [l0, l1, l2, l3, l4, l5, l6, kil l7, .int x] st h Q := T_istore c197_57 (Nat.le_of_ble_eq_true rfl)
theorem c197_59 : cod 197 59 = some (.iload 8, 2) := cod_of b197 dX8_ask_59
theorem t197_59 {d : Nat} {h : Hp} {Q : Pst} {l0 l1 l2 l3 l4 l5 l6 l7 : Value} {x : Int32} {st : List Value} : T d 197 59 [l0, l1, l2, l3, l4, l5, l6, l7, .int x] st h Q ↔ T d 197 61 [l0, l1, l2, l3, l4, l5, l6, l7, .int x] (.int x :: st) h Q := T_iload c197_59 rfl
theorem c197_61 : cod 197 61 = some (.bipush 6, 2) := cod_of b197 dX8_ask_61
theorem t197_61 {d : Nat} {h : Hp} {Q : Pst} {ls : List Value} {st : List Value} : T d 197 61 ls st h Q ↔ T d 197 63 ls (.int 6 :: st) h Q := T_bipushV c197_61 (by decide)
theorem c197_63 : cod 197 63 = some (.if_icmp .ge 42, 3) := cod_of b197 dX8_ask_63
theorem t197_63 {d : Nat} {h : Hp} {Q : Pst} {x y : Int32} {ls : List Value} {st : List Value} : T d 197 63 ls (.int y :: .int x :: st) h Q ↔ (if y ≤ x then T d 197 105 ls st h Q else T d 197 66 ls st h Q) := T_icmp_ge c197_63 (by decide)
theorem c197_66 : cod 197 66 = some (.aload_n 0, 1) := cod_of b197 dX8_ask_66
theorem t197_66 {d : Nat} {h : Hp} {Q : Pst} {l1 l2 l3 l4 l5 l6 l7 l8 : Value} {x : Nat} {st : List Value} : T d 197 66 [.ref x, l1, l2, l3, l4, l5, l6, l7, l8] st h Q ↔ T d 197 67 [.ref x, l1, l2, l3, l4, l5, l6, l7, l8] (.ref x :: st) h Q := T_aload_n c197_66 rfl
theorem c197_67 : cod 197 67 = some (.getfield 36, 3) := cod_of b197 dX8_ask_67
theorem t197_67 {d : Nat} {h : Hp} {Q : Pst} {a : Nat} {ls : List Value} {st : List Value} : T d 197 67 ls (.ref a :: st) h Q ↔ gF (h.2.2 a) 7 15 (fun v => T d 197 70 ls (v :: st) h Q) := T_getfieldR m197 c197_67 f8_36
theorem c197_70 : cod 197 70 = some (.iload 8, 2) := cod_of b197 dX8_ask_70
theorem t197_70 {d : Nat} {h : Hp} {Q : Pst} {l0 l1 l2 l3 l4 l5 l6 l7 : Value} {x : Int32} {st : List Value} : T d 197 70 [l0, l1, l2, l3, l4, l5, l6, l7, .int x] st h Q ↔ T d 197 72 [l0, l1, l2, l3, l4, l5, l6, l7, .int x] (.int x :: st) h Q := T_iload c197_70 rfl
theorem c197_72 : cod 197 72 = some (.iload 7, 2) := cod_of b197 dX8_ask_72
theorem t197_72 {d : Nat} {h : Hp} {Q : Pst} {l0 l1 l2 l3 l4 l5 l6 l8 : Value} {x : Int32} {st : List Value} : T d 197 72 [l0, l1, l2, l3, l4, l5, l6, .int x, l8] st h Q ↔ T d 197 74 [l0, l1, l2, l3, l4, l5, l6, .int x, l8] (.int x :: st) h Q := T_iload c197_72 rfl
theorem c197_74 : cod 197 74 = some (.iload 8, 2) := cod_of b197 dX8_ask_74
theorem t197_74 {d : Nat} {h : Hp} {Q : Pst} {l0 l1 l2 l3 l4 l5 l6 l7 : Value} {x : Int32} {st : List Value} : T d 197 74 [l0, l1, l2, l3, l4, l5, l6, l7, .int x] st h Q ↔ T d 197 76 [l0, l1, l2, l3, l4, l5, l6, l7, .int x] (.int x :: st) h Q := T_iload c197_74 rfl
theorem c197_76 : cod 197 76 = some (.aload_n 0, 1) := cod_of b197 dX8_ask_76
theorem t197_76 {d : Nat} {h : Hp} {Q : Pst} {l1 l2 l3 l4 l5 l6 l7 l8 : Value} {x : Nat} {st : List Value} : T d 197 76 [.ref x, l1, l2, l3, l4, l5, l6, l7, l8] st h Q ↔ T d 197 77 [.ref x, l1, l2, l3, l4, l5, l6, l7, l8] (.ref x :: st) h Q := T_aload_n c197_76 rfl
theorem c197_77 : cod 197 77 = some (.getfield 7, 3) := cod_of b197 dX8_ask_77
theorem t197_77 {d : Nat} {h : Hp} {Q : Pst} {a : Nat} {ls : List Value} {st : List Value} : T d 197 77 ls (.ref a :: st) h Q ↔ gF (h.2.2 a) 7 0 (fun v => T d 197 80 ls (v :: st) h Q) := T_getfieldR m197 c197_77 f8_7
theorem c197_80 : cod 197 80 = some (.bipush 30, 2) := cod_of b197 dX8_ask_80
theorem t197_80 {d : Nat} {h : Hp} {Q : Pst} {ls : List Value} {st : List Value} : T d 197 80 ls st h Q ↔ T d 197 82 ls (.int 30 :: st) h Q := T_bipushV c197_80 (by decide)
theorem c197_82 : cod 197 82 = some (.iload_n 1, 1) := cod_of b197 dX8_ask_82
theorem t197_82 {d : Nat} {h : Hp} {Q : Pst} {l0 l2 l3 l4 l5 l6 l7 l8 : Value} {x : Int32} {st : List Value} : T d 197 82 [l0, .int x, l2, l3, l4, l5, l6, l7, l8] st h Q ↔ T d 197 83 [l0, .int x, l2, l3, l4, l5, l6, l7, l8] (.int x :: st) h Q := T_iload_n c197_82 rfl
theorem c197_83 : cod 197 83 = some (.iadd, 1) := cod_of b197 dX8_ask_83
theorem t197_83 {d : Nat} {h : Hp} {Q : Pst} {x y : Int32} {ls : List Value} {st : List Value} : T d 197 83 ls (.int y :: .int x :: st) h Q ↔ T d 197 84 ls (.int (x + y) :: st) h Q := T_iadd c197_83
theorem c197_84 : cod 197 84 = some (.iaload, 1) := cod_of b197 dX8_ask_84
theorem t197_84 {d : Nat} {h : Hp} {Q : Pst} {a : Nat} {i : Int32} {ls : List Value} {st : List Value} : T d 197 84 ls (.int i :: .ref a :: st) h Q ↔ aL (h.2.2 a) i (fun x => T d 197 85 ls (.int x :: st) h Q) := T_iaload c197_84
theorem c197_85 : cod 197 85 = some (.iload 6, 2) := cod_of b197 dX8_ask_85
theorem t197_85 {d : Nat} {h : Hp} {Q : Pst} {l0 l1 l2 l3 l4 l5 l7 l8 : Value} {x : Int32} {st : List Value} : T d 197 85 [l0, l1, l2, l3, l4, l5, .int x, l7, l8] st h Q ↔ T d 197 87 [l0, l1, l2, l3, l4, l5, .int x, l7, l8] (.int x :: st) h Q := T_iload c197_85 rfl
theorem c197_87 : cod 197 87 = some (.invokestatic 136, 3) := cod_of b197 dX8_ask_87
theorem t197_87 {d : Nat} {h : Hp} {Q : Pst} {a0 a1 a2 s0 s1 : Int32} {s2 : Nat} {ls : List Value} : T (d + 1) 197 87 ls [.int a2, .int a1, .int a0, .int s0, .int s1, .ref s2] h Q ↔ T d 154 0 [.int a0, .int a1, .int a2, un, un] [] h (fun x h2 => T (d + 1) 197 90 ls (rl x [.int s0, .int s1, .ref s2]) h2 Q) := T_staticR (as := [.int a0, .int a1, .int a2]) (r := [.int s0, .int s1, .ref s2]) m197 m154 c197_87 k8_136 (Or.inl rfl) rfl (by decide) rfl (by simp [wrd, Value.category]) (by simp [stk, Value.category]) rfl
theorem c197_90 : cod 197 90 = some (.if_icmp .lt 7, 3) := cod_of b197 dX8_ask_90
theorem t197_90 {d : Nat} {h : Hp} {Q : Pst} {x y : Int32} {ls : List Value} {st : List Value} : T d 197 90 ls (.int y :: .int x :: st) h Q ↔ (if x < y then T d 197 97 ls st h Q else T d 197 93 ls st h Q) := T_icmp_lt c197_90 (by decide)
theorem c197_93 : cod 197 93 = some (.iconst 1, 1) := cod_of b197 dX8_ask_93
theorem t197_93 {d : Nat} {h : Hp} {Q : Pst} {ls : List Value} {st : List Value} : T d 197 93 ls st h Q ↔ T d 197 94 ls (.int 1 :: st) h Q := T_iconstV c197_93 (by decide)
theorem c197_94 : cod 197 94 = some (.goto 4, 3) := cod_of b197 dX8_ask_94
theorem t197_94 {d : Nat} {h : Hp} {Q : Pst} {ls : List Value} {st : List Value} : T d 197 94 ls st h Q ↔ T d 197 98 ls st h Q := T_goto c197_94 (by decide)
theorem c197_98 : cod 197 98 = some (.iastore, 1) := cod_of b197 dX8_ask_98
theorem t197_98 {d : Nat} {h : Hp} {Q : Pst} {a : Nat} {i x : Int32} {ls : List Value} {st : List Value} : T d 197 98 ls (.int x :: .int i :: .ref a :: st) h Q ↔ aS (h.2.2 a) i x (fun cell => T d 197 99 ls st (hup h a cell) Q) := T_iastore c197_98
theorem c197_99 : cod 197 99 = some (.iinc 8 1, 3) := cod_of b197 dX8_ask_99
theorem t197_99 {d : Nat} {h : Hp} {Q : Pst} {l0 l1 l2 l3 l4 l5 l6 l7 : Value} {x : Int32} {st : List Value} : T d 197 99 [l0, l1, l2, l3, l4, l5, l6, l7, .int x] st h Q ↔ T d 197 102 [l0, l1, l2, l3, l4, l5, l6, kil l7, .int (x + 1)] st h Q := T_iincV c197_99 rfl (Nat.le_of_ble_eq_true rfl) (by decide) rfl
theorem c197_102 : cod 197 102 = some (.goto (-43), 3) := cod_of b197 dX8_ask_102
theorem t197_102 {d : Nat} {h : Hp} {Q : Pst} {ls : List Value} {st : List Value} : T d 197 102 ls st h Q ↔ T d 197 59 ls st h Q := T_goto c197_102 (by decide)
theorem c197_97 : cod 197 97 = some (.iconst 0, 1) := cod_of b197 dX8_ask_97
theorem t197_97 {d : Nat} {h : Hp} {Q : Pst} {ls : List Value} {st : List Value} : T d 197 97 ls st h Q ↔ T d 197 98 ls (.int 0 :: st) h Q := T_iconstV c197_97 (by decide)
theorem c197_105 : cod 197 105 = some (.aload_n 0, 1) := cod_of b197 dX8_ask_105
theorem t197_105 {d : Nat} {h : Hp} {Q : Pst} {l1 l2 l3 l4 l5 l6 l7 l8 : Value} {x : Nat} {st : List Value} : T d 197 105 [.ref x, l1, l2, l3, l4, l5, l6, l7, l8] st h Q ↔ T d 197 106 [.ref x, l1, l2, l3, l4, l5, l6, l7, l8] (.ref x :: st) h Q := T_aload_n c197_105 rfl
theorem c197_106 : cod 197 106 = some (.iload_n 2, 1) := cod_of b197 dX8_ask_106
theorem t197_106 {d : Nat} {h : Hp} {Q : Pst} {l0 l1 l3 l4 l5 l6 l7 l8 : Value} {x : Int32} {st : List Value} : T d 197 106 [l0, l1, .int x, l3, l4, l5, l6, l7, l8] st h Q ↔ T d 197 107 [l0, l1, .int x, l3, l4, l5, l6, l7, l8] (.int x :: st) h Q := T_iload_n c197_106 rfl
theorem c197_107 : cod 197 107 = some (.invokevirtual 194, 3) := cod_of b197 dX8_ask_107
theorem t197_107 {d : Nat} {h : Hp} {Q : Pst} {a0 : Int32} {a : Nat} {ls : List Value} (ho : isO (h.2.2 a) 7) : T (d + 1) 197 107 ls [.int a0, .ref a] h Q ↔ T d 193 0 [.ref a, .int a0, un, un, un, un] [] h (fun x h2 => T (d + 1) 197 110 ls (rl x []) h2 Q) := T_virtualR (as := [.int a0]) (r := []) m197 m193 c197_107 k8_194  rfl (by decide) rfl (by simp [wrd, Value.category]) (by simp [stk, Value.category]) rfl (by decide +kernel) ho
theorem c197_110 : cod 197 110 = some (.istore 8, 2) := cod_of b197 dX8_ask_110
theorem t197_110 {d : Nat} {h : Hp} {Q : Pst} {l0 l1 l2 l3 l4 l5 l6 l7 l8 : Value} {x : Int32} {st : List Value} : T d 197 110 [l0, l1, l2, l3, l4, l5, l6, l7, l8] (.int x :: st) h Q ↔ T d 197 112 [l0, l1, l2, l3, l4, l5, l6, kil l7, .int x] st h Q := T_istore c197_110 (Nat.le_of_ble_eq_true rfl)
theorem c197_112 : cod 197 112 = some (.iload 8, 2) := cod_of b197 dX8_ask_112
theorem t197_112 {d : Nat} {h : Hp} {Q : Pst} {l0 l1 l2 l3 l4 l5 l6 l7 : Value} {x : Int32} {st : List Value} : T d 197 112 [l0, l1, l2, l3, l4, l5, l6, l7, .int x] st h Q ↔ T d 197 114 [l0, l1, l2, l3, l4, l5, l6, l7, .int x] (.int x :: st) h Q := T_iload c197_112 rfl
theorem c197_114 : cod 197 114 = some (.iload 4, 2) := cod_of b197 dX8_ask_114
theorem t197_114 {d : Nat} {h : Hp} {Q : Pst} {l0 l1 l2 l3 l5 l6 l7 l8 : Value} {x : Int32} {st : List Value} : T d 197 114 [l0, l1, l2, l3, .int x, l5, l6, l7, l8] st h Q ↔ T d 197 116 [l0, l1, l2, l3, .int x, l5, l6, l7, l8] (.int x :: st) h Q := T_iload c197_114 rfl
theorem c197_116 : cod 197 116 = some (.if_icmp .ge 14, 3) := cod_of b197 dX8_ask_116
theorem t197_116 {d : Nat} {h : Hp} {Q : Pst} {x y : Int32} {ls : List Value} {st : List Value} : T d 197 116 ls (.int y :: .int x :: st) h Q ↔ (if y ≤ x then T d 197 130 ls st h Q else T d 197 119 ls st h Q) := T_icmp_ge c197_116 (by decide)
theorem c197_119 : cod 197 119 = some (.bipush 100, 2) := cod_of b197 dX8_ask_119
theorem t197_119 {d : Nat} {h : Hp} {Q : Pst} {ls : List Value} {st : List Value} : T d 197 119 ls st h Q ↔ T d 197 121 ls (.int 100 :: st) h Q := T_bipushV c197_119 (by decide)
theorem c197_121 : cod 197 121 = some (.iload 6, 2) := cod_of b197 dX8_ask_121
theorem t197_121 {d : Nat} {h : Hp} {Q : Pst} {l0 l1 l2 l3 l4 l5 l7 l8 : Value} {x : Int32} {st : List Value} : T d 197 121 [l0, l1, l2, l3, l4, l5, .int x, l7, l8] st h Q ↔ T d 197 123 [l0, l1, l2, l3, l4, l5, .int x, l7, l8] (.int x :: st) h Q := T_iload c197_121 rfl
theorem c197_123 : cod 197 123 = some (.imul, 1) := cod_of b197 dX8_ask_123
theorem t197_123 {d : Nat} {h : Hp} {Q : Pst} {x y : Int32} {ls : List Value} {st : List Value} : T d 197 123 ls (.int y :: .int x :: st) h Q ↔ T d 197 124 ls (.int (x * y) :: st) h Q := T_imul c197_123
theorem c197_124 : cod 197 124 = some (.iload 7, 2) := cod_of b197 dX8_ask_124
theorem t197_124 {d : Nat} {h : Hp} {Q : Pst} {l0 l1 l2 l3 l4 l5 l6 l8 : Value} {x : Int32} {st : List Value} : T d 197 124 [l0, l1, l2, l3, l4, l5, l6, .int x, l8] st h Q ↔ T d 197 126 [l0, l1, l2, l3, l4, l5, l6, .int x, l8] (.int x :: st) h Q := T_iload c197_124 rfl
theorem c197_126 : cod 197 126 = some (.iadd, 1) := cod_of b197 dX8_ask_126
theorem t197_126 {d : Nat} {h : Hp} {Q : Pst} {x y : Int32} {ls : List Value} {st : List Value} : T d 197 126 ls (.int y :: .int x :: st) h Q ↔ T d 197 127 ls (.int (x + y) :: st) h Q := T_iadd c197_126
theorem c197_127 : cod 197 127 = some (.goto 4, 3) := cod_of b197 dX8_ask_127
theorem t197_127 {d : Nat} {h : Hp} {Q : Pst} {ls : List Value} {st : List Value} : T d 197 127 ls st h Q ↔ T d 197 131 ls st h Q := T_goto c197_127 (by decide)
theorem c197_131 : cod 197 131 = some (.istore_n 3, 1) := cod_of b197 dX8_ask_131
theorem t197_131 {d : Nat} {h : Hp} {Q : Pst} {l0 l1 l2 l3 l4 l5 l6 l7 l8 : Value} {x : Int32} {st : List Value} : T d 197 131 [l0, l1, l2, l3, l4, l5, l6, l7, l8] (.int x :: st) h Q ↔ T d 197 132 [l0, l1, kil l2, .int x, l4, l5, l6, l7, l8] st h Q := T_istore_n c197_131 (Nat.le_of_ble_eq_true rfl)
theorem c197_132 : cod 197 132 = some (.iload 8, 2) := cod_of b197 dX8_ask_132
theorem t197_132 {d : Nat} {h : Hp} {Q : Pst} {l0 l1 l2 l3 l4 l5 l6 l7 : Value} {x : Int32} {st : List Value} : T d 197 132 [l0, l1, l2, l3, l4, l5, l6, l7, .int x] st h Q ↔ T d 197 134 [l0, l1, l2, l3, l4, l5, l6, l7, .int x] (.int x :: st) h Q := T_iload c197_132 rfl
theorem c197_134 : cod 197 134 = some (.iload 4, 2) := cod_of b197 dX8_ask_134
theorem t197_134 {d : Nat} {h : Hp} {Q : Pst} {l0 l1 l2 l3 l5 l6 l7 l8 : Value} {x : Int32} {st : List Value} : T d 197 134 [l0, l1, l2, l3, .int x, l5, l6, l7, l8] st h Q ↔ T d 197 136 [l0, l1, l2, l3, .int x, l5, l6, l7, l8] (.int x :: st) h Q := T_iload c197_134 rfl
theorem c197_136 : cod 197 136 = some (.if_icmp .ge 8, 3) := cod_of b197 dX8_ask_136
theorem t197_136 {d : Nat} {h : Hp} {Q : Pst} {x y : Int32} {ls : List Value} {st : List Value} : T d 197 136 ls (.int y :: .int x :: st) h Q ↔ (if y ≤ x then T d 197 144 ls st h Q else T d 197 139 ls st h Q) := T_icmp_ge c197_136 (by decide)
theorem c197_139 : cod 197 139 = some (.iload 8, 2) := cod_of b197 dX8_ask_139
theorem t197_139 {d : Nat} {h : Hp} {Q : Pst} {l0 l1 l2 l3 l4 l5 l6 l7 : Value} {x : Int32} {st : List Value} : T d 197 139 [l0, l1, l2, l3, l4, l5, l6, l7, .int x] st h Q ↔ T d 197 141 [l0, l1, l2, l3, l4, l5, l6, l7, .int x] (.int x :: st) h Q := T_iload c197_139 rfl
theorem c197_141 : cod 197 141 = some (.goto 5, 3) := cod_of b197 dX8_ask_141
theorem t197_141 {d : Nat} {h : Hp} {Q : Pst} {ls : List Value} {st : List Value} : T d 197 141 ls st h Q ↔ T d 197 146 ls st h Q := T_goto c197_141 (by decide)
theorem c197_146 : cod 197 146 = some (.istore 4, 2) := cod_of b197 dX8_ask_146
theorem t197_146 {d : Nat} {h : Hp} {Q : Pst} {l0 l1 l2 l3 l4 l5 l6 l7 l8 : Value} {x : Int32} {st : List Value} : T d 197 146 [l0, l1, l2, l3, l4, l5, l6, l7, l8] (.int x :: st) h Q ↔ T d 197 148 [l0, l1, l2, kil l3, .int x, l5, l6, l7, l8] st h Q := T_istore c197_146 (Nat.le_of_ble_eq_true rfl)
theorem c197_148 : cod 197 148 = some (.iinc 5 1, 3) := cod_of b197 dX8_ask_148
theorem t197_148 {d : Nat} {h : Hp} {Q : Pst} {l0 l1 l2 l3 l4 l6 l7 l8 : Value} {x : Int32} {st : List Value} : T d 197 148 [l0, l1, l2, l3, l4, .int x, l6, l7, l8] st h Q ↔ T d 197 151 [l0, l1, l2, l3, kil l4, .int (x + 1), l6, l7, l8] st h Q := T_iincV c197_148 rfl (Nat.le_of_ble_eq_true rfl) (by decide) rfl
theorem c197_151 : cod 197 151 = some (.goto (-121), 3) := cod_of b197 dX8_ask_151
theorem t197_151 {d : Nat} {h : Hp} {Q : Pst} {ls : List Value} {st : List Value} : T d 197 151 ls st h Q ↔ T d 197 30 ls st h Q := T_goto c197_151 (by decide)
theorem c197_144 : cod 197 144 = some (.iload 4, 2) := cod_of b197 dX8_ask_144
theorem t197_144 {d : Nat} {h : Hp} {Q : Pst} {l0 l1 l2 l3 l5 l6 l7 l8 : Value} {x : Int32} {st : List Value} : T d 197 144 [l0, l1, l2, l3, .int x, l5, l6, l7, l8] st h Q ↔ T d 197 146 [l0, l1, l2, l3, .int x, l5, l6, l7, l8] (.int x :: st) h Q := T_iload c197_144 rfl
theorem c197_130 : cod 197 130 = some (.iload_n 3, 1) := cod_of b197 dX8_ask_130
theorem t197_130 {d : Nat} {h : Hp} {Q : Pst} {l0 l1 l2 l4 l5 l6 l7 l8 : Value} {x : Int32} {st : List Value} : T d 197 130 [l0, l1, l2, .int x, l4, l5, l6, l7, l8] st h Q ↔ T d 197 131 [l0, l1, l2, .int x, l4, l5, l6, l7, l8] (.int x :: st) h Q := T_iload_n c197_130 rfl
theorem c197_154 : cod 197 154 = some (.iload_n 3, 1) := cod_of b197 dX8_ask_154
theorem t197_154 {d : Nat} {h : Hp} {Q : Pst} {l0 l1 l2 l4 l5 l6 l7 l8 : Value} {x : Int32} {st : List Value} : T d 197 154 [l0, l1, l2, .int x, l4, l5, l6, l7, l8] st h Q ↔ T d 197 155 [l0, l1, l2, .int x, l4, l5, l6, l7, l8] (.int x :: st) h Q := T_iload_n c197_154 rfl
theorem c197_155 : cod 197 155 = some (.ireturn, 1) := cod_of b197 dX8_ask_155
theorem t197_155 {d : Nat} {h : Hp} {Q : Pst} {x : Int32} {ls : List Value} : T d 197 155 ls [.int x] h Q ↔ Q (some (.int x)) h := T_iretR m197 c197_155 rfl
theorem b198 : (mR 198).2.2.1 = cX8_gets := by rw [m198]
theorem c198_0 : cod 198 0 = some (.iload_n 1, 1) := cod_of b198 dX8_gets_0
theorem t198_0 {d : Nat} {h : Hp} {Q : Pst} {l0 : Value} {x : Int32} {st : List Value} : T d 198 0 [l0, .int x] st h Q ↔ T d 198 1 [l0, .int x] (.int x :: st) h Q := T_iload_n c198_0 rfl
theorem c198_1 : cod 198 1 = some (.iload_n 0, 1) := cod_of b198 dX8_gets_1
theorem t198_1 {d : Nat} {h : Hp} {Q : Pst} {l1 : Value} {x : Int32} {st : List Value} : T d 198 1 [.int x, l1] st h Q ↔ T d 198 2 [.int x, l1] (.int x :: st) h Q := T_iload_n c198_1 rfl
theorem c198_2 : cod 198 2 = some (.if_icmp .lt 9, 3) := cod_of b198 dX8_gets_2
theorem t198_2 {d : Nat} {h : Hp} {Q : Pst} {x y : Int32} {ls : List Value} {st : List Value} : T d 198 2 ls (.int y :: .int x :: st) h Q ↔ (if x < y then T d 198 11 ls st h Q else T d 198 5 ls st h Q) := T_icmp_lt c198_2 (by decide)
theorem c198_5 : cod 198 5 = some (.iload_n 0, 1) := cod_of b198 dX8_gets_5
theorem t198_5 {d : Nat} {h : Hp} {Q : Pst} {l1 : Value} {x : Int32} {st : List Value} : T d 198 5 [.int x, l1] st h Q ↔ T d 198 6 [.int x, l1] (.int x :: st) h Q := T_iload_n c198_5 rfl
theorem c198_6 : cod 198 6 = some (.iconst 2, 1) := cod_of b198 dX8_gets_6
theorem t198_6 {d : Nat} {h : Hp} {Q : Pst} {ls : List Value} {st : List Value} : T d 198 6 ls st h Q ↔ T d 198 7 ls (.int 2 :: st) h Q := T_iconstV c198_6 (by decide)
theorem c198_7 : cod 198 7 = some (.isub, 1) := cod_of b198 dX8_gets_7
theorem t198_7 {d : Nat} {h : Hp} {Q : Pst} {x y : Int32} {ls : List Value} {st : List Value} : T d 198 7 ls (.int y :: .int x :: st) h Q ↔ T d 198 8 ls (.int (x - y) :: st) h Q := T_isub c198_7
theorem c198_8 : cod 198 8 = some (.goto 4, 3) := cod_of b198 dX8_gets_8
theorem t198_8 {d : Nat} {h : Hp} {Q : Pst} {ls : List Value} {st : List Value} : T d 198 8 ls st h Q ↔ T d 198 12 ls st h Q := T_goto c198_8 (by decide)
theorem c198_12 : cod 198 12 = some (.ireturn, 1) := cod_of b198 dX8_gets_12
theorem t198_12 {d : Nat} {h : Hp} {Q : Pst} {x : Int32} {ls : List Value} : T d 198 12 ls [.int x] h Q ↔ Q (some (.int x)) h := T_iretR m198 c198_12 rfl
theorem c198_11 : cod 198 11 = some (.iload_n 0, 1) := cod_of b198 dX8_gets_11
theorem t198_11 {d : Nat} {h : Hp} {Q : Pst} {l1 : Value} {x : Int32} {st : List Value} : T d 198 11 [.int x, l1] st h Q ↔ T d 198 12 [.int x, l1] (.int x :: st) h Q := T_iload_n c198_11 rfl
theorem b199 : (mR 199).2.2.1 = cX8_rests := by rw [m199]
theorem c199_0 : cod 199 0 = some (.iconst 1, 1) := cod_of b199 dX8_rests_0
theorem t199_0 {d : Nat} {h : Hp} {Q : Pst} {ls : List Value} {st : List Value} : T d 199 0 ls st h Q ↔ T d 199 1 ls (.int 1 :: st) h Q := T_iconstV c199_0 (by decide)
theorem c199_1 : cod 199 1 = some (.istore_n 3, 1) := cod_of b199 dX8_rests_1
theorem t199_1 {d : Nat} {h : Hp} {Q : Pst} {l0 l1 l2 l3 l4 : Value} {x : Int32} {st : List Value} : T d 199 1 [l0, l1, l2, l3, l4] (.int x :: st) h Q ↔ T d 199 2 [l0, l1, kil l2, .int x, l4] st h Q := T_istore_n c199_1 (Nat.le_of_ble_eq_true rfl)
theorem c199_2 : cod 199 2 = some (.iconst 1, 1) := cod_of b199 dX8_rests_2
theorem t199_2 {d : Nat} {h : Hp} {Q : Pst} {ls : List Value} {st : List Value} : T d 199 2 ls st h Q ↔ T d 199 3 ls (.int 1 :: st) h Q := T_iconstV c199_2 (by decide)
theorem c199_3 : cod 199 3 = some (.istore 4, 2) := cod_of b199 dX8_rests_3
theorem t199_3 {d : Nat} {h : Hp} {Q : Pst} {l0 l1 l2 l3 l4 : Value} {x : Int32} {st : List Value} : T d 199 3 [l0, l1, l2, l3, l4] (.int x :: st) h Q ↔ T d 199 5 [l0, l1, l2, kil l3, .int x] st h Q := T_istore c199_3 (Nat.le_of_ble_eq_true rfl)
theorem c199_5 : cod 199 5 = some (.iload 4, 2) := cod_of b199 dX8_rests_5
theorem t199_5 {d : Nat} {h : Hp} {Q : Pst} {l0 l1 l2 l3 : Value} {x : Int32} {st : List Value} : T d 199 5 [l0, l1, l2, l3, .int x] st h Q ↔ T d 199 7 [l0, l1, l2, l3, .int x] (.int x :: st) h Q := T_iload c199_5 rfl
theorem c199_7 : cod 199 7 = some (.bipush 10, 2) := cod_of b199 dX8_rests_7
theorem t199_7 {d : Nat} {h : Hp} {Q : Pst} {ls : List Value} {st : List Value} : T d 199 7 ls st h Q ↔ T d 199 9 ls (.int 10 :: st) h Q := T_bipushV c199_7 (by decide)
theorem c199_9 : cod 199 9 = some (.if_icmp .ge 87, 3) := cod_of b199 dX8_rests_9
theorem t199_9 {d : Nat} {h : Hp} {Q : Pst} {x y : Int32} {ls : List Value} {st : List Value} : T d 199 9 ls (.int y :: .int x :: st) h Q ↔ (if y ≤ x then T d 199 96 ls st h Q else T d 199 12 ls st h Q) := T_icmp_ge c199_9 (by decide)
theorem c199_12 : cod 199 12 = some (.iload_n 3, 1) := cod_of b199 dX8_rests_12
theorem t199_12 {d : Nat} {h : Hp} {Q : Pst} {l0 l1 l2 l4 : Value} {x : Int32} {st : List Value} : T d 199 12 [l0, l1, l2, .int x, l4] st h Q ↔ T d 199 13 [l0, l1, l2, .int x, l4] (.int x :: st) h Q := T_iload_n c199_12 rfl
theorem c199_13 : cod 199 13 = some (.ifCond .eq 75, 3) := cod_of b199 dX8_rests_13
theorem t199_13 {d : Nat} {h : Hp} {Q : Pst} {x : Int32} {ls : List Value} {st : List Value} : T d 199 13 ls (.int x :: st) h Q ↔ (if x = 0 then T d 199 88 ls st h Q else T d 199 16 ls st h Q) := T_if_eq c199_13 (by decide)
theorem c199_16 : cod 199 16 = some (.aload_n 0, 1) := cod_of b199 dX8_rests_16
theorem t199_16 {d : Nat} {h : Hp} {Q : Pst} {l1 l2 l3 l4 : Value} {x : Nat} {st : List Value} : T d 199 16 [.ref x, l1, l2, l3, l4] st h Q ↔ T d 199 17 [.ref x, l1, l2, l3, l4] (.ref x :: st) h Q := T_aload_n c199_16 rfl
theorem c199_17 : cod 199 17 = some (.getfield 39, 3) := cod_of b199 dX8_rests_17
theorem t199_17 {d : Nat} {h : Hp} {Q : Pst} {a : Nat} {ls : List Value} {st : List Value} : T d 199 17 ls (.ref a :: st) h Q ↔ gF (h.2.2 a) 7 16 (fun v => T d 199 20 ls (v :: st) h Q) := T_getfieldR m199 c199_17 f8_39
theorem c199_20 : cod 199 20 = some (.iload 4, 2) := cod_of b199 dX8_rests_20
theorem t199_20 {d : Nat} {h : Hp} {Q : Pst} {l0 l1 l2 l3 : Value} {x : Int32} {st : List Value} : T d 199 20 [l0, l1, l2, l3, .int x] st h Q ↔ T d 199 22 [l0, l1, l2, l3, .int x] (.int x :: st) h Q := T_iload c199_20 rfl
theorem c199_22 : cod 199 22 = some (.iaload, 1) := cod_of b199 dX8_rests_22
theorem t199_22 {d : Nat} {h : Hp} {Q : Pst} {a : Nat} {i : Int32} {ls : List Value} {st : List Value} : T d 199 22 ls (.int i :: .ref a :: st) h Q ↔ aL (h.2.2 a) i (fun x => T d 199 23 ls (.int x :: st) h Q) := T_iaload c199_22
theorem c199_23 : cod 199 23 = some (.aload_n 0, 1) := cod_of b199 dX8_rests_23
theorem t199_23 {d : Nat} {h : Hp} {Q : Pst} {l1 l2 l3 l4 : Value} {x : Nat} {st : List Value} : T d 199 23 [.ref x, l1, l2, l3, l4] st h Q ↔ T d 199 24 [.ref x, l1, l2, l3, l4] (.ref x :: st) h Q := T_aload_n c199_23 rfl
theorem c199_24 : cod 199 24 = some (.getfield 42, 3) := cod_of b199 dX8_rests_24
theorem t199_24 {d : Nat} {h : Hp} {Q : Pst} {a : Nat} {ls : List Value} {st : List Value} : T d 199 24 ls (.ref a :: st) h Q ↔ gF (h.2.2 a) 7 17 (fun v => T d 199 27 ls (v :: st) h Q) := T_getfieldR m199 c199_24 f8_42
theorem c199_27 : cod 199 27 = some (.iload_n 2, 1) := cod_of b199 dX8_rests_27
theorem t199_27 {d : Nat} {h : Hp} {Q : Pst} {l0 l1 l3 l4 : Value} {x : Int32} {st : List Value} : T d 199 27 [l0, l1, .int x, l3, l4] st h Q ↔ T d 199 28 [l0, l1, .int x, l3, l4] (.int x :: st) h Q := T_iload_n c199_27 rfl
theorem c199_28 : cod 199 28 = some (.iaload, 1) := cod_of b199 dX8_rests_28
theorem t199_28 {d : Nat} {h : Hp} {Q : Pst} {a : Nat} {i : Int32} {ls : List Value} {st : List Value} : T d 199 28 ls (.int i :: .ref a :: st) h Q ↔ aL (h.2.2 a) i (fun x => T d 199 29 ls (.int x :: st) h Q) := T_iaload c199_28
theorem c199_29 : cod 199 29 = some (.invokestatic 200, 3) := cod_of b199 dX8_rests_29
theorem t199_29 {d : Nat} {h : Hp} {Q : Pst} {a0 a1 : Int32} {ls : List Value} : T (d + 1) 199 29 ls [.int a1, .int a0] h Q ↔ T d 198 0 [.int a0, .int a1] [] h (fun x h2 => T (d + 1) 199 32 ls (rl x []) h2 Q) := T_staticR (as := [.int a0, .int a1]) (r := []) m199 m198 c199_29 k8_200 (Or.inl rfl) rfl (by decide) rfl (by simp [wrd, Value.category]) (by simp [stk, Value.category]) rfl
theorem c199_32 : cod 199 32 = some (.aload_n 0, 1) := cod_of b199 dX8_rests_32
theorem t199_32 {d : Nat} {h : Hp} {Q : Pst} {l1 l2 l3 l4 : Value} {x : Nat} {st : List Value} : T d 199 32 [.ref x, l1, l2, l3, l4] st h Q ↔ T d 199 33 [.ref x, l1, l2, l3, l4] (.ref x :: st) h Q := T_aload_n c199_32 rfl
theorem c199_33 : cod 199 33 = some (.getfield 39, 3) := cod_of b199 dX8_rests_33
theorem t199_33 {d : Nat} {h : Hp} {Q : Pst} {a : Nat} {ls : List Value} {st : List Value} : T d 199 33 ls (.ref a :: st) h Q ↔ gF (h.2.2 a) 7 16 (fun v => T d 199 36 ls (v :: st) h Q) := T_getfieldR m199 c199_33 f8_39
theorem c199_36 : cod 199 36 = some (.iload_n 1, 1) := cod_of b199 dX8_rests_36
theorem t199_36 {d : Nat} {h : Hp} {Q : Pst} {l0 l2 l3 l4 : Value} {x : Int32} {st : List Value} : T d 199 36 [l0, .int x, l2, l3, l4] st h Q ↔ T d 199 37 [l0, .int x, l2, l3, l4] (.int x :: st) h Q := T_iload_n c199_36 rfl
theorem c199_37 : cod 199 37 = some (.iaload, 1) := cod_of b199 dX8_rests_37
theorem t199_37 {d : Nat} {h : Hp} {Q : Pst} {a : Nat} {i : Int32} {ls : List Value} {st : List Value} : T d 199 37 ls (.int i :: .ref a :: st) h Q ↔ aL (h.2.2 a) i (fun x => T d 199 38 ls (.int x :: st) h Q) := T_iaload c199_37
theorem c199_38 : cod 199 38 = some (.aload_n 0, 1) := cod_of b199 dX8_rests_38
theorem t199_38 {d : Nat} {h : Hp} {Q : Pst} {l1 l2 l3 l4 : Value} {x : Nat} {st : List Value} : T d 199 38 [.ref x, l1, l2, l3, l4] st h Q ↔ T d 199 39 [.ref x, l1, l2, l3, l4] (.ref x :: st) h Q := T_aload_n c199_38 rfl
theorem c199_39 : cod 199 39 = some (.getfield 42, 3) := cod_of b199 dX8_rests_39
theorem t199_39 {d : Nat} {h : Hp} {Q : Pst} {a : Nat} {ls : List Value} {st : List Value} : T d 199 39 ls (.ref a :: st) h Q ↔ gF (h.2.2 a) 7 17 (fun v => T d 199 42 ls (v :: st) h Q) := T_getfieldR m199 c199_39 f8_42
theorem c199_42 : cod 199 42 = some (.iload_n 2, 1) := cod_of b199 dX8_rests_42
theorem t199_42 {d : Nat} {h : Hp} {Q : Pst} {l0 l1 l3 l4 : Value} {x : Int32} {st : List Value} : T d 199 42 [l0, l1, .int x, l3, l4] st h Q ↔ T d 199 43 [l0, l1, .int x, l3, l4] (.int x :: st) h Q := T_iload_n c199_42 rfl
theorem c199_43 : cod 199 43 = some (.iaload, 1) := cod_of b199 dX8_rests_43
theorem t199_43 {d : Nat} {h : Hp} {Q : Pst} {a : Nat} {i : Int32} {ls : List Value} {st : List Value} : T d 199 43 ls (.int i :: .ref a :: st) h Q ↔ aL (h.2.2 a) i (fun x => T d 199 44 ls (.int x :: st) h Q) := T_iaload c199_43
theorem c199_44 : cod 199 44 = some (.invokestatic 200, 3) := cod_of b199 dX8_rests_44
theorem t199_44 {d : Nat} {h : Hp} {Q : Pst} {a0 a1 s0 : Int32} {ls : List Value} : T (d + 1) 199 44 ls [.int a1, .int a0, .int s0] h Q ↔ T d 198 0 [.int a0, .int a1] [] h (fun x h2 => T (d + 1) 199 47 ls (rl x [.int s0]) h2 Q) := T_staticR (as := [.int a0, .int a1]) (r := [.int s0]) m199 m198 c199_44 k8_200 (Or.inl rfl) rfl (by decide) rfl (by simp [wrd, Value.category]) (by simp [stk, Value.category]) rfl
theorem c199_47 : cod 199 47 = some (.if_icmp .gt 41, 3) := cod_of b199 dX8_rests_47
theorem t199_47 {d : Nat} {h : Hp} {Q : Pst} {x y : Int32} {ls : List Value} {st : List Value} : T d 199 47 ls (.int y :: .int x :: st) h Q ↔ (if y < x then T d 199 88 ls st h Q else T d 199 50 ls st h Q) := T_icmp_gt c199_47 (by decide)
theorem c199_50 : cod 199 50 = some (.aload_n 0, 1) := cod_of b199 dX8_rests_50
theorem t199_50 {d : Nat} {h : Hp} {Q : Pst} {l1 l2 l3 l4 : Value} {x : Nat} {st : List Value} : T d 199 50 [.ref x, l1, l2, l3, l4] st h Q ↔ T d 199 51 [.ref x, l1, l2, l3, l4] (.ref x :: st) h Q := T_aload_n c199_50 rfl
theorem c199_51 : cod 199 51 = some (.getfield 42, 3) := cod_of b199 dX8_rests_51
theorem t199_51 {d : Nat} {h : Hp} {Q : Pst} {a : Nat} {ls : List Value} {st : List Value} : T d 199 51 ls (.ref a :: st) h Q ↔ gF (h.2.2 a) 7 17 (fun v => T d 199 54 ls (v :: st) h Q) := T_getfieldR m199 c199_51 f8_42
theorem c199_54 : cod 199 54 = some (.iload 4, 2) := cod_of b199 dX8_rests_54
theorem t199_54 {d : Nat} {h : Hp} {Q : Pst} {l0 l1 l2 l3 : Value} {x : Int32} {st : List Value} : T d 199 54 [l0, l1, l2, l3, .int x] st h Q ↔ T d 199 56 [l0, l1, l2, l3, .int x] (.int x :: st) h Q := T_iload c199_54 rfl
theorem c199_56 : cod 199 56 = some (.iaload, 1) := cod_of b199 dX8_rests_56
theorem t199_56 {d : Nat} {h : Hp} {Q : Pst} {a : Nat} {i : Int32} {ls : List Value} {st : List Value} : T d 199 56 ls (.int i :: .ref a :: st) h Q ↔ aL (h.2.2 a) i (fun x => T d 199 57 ls (.int x :: st) h Q) := T_iaload c199_56
theorem c199_57 : cod 199 57 = some (.aload_n 0, 1) := cod_of b199 dX8_rests_57
theorem t199_57 {d : Nat} {h : Hp} {Q : Pst} {l1 l2 l3 l4 : Value} {x : Nat} {st : List Value} : T d 199 57 [.ref x, l1, l2, l3, l4] st h Q ↔ T d 199 58 [.ref x, l1, l2, l3, l4] (.ref x :: st) h Q := T_aload_n c199_57 rfl
theorem c199_58 : cod 199 58 = some (.getfield 39, 3) := cod_of b199 dX8_rests_58
theorem t199_58 {d : Nat} {h : Hp} {Q : Pst} {a : Nat} {ls : List Value} {st : List Value} : T d 199 58 ls (.ref a :: st) h Q ↔ gF (h.2.2 a) 7 16 (fun v => T d 199 61 ls (v :: st) h Q) := T_getfieldR m199 c199_58 f8_39
theorem c199_61 : cod 199 61 = some (.iload_n 1, 1) := cod_of b199 dX8_rests_61
theorem t199_61 {d : Nat} {h : Hp} {Q : Pst} {l0 l2 l3 l4 : Value} {x : Int32} {st : List Value} : T d 199 61 [l0, .int x, l2, l3, l4] st h Q ↔ T d 199 62 [l0, .int x, l2, l3, l4] (.int x :: st) h Q := T_iload_n c199_61 rfl
theorem c199_62 : cod 199 62 = some (.iaload, 1) := cod_of b199 dX8_rests_62
theorem t199_62 {d : Nat} {h : Hp} {Q : Pst} {a : Nat} {i : Int32} {ls : List Value} {st : List Value} : T d 199 62 ls (.int i :: .ref a :: st) h Q ↔ aL (h.2.2 a) i (fun x => T d 199 63 ls (.int x :: st) h Q) := T_iaload c199_62
theorem c199_63 : cod 199 63 = some (.invokestatic 200, 3) := cod_of b199 dX8_rests_63
theorem t199_63 {d : Nat} {h : Hp} {Q : Pst} {a0 a1 : Int32} {ls : List Value} : T (d + 1) 199 63 ls [.int a1, .int a0] h Q ↔ T d 198 0 [.int a0, .int a1] [] h (fun x h2 => T (d + 1) 199 66 ls (rl x []) h2 Q) := T_staticR (as := [.int a0, .int a1]) (r := []) m199 m198 c199_63 k8_200 (Or.inl rfl) rfl (by decide) rfl (by simp [wrd, Value.category]) (by simp [stk, Value.category]) rfl
theorem c199_66 : cod 199 66 = some (.aload_n 0, 1) := cod_of b199 dX8_rests_66
theorem t199_66 {d : Nat} {h : Hp} {Q : Pst} {l1 l2 l3 l4 : Value} {x : Nat} {st : List Value} : T d 199 66 [.ref x, l1, l2, l3, l4] st h Q ↔ T d 199 67 [.ref x, l1, l2, l3, l4] (.ref x :: st) h Q := T_aload_n c199_66 rfl
theorem c199_67 : cod 199 67 = some (.getfield 42, 3) := cod_of b199 dX8_rests_67
theorem t199_67 {d : Nat} {h : Hp} {Q : Pst} {a : Nat} {ls : List Value} {st : List Value} : T d 199 67 ls (.ref a :: st) h Q ↔ gF (h.2.2 a) 7 17 (fun v => T d 199 70 ls (v :: st) h Q) := T_getfieldR m199 c199_67 f8_42
theorem c199_70 : cod 199 70 = some (.iload_n 2, 1) := cod_of b199 dX8_rests_70
theorem t199_70 {d : Nat} {h : Hp} {Q : Pst} {l0 l1 l3 l4 : Value} {x : Int32} {st : List Value} : T d 199 70 [l0, l1, .int x, l3, l4] st h Q ↔ T d 199 71 [l0, l1, .int x, l3, l4] (.int x :: st) h Q := T_iload_n c199_70 rfl
theorem c199_71 : cod 199 71 = some (.iaload, 1) := cod_of b199 dX8_rests_71
theorem t199_71 {d : Nat} {h : Hp} {Q : Pst} {a : Nat} {i : Int32} {ls : List Value} {st : List Value} : T d 199 71 ls (.int i :: .ref a :: st) h Q ↔ aL (h.2.2 a) i (fun x => T d 199 72 ls (.int x :: st) h Q) := T_iaload c199_71
theorem c199_72 : cod 199 72 = some (.aload_n 0, 1) := cod_of b199 dX8_rests_72
theorem t199_72 {d : Nat} {h : Hp} {Q : Pst} {l1 l2 l3 l4 : Value} {x : Nat} {st : List Value} : T d 199 72 [.ref x, l1, l2, l3, l4] st h Q ↔ T d 199 73 [.ref x, l1, l2, l3, l4] (.ref x :: st) h Q := T_aload_n c199_72 rfl
theorem c199_73 : cod 199 73 = some (.getfield 39, 3) := cod_of b199 dX8_rests_73
theorem t199_73 {d : Nat} {h : Hp} {Q : Pst} {a : Nat} {ls : List Value} {st : List Value} : T d 199 73 ls (.ref a :: st) h Q ↔ gF (h.2.2 a) 7 16 (fun v => T d 199 76 ls (v :: st) h Q) := T_getfieldR m199 c199_73 f8_39
theorem c199_76 : cod 199 76 = some (.iload_n 1, 1) := cod_of b199 dX8_rests_76
theorem t199_76 {d : Nat} {h : Hp} {Q : Pst} {l0 l2 l3 l4 : Value} {x : Int32} {st : List Value} : T d 199 76 [l0, .int x, l2, l3, l4] st h Q ↔ T d 199 77 [l0, .int x, l2, l3, l4] (.int x :: st) h Q := T_iload_n c199_76 rfl
theorem c199_77 : cod 199 77 = some (.iaload, 1) := cod_of b199 dX8_rests_77
theorem t199_77 {d : Nat} {h : Hp} {Q : Pst} {a : Nat} {i : Int32} {ls : List Value} {st : List Value} : T d 199 77 ls (.int i :: .ref a :: st) h Q ↔ aL (h.2.2 a) i (fun x => T d 199 78 ls (.int x :: st) h Q) := T_iaload c199_77
theorem c199_78 : cod 199 78 = some (.invokestatic 200, 3) := cod_of b199 dX8_rests_78
theorem t199_78 {d : Nat} {h : Hp} {Q : Pst} {a0 a1 s0 : Int32} {ls : List Value} : T (d + 1) 199 78 ls [.int a1, .int a0, .int s0] h Q ↔ T d 198 0 [.int a0, .int a1] [] h (fun x h2 => T (d + 1) 199 81 ls (rl x [.int s0]) h2 Q) := T_staticR (as := [.int a0, .int a1]) (r := [.int s0]) m199 m198 c199_78 k8_200 (Or.inl rfl) rfl (by decide) rfl (by simp [wrd, Value.category]) (by simp [stk, Value.category]) rfl
theorem c199_81 : cod 199 81 = some (.if_icmp .gt 7, 3) := cod_of b199 dX8_rests_81
theorem t199_81 {d : Nat} {h : Hp} {Q : Pst} {x y : Int32} {ls : List Value} {st : List Value} : T d 199 81 ls (.int y :: .int x :: st) h Q ↔ (if y < x then T d 199 88 ls st h Q else T d 199 84 ls st h Q) := T_icmp_gt c199_81 (by decide)
theorem c199_84 : cod 199 84 = some (.iconst 1, 1) := cod_of b199 dX8_rests_84
theorem t199_84 {d : Nat} {h : Hp} {Q : Pst} {ls : List Value} {st : List Value} : T d 199 84 ls st h Q ↔ T d 199 85 ls (.int 1 :: st) h Q := T_iconstV c199_84 (by decide)
theorem c199_85 : cod 199 85 = some (.goto 4, 3) := cod_of b199 dX8_rests_85
theorem t199_85 {d : Nat} {h : Hp} {Q : Pst} {ls : List Value} {st : List Value} : T d 199 85 ls st h Q ↔ T d 199 89 ls st h Q := T_goto c199_85 (by decide)
theorem c199_89 : cod 199 89 = some (.istore_n 3, 1) := cod_of b199 dX8_rests_89
theorem t199_89 {d : Nat} {h : Hp} {Q : Pst} {l0 l1 l2 l3 l4 : Value} {x : Int32} {st : List Value} : T d 199 89 [l0, l1, l2, l3, l4] (.int x :: st) h Q ↔ T d 199 90 [l0, l1, kil l2, .int x, l4] st h Q := T_istore_n c199_89 (Nat.le_of_ble_eq_true rfl)
theorem c199_90 : cod 199 90 = some (.iinc 4 1, 3) := cod_of b199 dX8_rests_90
theorem t199_90 {d : Nat} {h : Hp} {Q : Pst} {l0 l1 l2 l3 : Value} {x : Int32} {st : List Value} : T d 199 90 [l0, l1, l2, l3, .int x] st h Q ↔ T d 199 93 [l0, l1, l2, kil l3, .int (x + 1)] st h Q := T_iincV c199_90 rfl (Nat.le_of_ble_eq_true rfl) (by decide) rfl
theorem c199_93 : cod 199 93 = some (.goto (-88), 3) := cod_of b199 dX8_rests_93
theorem t199_93 {d : Nat} {h : Hp} {Q : Pst} {ls : List Value} {st : List Value} : T d 199 93 ls st h Q ↔ T d 199 5 ls st h Q := T_goto c199_93 (by decide)
theorem c199_88 : cod 199 88 = some (.iconst 0, 1) := cod_of b199 dX8_rests_88
theorem t199_88 {d : Nat} {h : Hp} {Q : Pst} {ls : List Value} {st : List Value} : T d 199 88 ls st h Q ↔ T d 199 89 ls (.int 0 :: st) h Q := T_iconstV c199_88 (by decide)
theorem c199_96 : cod 199 96 = some (.iload_n 3, 1) := cod_of b199 dX8_rests_96
theorem t199_96 {d : Nat} {h : Hp} {Q : Pst} {l0 l1 l2 l4 : Value} {x : Int32} {st : List Value} : T d 199 96 [l0, l1, l2, .int x, l4] st h Q ↔ T d 199 97 [l0, l1, l2, .int x, l4] (.int x :: st) h Q := T_iload_n c199_96 rfl
theorem c199_97 : cod 199 97 = some (.ireturn, 1) := cod_of b199 dX8_rests_97
theorem t199_97 {d : Nat} {h : Hp} {Q : Pst} {x : Int32} {ls : List Value} : T d 199 97 ls [.int x] h Q ↔ (narrow .boolean (.int x) = .int x ∧ Q (some (.int x)) h) := T_zretR m199 c199_97 rfl
theorem b200 : (mR 200).2.2.1 = cX8_rivals := by rw [m200]
theorem c200_0 : cod 200 0 = some (.aload_n 0, 1) := cod_of b200 dX8_rivals_0
theorem t200_0 {d : Nat} {h : Hp} {Q : Pst} {l1 l2 l3 l4 l5 l6 l7 : Value} {x : Nat} {st : List Value} : T d 200 0 [.ref x, l1, l2, l3, l4, l5, l6, l7] st h Q ↔ T d 200 1 [.ref x, l1, l2, l3, l4, l5, l6, l7] (.ref x :: st) h Q := T_aload_n c200_0 rfl
theorem c200_1 : cod 200 1 = some (.iload_n 1, 1) := cod_of b200 dX8_rivals_1
theorem t200_1 {d : Nat} {h : Hp} {Q : Pst} {l0 l2 l3 l4 l5 l6 l7 : Value} {x : Int32} {st : List Value} : T d 200 1 [l0, .int x, l2, l3, l4, l5, l6, l7] st h Q ↔ T d 200 2 [l0, .int x, l2, l3, l4, l5, l6, l7] (.int x :: st) h Q := T_iload_n c200_1 rfl
theorem c200_2 : cod 200 2 = some (.invokevirtual 160, 3) := cod_of b200 dX8_rivals_2
theorem t200_2 {d : Nat} {h : Hp} {Q : Pst} {a0 : Int32} {a : Nat} {ls : List Value} (ho : isO (h.2.2 a) 7) : T (d + 1) 200 2 ls [.int a0, .ref a] h Q ↔ T d 164 0 [.ref a, .int a0] [] h (fun x h2 => T (d + 1) 200 5 ls (rl x []) h2 Q) := T_virtualR (as := [.int a0]) (r := []) m200 m164 c200_2 k8_160  rfl (by decide) rfl (by simp [wrd, Value.category]) (by simp [stk, Value.category]) rfl (by decide +kernel) ho
theorem c200_5 : cod 200 5 = some (.ifCond .eq 30, 3) := cod_of b200 dX8_rivals_5
theorem t200_5 {d : Nat} {h : Hp} {Q : Pst} {x : Int32} {ls : List Value} {st : List Value} : T d 200 5 ls (.int x :: st) h Q ↔ (if x = 0 then T d 200 35 ls st h Q else T d 200 8 ls st h Q) := T_if_eq c200_5 (by decide)
theorem c200_8 : cod 200 8 = some (.aload_n 0, 1) := cod_of b200 dX8_rivals_8
theorem t200_8 {d : Nat} {h : Hp} {Q : Pst} {l1 l2 l3 l4 l5 l6 l7 : Value} {x : Nat} {st : List Value} : T d 200 8 [.ref x, l1, l2, l3, l4, l5, l6, l7] st h Q ↔ T d 200 9 [.ref x, l1, l2, l3, l4, l5, l6, l7] (.ref x :: st) h Q := T_aload_n c200_8 rfl
theorem c200_9 : cod 200 9 = some (.iload_n 2, 1) := cod_of b200 dX8_rivals_9
theorem t200_9 {d : Nat} {h : Hp} {Q : Pst} {l0 l1 l3 l4 l5 l6 l7 : Value} {x : Int32} {st : List Value} : T d 200 9 [l0, l1, .int x, l3, l4, l5, l6, l7] st h Q ↔ T d 200 10 [l0, l1, .int x, l3, l4, l5, l6, l7] (.int x :: st) h Q := T_iload_n c200_9 rfl
theorem c200_10 : cod 200 10 = some (.invokevirtual 160, 3) := cod_of b200 dX8_rivals_10
theorem t200_10 {d : Nat} {h : Hp} {Q : Pst} {a0 : Int32} {a : Nat} {ls : List Value} (ho : isO (h.2.2 a) 7) : T (d + 1) 200 10 ls [.int a0, .ref a] h Q ↔ T d 164 0 [.ref a, .int a0] [] h (fun x h2 => T (d + 1) 200 13 ls (rl x []) h2 Q) := T_virtualR (as := [.int a0]) (r := []) m200 m164 c200_10 k8_160  rfl (by decide) rfl (by simp [wrd, Value.category]) (by simp [stk, Value.category]) rfl (by decide +kernel) ho
theorem c200_13 : cod 200 13 = some (.ifCond .eq 22, 3) := cod_of b200 dX8_rivals_13
theorem t200_13 {d : Nat} {h : Hp} {Q : Pst} {x : Int32} {ls : List Value} {st : List Value} : T d 200 13 ls (.int x :: st) h Q ↔ (if x = 0 then T d 200 35 ls st h Q else T d 200 16 ls st h Q) := T_if_eq c200_13 (by decide)
theorem c200_16 : cod 200 16 = some (.iload_n 1, 1) := cod_of b200 dX8_rivals_16
theorem t200_16 {d : Nat} {h : Hp} {Q : Pst} {l0 l2 l3 l4 l5 l6 l7 : Value} {x : Int32} {st : List Value} : T d 200 16 [l0, .int x, l2, l3, l4, l5, l6, l7] st h Q ↔ T d 200 17 [l0, .int x, l2, l3, l4, l5, l6, l7] (.int x :: st) h Q := T_iload_n c200_16 rfl
theorem c200_17 : cod 200 17 = some (.iload_n 2, 1) := cod_of b200 dX8_rivals_17
theorem t200_17 {d : Nat} {h : Hp} {Q : Pst} {l0 l1 l3 l4 l5 l6 l7 : Value} {x : Int32} {st : List Value} : T d 200 17 [l0, l1, .int x, l3, l4, l5, l6, l7] st h Q ↔ T d 200 18 [l0, l1, .int x, l3, l4, l5, l6, l7] (.int x :: st) h Q := T_iload_n c200_17 rfl
theorem c200_18 : cod 200 18 = some (.if_icmp .eq 17, 3) := cod_of b200 dX8_rivals_18
theorem t200_18 {d : Nat} {h : Hp} {Q : Pst} {x y : Int32} {ls : List Value} {st : List Value} : T d 200 18 ls (.int y :: .int x :: st) h Q ↔ (if x = y then T d 200 35 ls st h Q else T d 200 21 ls st h Q) := T_icmp_eq c200_18 (by decide)
theorem c200_21 : cod 200 21 = some (.aload_n 0, 1) := cod_of b200 dX8_rivals_21
theorem t200_21 {d : Nat} {h : Hp} {Q : Pst} {l1 l2 l3 l4 l5 l6 l7 : Value} {x : Nat} {st : List Value} : T d 200 21 [.ref x, l1, l2, l3, l4, l5, l6, l7] st h Q ↔ T d 200 22 [.ref x, l1, l2, l3, l4, l5, l6, l7] (.ref x :: st) h Q := T_aload_n c200_21 rfl
theorem c200_22 : cod 200 22 = some (.iload_n 3, 1) := cod_of b200 dX8_rivals_22
theorem t200_22 {d : Nat} {h : Hp} {Q : Pst} {l0 l1 l2 l4 l5 l6 l7 : Value} {x : Int32} {st : List Value} : T d 200 22 [l0, l1, l2, .int x, l4, l5, l6, l7] st h Q ↔ T d 200 23 [l0, l1, l2, .int x, l4, l5, l6, l7] (.int x :: st) h Q := T_iload_n c200_22 rfl
theorem c200_23 : cod 200 23 = some (.invokevirtual 157, 3) := cod_of b200 dX8_rivals_23
theorem t200_23 {d : Nat} {h : Hp} {Q : Pst} {a0 : Int32} {a : Nat} {ls : List Value} (ho : isO (h.2.2 a) 7) : T (d + 1) 200 23 ls [.int a0, .ref a] h Q ↔ T d 163 0 [.ref a, .int a0] [] h (fun x h2 => T (d + 1) 200 26 ls (rl x []) h2 Q) := T_virtualR (as := [.int a0]) (r := []) m200 m163 c200_23 k8_157  rfl (by decide) rfl (by simp [wrd, Value.category]) (by simp [stk, Value.category]) rfl (by decide +kernel) ho
theorem c200_26 : cod 200 26 = some (.ifCond .eq 9, 3) := cod_of b200 dX8_rivals_26
theorem t200_26 {d : Nat} {h : Hp} {Q : Pst} {x : Int32} {ls : List Value} {st : List Value} : T d 200 26 ls (.int x :: st) h Q ↔ (if x = 0 then T d 200 35 ls st h Q else T d 200 29 ls st h Q) := T_if_eq c200_26 (by decide)
theorem c200_29 : cod 200 29 = some (.iload 4, 2) := cod_of b200 dX8_rivals_29
theorem t200_29 {d : Nat} {h : Hp} {Q : Pst} {l0 l1 l2 l3 l5 l6 l7 : Value} {x : Int32} {st : List Value} : T d 200 29 [l0, l1, l2, l3, .int x, l5, l6, l7] st h Q ↔ T d 200 31 [l0, l1, l2, l3, .int x, l5, l6, l7] (.int x :: st) h Q := T_iload c200_29 rfl
theorem c200_31 : cod 200 31 = some (.iconst (-1), 1) := cod_of b200 dX8_rivals_31
theorem t200_31 {d : Nat} {h : Hp} {Q : Pst} {ls : List Value} {st : List Value} : T d 200 31 ls st h Q ↔ T d 200 32 ls (.int (-1) :: st) h Q := T_iconstV c200_31 (by decide)
theorem c200_32 : cod 200 32 = some (.if_icmp .ge 10, 3) := cod_of b200 dX8_rivals_32
theorem t200_32 {d : Nat} {h : Hp} {Q : Pst} {x y : Int32} {ls : List Value} {st : List Value} : T d 200 32 ls (.int y :: .int x :: st) h Q ↔ (if y ≤ x then T d 200 42 ls st h Q else T d 200 35 ls st h Q) := T_icmp_ge c200_32 (by decide)
theorem c200_42 : cod 200 42 = some (.iconst 1, 1) := cod_of b200 dX8_rivals_42
theorem t200_42 {d : Nat} {h : Hp} {Q : Pst} {ls : List Value} {st : List Value} : T d 200 42 ls st h Q ↔ T d 200 43 ls (.int 1 :: st) h Q := T_iconstV c200_42 (by decide)
theorem c200_43 : cod 200 43 = some (.istore 5, 2) := cod_of b200 dX8_rivals_43
theorem t200_43 {d : Nat} {h : Hp} {Q : Pst} {l0 l1 l2 l3 l4 l5 l6 l7 : Value} {x : Int32} {st : List Value} : T d 200 43 [l0, l1, l2, l3, l4, l5, l6, l7] (.int x :: st) h Q ↔ T d 200 45 [l0, l1, l2, l3, kil l4, .int x, l6, l7] st h Q := T_istore c200_43 (Nat.le_of_ble_eq_true rfl)
theorem c200_45 : cod 200 45 = some (.iload 5, 2) := cod_of b200 dX8_rivals_45
theorem t200_45 {d : Nat} {h : Hp} {Q : Pst} {l0 l1 l2 l3 l4 l6 l7 : Value} {x : Int32} {st : List Value} : T d 200 45 [l0, l1, l2, l3, l4, .int x, l6, l7] st h Q ↔ T d 200 47 [l0, l1, l2, l3, l4, .int x, l6, l7] (.int x :: st) h Q := T_iload c200_45 rfl
theorem c200_47 : cod 200 47 = some (.bipush 10, 2) := cod_of b200 dX8_rivals_47
theorem t200_47 {d : Nat} {h : Hp} {Q : Pst} {ls : List Value} {st : List Value} : T d 200 47 ls st h Q ↔ T d 200 49 ls (.int 10 :: st) h Q := T_bipushV c200_47 (by decide)
theorem c200_49 : cod 200 49 = some (.if_icmp .ge 113, 3) := cod_of b200 dX8_rivals_49
theorem t200_49 {d : Nat} {h : Hp} {Q : Pst} {x y : Int32} {ls : List Value} {st : List Value} : T d 200 49 ls (.int y :: .int x :: st) h Q ↔ (if y ≤ x then T d 200 162 ls st h Q else T d 200 52 ls st h Q) := T_icmp_ge c200_49 (by decide)
theorem c200_52 : cod 200 52 = some (.aload_n 0, 1) := cod_of b200 dX8_rivals_52
theorem t200_52 {d : Nat} {h : Hp} {Q : Pst} {l1 l2 l3 l4 l5 l6 l7 : Value} {x : Nat} {st : List Value} : T d 200 52 [.ref x, l1, l2, l3, l4, l5, l6, l7] st h Q ↔ T d 200 53 [.ref x, l1, l2, l3, l4, l5, l6, l7] (.ref x :: st) h Q := T_aload_n c200_52 rfl
theorem c200_53 : cod 200 53 = some (.getfield 39, 3) := cod_of b200 dX8_rivals_53
theorem t200_53 {d : Nat} {h : Hp} {Q : Pst} {a : Nat} {ls : List Value} {st : List Value} : T d 200 53 ls (.ref a :: st) h Q ↔ gF (h.2.2 a) 7 16 (fun v => T d 200 56 ls (v :: st) h Q) := T_getfieldR m200 c200_53 f8_39
theorem c200_56 : cod 200 56 = some (.iload 5, 2) := cod_of b200 dX8_rivals_56
theorem t200_56 {d : Nat} {h : Hp} {Q : Pst} {l0 l1 l2 l3 l4 l6 l7 : Value} {x : Int32} {st : List Value} : T d 200 56 [l0, l1, l2, l3, l4, .int x, l6, l7] st h Q ↔ T d 200 58 [l0, l1, l2, l3, l4, .int x, l6, l7] (.int x :: st) h Q := T_iload c200_56 rfl
theorem c200_58 : cod 200 58 = some (.aload_n 0, 1) := cod_of b200 dX8_rivals_58
theorem t200_58 {d : Nat} {h : Hp} {Q : Pst} {l1 l2 l3 l4 l5 l6 l7 : Value} {x : Nat} {st : List Value} : T d 200 58 [.ref x, l1, l2, l3, l4, l5, l6, l7] st h Q ↔ T d 200 59 [.ref x, l1, l2, l3, l4, l5, l6, l7] (.ref x :: st) h Q := T_aload_n c200_58 rfl
theorem c200_59 : cod 200 59 = some (.getfield 7, 3) := cod_of b200 dX8_rivals_59
theorem t200_59 {d : Nat} {h : Hp} {Q : Pst} {a : Nat} {ls : List Value} {st : List Value} : T d 200 59 ls (.ref a :: st) h Q ↔ gF (h.2.2 a) 7 0 (fun v => T d 200 62 ls (v :: st) h Q) := T_getfieldR m200 c200_59 f8_7
theorem c200_62 : cod 200 62 = some (.bipush 13, 2) := cod_of b200 dX8_rivals_62
theorem t200_62 {d : Nat} {h : Hp} {Q : Pst} {ls : List Value} {st : List Value} : T d 200 62 ls st h Q ↔ T d 200 64 ls (.int 13 :: st) h Q := T_bipushV c200_62 (by decide)
theorem c200_64 : cod 200 64 = some (.iload_n 3, 1) := cod_of b200 dX8_rivals_64
theorem t200_64 {d : Nat} {h : Hp} {Q : Pst} {l0 l1 l2 l4 l5 l6 l7 : Value} {x : Int32} {st : List Value} : T d 200 64 [l0, l1, l2, .int x, l4, l5, l6, l7] st h Q ↔ T d 200 65 [l0, l1, l2, .int x, l4, l5, l6, l7] (.int x :: st) h Q := T_iload_n c200_64 rfl
theorem c200_65 : cod 200 65 = some (.iadd, 1) := cod_of b200 dX8_rivals_65
theorem t200_65 {d : Nat} {h : Hp} {Q : Pst} {x y : Int32} {ls : List Value} {st : List Value} : T d 200 65 ls (.int y :: .int x :: st) h Q ↔ T d 200 66 ls (.int (x + y) :: st) h Q := T_iadd c200_65
theorem c200_66 : cod 200 66 = some (.iaload, 1) := cod_of b200 dX8_rivals_66
theorem t200_66 {d : Nat} {h : Hp} {Q : Pst} {a : Nat} {i : Int32} {ls : List Value} {st : List Value} : T d 200 66 ls (.int i :: .ref a :: st) h Q ↔ aL (h.2.2 a) i (fun x => T d 200 67 ls (.int x :: st) h Q) := T_iaload c200_66
theorem c200_67 : cod 200 67 = some (.aload_n 0, 1) := cod_of b200 dX8_rivals_67
theorem t200_67 {d : Nat} {h : Hp} {Q : Pst} {l1 l2 l3 l4 l5 l6 l7 : Value} {x : Nat} {st : List Value} : T d 200 67 [.ref x, l1, l2, l3, l4, l5, l6, l7] st h Q ↔ T d 200 68 [.ref x, l1, l2, l3, l4, l5, l6, l7] (.ref x :: st) h Q := T_aload_n c200_67 rfl
theorem c200_68 : cod 200 68 = some (.getfield 7, 3) := cod_of b200 dX8_rivals_68
theorem t200_68 {d : Nat} {h : Hp} {Q : Pst} {a : Nat} {ls : List Value} {st : List Value} : T d 200 68 ls (.ref a :: st) h Q ↔ gF (h.2.2 a) 7 0 (fun v => T d 200 71 ls (v :: st) h Q) := T_getfieldR m200 c200_68 f8_7
theorem c200_71 : cod 200 71 = some (.bipush 19, 2) := cod_of b200 dX8_rivals_71
theorem t200_71 {d : Nat} {h : Hp} {Q : Pst} {ls : List Value} {st : List Value} : T d 200 71 ls st h Q ↔ T d 200 73 ls (.int 19 :: st) h Q := T_bipushV c200_71 (by decide)
theorem c200_73 : cod 200 73 = some (.iload_n 3, 1) := cod_of b200 dX8_rivals_73
theorem t200_73 {d : Nat} {h : Hp} {Q : Pst} {l0 l1 l2 l4 l5 l6 l7 : Value} {x : Int32} {st : List Value} : T d 200 73 [l0, l1, l2, .int x, l4, l5, l6, l7] st h Q ↔ T d 200 74 [l0, l1, l2, .int x, l4, l5, l6, l7] (.int x :: st) h Q := T_iload_n c200_73 rfl
theorem c200_74 : cod 200 74 = some (.iadd, 1) := cod_of b200 dX8_rivals_74
theorem t200_74 {d : Nat} {h : Hp} {Q : Pst} {x y : Int32} {ls : List Value} {st : List Value} : T d 200 74 ls (.int y :: .int x :: st) h Q ↔ T d 200 75 ls (.int (x + y) :: st) h Q := T_iadd c200_74
theorem c200_75 : cod 200 75 = some (.iaload, 1) := cod_of b200 dX8_rivals_75
theorem t200_75 {d : Nat} {h : Hp} {Q : Pst} {a : Nat} {i : Int32} {ls : List Value} {st : List Value} : T d 200 75 ls (.int i :: .ref a :: st) h Q ↔ aL (h.2.2 a) i (fun x => T d 200 76 ls (.int x :: st) h Q) := T_iaload c200_75
theorem c200_76 : cod 200 76 = some (.aload_n 0, 1) := cod_of b200 dX8_rivals_76
theorem t200_76 {d : Nat} {h : Hp} {Q : Pst} {l1 l2 l3 l4 l5 l6 l7 : Value} {x : Nat} {st : List Value} : T d 200 76 [.ref x, l1, l2, l3, l4, l5, l6, l7] st h Q ↔ T d 200 77 [.ref x, l1, l2, l3, l4, l5, l6, l7] (.ref x :: st) h Q := T_aload_n c200_76 rfl
theorem c200_77 : cod 200 77 = some (.getfield 7, 3) := cod_of b200 dX8_rivals_77
theorem t200_77 {d : Nat} {h : Hp} {Q : Pst} {a : Nat} {ls : List Value} {st : List Value} : T d 200 77 ls (.ref a :: st) h Q ↔ gF (h.2.2 a) 7 0 (fun v => T d 200 80 ls (v :: st) h Q) := T_getfieldR m200 c200_77 f8_7
theorem c200_80 : cod 200 80 = some (.bipush 26, 2) := cod_of b200 dX8_rivals_80
theorem t200_80 {d : Nat} {h : Hp} {Q : Pst} {ls : List Value} {st : List Value} : T d 200 80 ls st h Q ↔ T d 200 82 ls (.int 26 :: st) h Q := T_bipushV c200_80 (by decide)
theorem c200_82 : cod 200 82 = some (.iload_n 1, 1) := cod_of b200 dX8_rivals_82
theorem t200_82 {d : Nat} {h : Hp} {Q : Pst} {l0 l2 l3 l4 l5 l6 l7 : Value} {x : Int32} {st : List Value} : T d 200 82 [l0, .int x, l2, l3, l4, l5, l6, l7] st h Q ↔ T d 200 83 [l0, .int x, l2, l3, l4, l5, l6, l7] (.int x :: st) h Q := T_iload_n c200_82 rfl
theorem c200_83 : cod 200 83 = some (.iadd, 1) := cod_of b200 dX8_rivals_83
theorem t200_83 {d : Nat} {h : Hp} {Q : Pst} {x y : Int32} {ls : List Value} {st : List Value} : T d 200 83 ls (.int y :: .int x :: st) h Q ↔ T d 200 84 ls (.int (x + y) :: st) h Q := T_iadd c200_83
theorem c200_84 : cod 200 84 = some (.iaload, 1) := cod_of b200 dX8_rivals_84
theorem t200_84 {d : Nat} {h : Hp} {Q : Pst} {a : Nat} {i : Int32} {ls : List Value} {st : List Value} : T d 200 84 ls (.int i :: .ref a :: st) h Q ↔ aL (h.2.2 a) i (fun x => T d 200 85 ls (.int x :: st) h Q) := T_iaload c200_84
theorem c200_85 : cod 200 85 = some (.iload 5, 2) := cod_of b200 dX8_rivals_85
theorem t200_85 {d : Nat} {h : Hp} {Q : Pst} {l0 l1 l2 l3 l4 l6 l7 : Value} {x : Int32} {st : List Value} : T d 200 85 [l0, l1, l2, l3, l4, .int x, l6, l7] st h Q ↔ T d 200 87 [l0, l1, l2, l3, l4, .int x, l6, l7] (.int x :: st) h Q := T_iload c200_85 rfl
theorem c200_87 : cod 200 87 = some (.aload_n 0, 1) := cod_of b200 dX8_rivals_87
theorem t200_87 {d : Nat} {h : Hp} {Q : Pst} {l1 l2 l3 l4 l5 l6 l7 : Value} {x : Nat} {st : List Value} : T d 200 87 [.ref x, l1, l2, l3, l4, l5, l6, l7] st h Q ↔ T d 200 88 [.ref x, l1, l2, l3, l4, l5, l6, l7] (.ref x :: st) h Q := T_aload_n c200_87 rfl
theorem c200_88 : cod 200 88 = some (.getfield 7, 3) := cod_of b200 dX8_rivals_88
theorem t200_88 {d : Nat} {h : Hp} {Q : Pst} {a : Nat} {ls : List Value} {st : List Value} : T d 200 88 ls (.ref a :: st) h Q ↔ gF (h.2.2 a) 7 0 (fun v => T d 200 91 ls (v :: st) h Q) := T_getfieldR m200 c200_88 f8_7
theorem c200_91 : cod 200 91 = some (.bipush 10, 2) := cod_of b200 dX8_rivals_91
theorem t200_91 {d : Nat} {h : Hp} {Q : Pst} {ls : List Value} {st : List Value} : T d 200 91 ls st h Q ↔ T d 200 93 ls (.int 10 :: st) h Q := T_bipushV c200_91 (by decide)
theorem c200_93 : cod 200 93 = some (.iaload, 1) := cod_of b200 dX8_rivals_93
theorem t200_93 {d : Nat} {h : Hp} {Q : Pst} {a : Nat} {i : Int32} {ls : List Value} {st : List Value} : T d 200 93 ls (.int i :: .ref a :: st) h Q ↔ aL (h.2.2 a) i (fun x => T d 200 94 ls (.int x :: st) h Q) := T_iaload c200_93
theorem c200_94 : cod 200 94 = some (.invokestatic 136, 3) := cod_of b200 dX8_rivals_94
theorem t200_94 {d : Nat} {h : Hp} {Q : Pst} {a0 a1 a2 s0 s1 s2 : Int32} {s3 : Nat} {ls : List Value} : T (d + 1) 200 94 ls [.int a2, .int a1, .int a0, .int s0, .int s1, .int s2, .ref s3] h Q ↔ T d 154 0 [.int a0, .int a1, .int a2, un, un] [] h (fun x h2 => T (d + 1) 200 97 ls (rl x [.int s0, .int s1, .int s2, .ref s3]) h2 Q) := T_staticR (as := [.int a0, .int a1, .int a2]) (r := [.int s0, .int s1, .int s2, .ref s3]) m200 m154 c200_94 k8_136 (Or.inl rfl) rfl (by decide) rfl (by simp [wrd, Value.category]) (by simp [stk, Value.category]) rfl
theorem c200_97 : cod 200 97 = some (.invokestatic 142, 3) := cod_of b200 dX8_rivals_97
theorem t200_97 {d : Nat} {h : Hp} {Q : Pst} {a0 a1 a2 s0 : Int32} {s1 : Nat} {ls : List Value} : T (d + 1) 200 97 ls [.int a2, .int a1, .int a0, .int s0, .ref s1] h Q ↔ T d 155 0 [.int a0, .int a1, .int a2, un, un] [] h (fun x h2 => T (d + 1) 200 100 ls (rl x [.int s0, .ref s1]) h2 Q) := T_staticR (as := [.int a0, .int a1, .int a2]) (r := [.int s0, .ref s1]) m200 m155 c200_97 k8_142 (Or.inl rfl) rfl (by decide) rfl (by simp [wrd, Value.category]) (by simp [stk, Value.category]) rfl
theorem c200_100 : cod 200 100 = some (.invokestatic 148, 3) := cod_of b200 dX8_rivals_100
theorem t200_100 {d : Nat} {h : Hp} {Q : Pst} {a0 s0 : Int32} {s1 : Nat} {ls : List Value} : T (d + 1) 200 100 ls [.int a0, .int s0, .ref s1] h Q ↔ T d 128 0 [.int a0, un, un] [] h (fun x h2 => T (d + 1) 200 103 ls (rl x [.int s0, .ref s1]) h2 Q) := T_staticR (as := [.int a0]) (r := [.int s0, .ref s1]) m200 m128 c200_100 k8_148 (Or.inl rfl) rfl (by decide) rfl (by simp [wrd, Value.category]) (by simp [stk, Value.category]) rfl
theorem c200_103 : cod 200 103 = some (.iastore, 1) := cod_of b200 dX8_rivals_103
theorem t200_103 {d : Nat} {h : Hp} {Q : Pst} {a : Nat} {i x : Int32} {ls : List Value} {st : List Value} : T d 200 103 ls (.int x :: .int i :: .ref a :: st) h Q ↔ aS (h.2.2 a) i x (fun cell => T d 200 104 ls st (hup h a cell) Q) := T_iastore c200_103
theorem c200_104 : cod 200 104 = some (.aload_n 0, 1) := cod_of b200 dX8_rivals_104
theorem t200_104 {d : Nat} {h : Hp} {Q : Pst} {l1 l2 l3 l4 l5 l6 l7 : Value} {x : Nat} {st : List Value} : T d 200 104 [.ref x, l1, l2, l3, l4, l5, l6, l7] st h Q ↔ T d 200 105 [.ref x, l1, l2, l3, l4, l5, l6, l7] (.ref x :: st) h Q := T_aload_n c200_104 rfl
theorem c200_105 : cod 200 105 = some (.getfield 42, 3) := cod_of b200 dX8_rivals_105
theorem t200_105 {d : Nat} {h : Hp} {Q : Pst} {a : Nat} {ls : List Value} {st : List Value} : T d 200 105 ls (.ref a :: st) h Q ↔ gF (h.2.2 a) 7 17 (fun v => T d 200 108 ls (v :: st) h Q) := T_getfieldR m200 c200_105 f8_42
theorem c200_108 : cod 200 108 = some (.iload 5, 2) := cod_of b200 dX8_rivals_108
theorem t200_108 {d : Nat} {h : Hp} {Q : Pst} {l0 l1 l2 l3 l4 l6 l7 : Value} {x : Int32} {st : List Value} : T d 200 108 [l0, l1, l2, l3, l4, .int x, l6, l7] st h Q ↔ T d 200 110 [l0, l1, l2, l3, l4, .int x, l6, l7] (.int x :: st) h Q := T_iload c200_108 rfl
theorem c200_110 : cod 200 110 = some (.aload_n 0, 1) := cod_of b200 dX8_rivals_110
theorem t200_110 {d : Nat} {h : Hp} {Q : Pst} {l1 l2 l3 l4 l5 l6 l7 : Value} {x : Nat} {st : List Value} : T d 200 110 [.ref x, l1, l2, l3, l4, l5, l6, l7] st h Q ↔ T d 200 111 [.ref x, l1, l2, l3, l4, l5, l6, l7] (.ref x :: st) h Q := T_aload_n c200_110 rfl
theorem c200_111 : cod 200 111 = some (.getfield 7, 3) := cod_of b200 dX8_rivals_111
theorem t200_111 {d : Nat} {h : Hp} {Q : Pst} {a : Nat} {ls : List Value} {st : List Value} : T d 200 111 ls (.ref a :: st) h Q ↔ gF (h.2.2 a) 7 0 (fun v => T d 200 114 ls (v :: st) h Q) := T_getfieldR m200 c200_111 f8_7
theorem c200_114 : cod 200 114 = some (.bipush 13, 2) := cod_of b200 dX8_rivals_114
theorem t200_114 {d : Nat} {h : Hp} {Q : Pst} {ls : List Value} {st : List Value} : T d 200 114 ls st h Q ↔ T d 200 116 ls (.int 13 :: st) h Q := T_bipushV c200_114 (by decide)
theorem c200_116 : cod 200 116 = some (.iload_n 3, 1) := cod_of b200 dX8_rivals_116
theorem t200_116 {d : Nat} {h : Hp} {Q : Pst} {l0 l1 l2 l4 l5 l6 l7 : Value} {x : Int32} {st : List Value} : T d 200 116 [l0, l1, l2, .int x, l4, l5, l6, l7] st h Q ↔ T d 200 117 [l0, l1, l2, .int x, l4, l5, l6, l7] (.int x :: st) h Q := T_iload_n c200_116 rfl
theorem c200_117 : cod 200 117 = some (.iadd, 1) := cod_of b200 dX8_rivals_117
theorem t200_117 {d : Nat} {h : Hp} {Q : Pst} {x y : Int32} {ls : List Value} {st : List Value} : T d 200 117 ls (.int y :: .int x :: st) h Q ↔ T d 200 118 ls (.int (x + y) :: st) h Q := T_iadd c200_117
theorem c200_118 : cod 200 118 = some (.iaload, 1) := cod_of b200 dX8_rivals_118
theorem t200_118 {d : Nat} {h : Hp} {Q : Pst} {a : Nat} {i : Int32} {ls : List Value} {st : List Value} : T d 200 118 ls (.int i :: .ref a :: st) h Q ↔ aL (h.2.2 a) i (fun x => T d 200 119 ls (.int x :: st) h Q) := T_iaload c200_118
theorem c200_119 : cod 200 119 = some (.aload_n 0, 1) := cod_of b200 dX8_rivals_119
theorem t200_119 {d : Nat} {h : Hp} {Q : Pst} {l1 l2 l3 l4 l5 l6 l7 : Value} {x : Nat} {st : List Value} : T d 200 119 [.ref x, l1, l2, l3, l4, l5, l6, l7] st h Q ↔ T d 200 120 [.ref x, l1, l2, l3, l4, l5, l6, l7] (.ref x :: st) h Q := T_aload_n c200_119 rfl
theorem c200_120 : cod 200 120 = some (.getfield 7, 3) := cod_of b200 dX8_rivals_120
theorem t200_120 {d : Nat} {h : Hp} {Q : Pst} {a : Nat} {ls : List Value} {st : List Value} : T d 200 120 ls (.ref a :: st) h Q ↔ gF (h.2.2 a) 7 0 (fun v => T d 200 123 ls (v :: st) h Q) := T_getfieldR m200 c200_120 f8_7
theorem c200_123 : cod 200 123 = some (.bipush 19, 2) := cod_of b200 dX8_rivals_123
theorem t200_123 {d : Nat} {h : Hp} {Q : Pst} {ls : List Value} {st : List Value} : T d 200 123 ls st h Q ↔ T d 200 125 ls (.int 19 :: st) h Q := T_bipushV c200_123 (by decide)
theorem c200_125 : cod 200 125 = some (.iload_n 3, 1) := cod_of b200 dX8_rivals_125
theorem t200_125 {d : Nat} {h : Hp} {Q : Pst} {l0 l1 l2 l4 l5 l6 l7 : Value} {x : Int32} {st : List Value} : T d 200 125 [l0, l1, l2, .int x, l4, l5, l6, l7] st h Q ↔ T d 200 126 [l0, l1, l2, .int x, l4, l5, l6, l7] (.int x :: st) h Q := T_iload_n c200_125 rfl
theorem c200_126 : cod 200 126 = some (.iadd, 1) := cod_of b200 dX8_rivals_126
theorem t200_126 {d : Nat} {h : Hp} {Q : Pst} {x y : Int32} {ls : List Value} {st : List Value} : T d 200 126 ls (.int y :: .int x :: st) h Q ↔ T d 200 127 ls (.int (x + y) :: st) h Q := T_iadd c200_126
theorem c200_127 : cod 200 127 = some (.iaload, 1) := cod_of b200 dX8_rivals_127
theorem t200_127 {d : Nat} {h : Hp} {Q : Pst} {a : Nat} {i : Int32} {ls : List Value} {st : List Value} : T d 200 127 ls (.int i :: .ref a :: st) h Q ↔ aL (h.2.2 a) i (fun x => T d 200 128 ls (.int x :: st) h Q) := T_iaload c200_127
theorem c200_128 : cod 200 128 = some (.aload_n 0, 1) := cod_of b200 dX8_rivals_128
theorem t200_128 {d : Nat} {h : Hp} {Q : Pst} {l1 l2 l3 l4 l5 l6 l7 : Value} {x : Nat} {st : List Value} : T d 200 128 [.ref x, l1, l2, l3, l4, l5, l6, l7] st h Q ↔ T d 200 129 [.ref x, l1, l2, l3, l4, l5, l6, l7] (.ref x :: st) h Q := T_aload_n c200_128 rfl
theorem c200_129 : cod 200 129 = some (.getfield 7, 3) := cod_of b200 dX8_rivals_129
theorem t200_129 {d : Nat} {h : Hp} {Q : Pst} {a : Nat} {ls : List Value} {st : List Value} : T d 200 129 ls (.ref a :: st) h Q ↔ gF (h.2.2 a) 7 0 (fun v => T d 200 132 ls (v :: st) h Q) := T_getfieldR m200 c200_129 f8_7
theorem c200_132 : cod 200 132 = some (.bipush 26, 2) := cod_of b200 dX8_rivals_132
theorem t200_132 {d : Nat} {h : Hp} {Q : Pst} {ls : List Value} {st : List Value} : T d 200 132 ls st h Q ↔ T d 200 134 ls (.int 26 :: st) h Q := T_bipushV c200_132 (by decide)
theorem c200_134 : cod 200 134 = some (.iload_n 2, 1) := cod_of b200 dX8_rivals_134
theorem t200_134 {d : Nat} {h : Hp} {Q : Pst} {l0 l1 l3 l4 l5 l6 l7 : Value} {x : Int32} {st : List Value} : T d 200 134 [l0, l1, .int x, l3, l4, l5, l6, l7] st h Q ↔ T d 200 135 [l0, l1, .int x, l3, l4, l5, l6, l7] (.int x :: st) h Q := T_iload_n c200_134 rfl
theorem c200_135 : cod 200 135 = some (.iadd, 1) := cod_of b200 dX8_rivals_135
theorem t200_135 {d : Nat} {h : Hp} {Q : Pst} {x y : Int32} {ls : List Value} {st : List Value} : T d 200 135 ls (.int y :: .int x :: st) h Q ↔ T d 200 136 ls (.int (x + y) :: st) h Q := T_iadd c200_135
theorem c200_136 : cod 200 136 = some (.iaload, 1) := cod_of b200 dX8_rivals_136
theorem t200_136 {d : Nat} {h : Hp} {Q : Pst} {a : Nat} {i : Int32} {ls : List Value} {st : List Value} : T d 200 136 ls (.int i :: .ref a :: st) h Q ↔ aL (h.2.2 a) i (fun x => T d 200 137 ls (.int x :: st) h Q) := T_iaload c200_136
theorem c200_137 : cod 200 137 = some (.iload 5, 2) := cod_of b200 dX8_rivals_137
theorem t200_137 {d : Nat} {h : Hp} {Q : Pst} {l0 l1 l2 l3 l4 l6 l7 : Value} {x : Int32} {st : List Value} : T d 200 137 [l0, l1, l2, l3, l4, .int x, l6, l7] st h Q ↔ T d 200 139 [l0, l1, l2, l3, l4, .int x, l6, l7] (.int x :: st) h Q := T_iload c200_137 rfl
theorem c200_139 : cod 200 139 = some (.aload_n 0, 1) := cod_of b200 dX8_rivals_139
theorem t200_139 {d : Nat} {h : Hp} {Q : Pst} {l1 l2 l3 l4 l5 l6 l7 : Value} {x : Nat} {st : List Value} : T d 200 139 [.ref x, l1, l2, l3, l4, l5, l6, l7] st h Q ↔ T d 200 140 [.ref x, l1, l2, l3, l4, l5, l6, l7] (.ref x :: st) h Q := T_aload_n c200_139 rfl
theorem c200_140 : cod 200 140 = some (.getfield 7, 3) := cod_of b200 dX8_rivals_140
theorem t200_140 {d : Nat} {h : Hp} {Q : Pst} {a : Nat} {ls : List Value} {st : List Value} : T d 200 140 ls (.ref a :: st) h Q ↔ gF (h.2.2 a) 7 0 (fun v => T d 200 143 ls (v :: st) h Q) := T_getfieldR m200 c200_140 f8_7
theorem c200_143 : cod 200 143 = some (.bipush 10, 2) := cod_of b200 dX8_rivals_143
theorem t200_143 {d : Nat} {h : Hp} {Q : Pst} {ls : List Value} {st : List Value} : T d 200 143 ls st h Q ↔ T d 200 145 ls (.int 10 :: st) h Q := T_bipushV c200_143 (by decide)
theorem c200_145 : cod 200 145 = some (.iaload, 1) := cod_of b200 dX8_rivals_145
theorem t200_145 {d : Nat} {h : Hp} {Q : Pst} {a : Nat} {i : Int32} {ls : List Value} {st : List Value} : T d 200 145 ls (.int i :: .ref a :: st) h Q ↔ aL (h.2.2 a) i (fun x => T d 200 146 ls (.int x :: st) h Q) := T_iaload c200_145
theorem c200_146 : cod 200 146 = some (.invokestatic 136, 3) := cod_of b200 dX8_rivals_146
theorem t200_146 {d : Nat} {h : Hp} {Q : Pst} {a0 a1 a2 s0 s1 s2 : Int32} {s3 : Nat} {ls : List Value} : T (d + 1) 200 146 ls [.int a2, .int a1, .int a0, .int s0, .int s1, .int s2, .ref s3] h Q ↔ T d 154 0 [.int a0, .int a1, .int a2, un, un] [] h (fun x h2 => T (d + 1) 200 149 ls (rl x [.int s0, .int s1, .int s2, .ref s3]) h2 Q) := T_staticR (as := [.int a0, .int a1, .int a2]) (r := [.int s0, .int s1, .int s2, .ref s3]) m200 m154 c200_146 k8_136 (Or.inl rfl) rfl (by decide) rfl (by simp [wrd, Value.category]) (by simp [stk, Value.category]) rfl
theorem c200_149 : cod 200 149 = some (.invokestatic 142, 3) := cod_of b200 dX8_rivals_149
theorem t200_149 {d : Nat} {h : Hp} {Q : Pst} {a0 a1 a2 s0 : Int32} {s1 : Nat} {ls : List Value} : T (d + 1) 200 149 ls [.int a2, .int a1, .int a0, .int s0, .ref s1] h Q ↔ T d 155 0 [.int a0, .int a1, .int a2, un, un] [] h (fun x h2 => T (d + 1) 200 152 ls (rl x [.int s0, .ref s1]) h2 Q) := T_staticR (as := [.int a0, .int a1, .int a2]) (r := [.int s0, .ref s1]) m200 m155 c200_149 k8_142 (Or.inl rfl) rfl (by decide) rfl (by simp [wrd, Value.category]) (by simp [stk, Value.category]) rfl
theorem c200_152 : cod 200 152 = some (.invokestatic 148, 3) := cod_of b200 dX8_rivals_152
theorem t200_152 {d : Nat} {h : Hp} {Q : Pst} {a0 s0 : Int32} {s1 : Nat} {ls : List Value} : T (d + 1) 200 152 ls [.int a0, .int s0, .ref s1] h Q ↔ T d 128 0 [.int a0, un, un] [] h (fun x h2 => T (d + 1) 200 155 ls (rl x [.int s0, .ref s1]) h2 Q) := T_staticR (as := [.int a0]) (r := [.int s0, .ref s1]) m200 m128 c200_152 k8_148 (Or.inl rfl) rfl (by decide) rfl (by simp [wrd, Value.category]) (by simp [stk, Value.category]) rfl
theorem c200_155 : cod 200 155 = some (.iastore, 1) := cod_of b200 dX8_rivals_155
theorem t200_155 {d : Nat} {h : Hp} {Q : Pst} {a : Nat} {i x : Int32} {ls : List Value} {st : List Value} : T d 200 155 ls (.int x :: .int i :: .ref a :: st) h Q ↔ aS (h.2.2 a) i x (fun cell => T d 200 156 ls st (hup h a cell) Q) := T_iastore c200_155
theorem c200_156 : cod 200 156 = some (.iinc 5 1, 3) := cod_of b200 dX8_rivals_156
theorem t200_156 {d : Nat} {h : Hp} {Q : Pst} {l0 l1 l2 l3 l4 l6 l7 : Value} {x : Int32} {st : List Value} : T d 200 156 [l0, l1, l2, l3, l4, .int x, l6, l7] st h Q ↔ T d 200 159 [l0, l1, l2, l3, kil l4, .int (x + 1), l6, l7] st h Q := T_iincV c200_156 rfl (Nat.le_of_ble_eq_true rfl) (by decide) rfl
theorem c200_159 : cod 200 159 = some (.goto (-114), 3) := cod_of b200 dX8_rivals_159
theorem t200_159 {d : Nat} {h : Hp} {Q : Pst} {ls : List Value} {st : List Value} : T d 200 159 ls st h Q ↔ T d 200 45 ls st h Q := T_goto c200_159 (by decide)
theorem c200_162 : cod 200 162 = some (.iconst 0, 1) := cod_of b200 dX8_rivals_162
theorem t200_162 {d : Nat} {h : Hp} {Q : Pst} {ls : List Value} {st : List Value} : T d 200 162 ls st h Q ↔ T d 200 163 ls (.int 0 :: st) h Q := T_iconstV c200_162 (by decide)
theorem c200_163 : cod 200 163 = some (.istore 5, 2) := cod_of b200 dX8_rivals_163
theorem t200_163 {d : Nat} {h : Hp} {Q : Pst} {l0 l1 l2 l3 l4 l5 l6 l7 : Value} {x : Int32} {st : List Value} : T d 200 163 [l0, l1, l2, l3, l4, l5, l6, l7] (.int x :: st) h Q ↔ T d 200 165 [l0, l1, l2, l3, kil l4, .int x, l6, l7] st h Q := T_istore c200_163 (Nat.le_of_ble_eq_true rfl)
theorem c200_165 : cod 200 165 = some (.bipush (-5), 2) := cod_of b200 dX8_rivals_165
theorem t200_165 {d : Nat} {h : Hp} {Q : Pst} {ls : List Value} {st : List Value} : T d 200 165 ls st h Q ↔ T d 200 167 ls (.int (-5) :: st) h Q := T_bipushV c200_165 (by decide)
theorem c200_167 : cod 200 167 = some (.istore 6, 2) := cod_of b200 dX8_rivals_167
theorem t200_167 {d : Nat} {h : Hp} {Q : Pst} {l0 l1 l2 l3 l4 l5 l6 l7 : Value} {x : Int32} {st : List Value} : T d 200 167 [l0, l1, l2, l3, l4, l5, l6, l7] (.int x :: st) h Q ↔ T d 200 169 [l0, l1, l2, l3, l4, kil l5, .int x, l7] st h Q := T_istore c200_167 (Nat.le_of_ble_eq_true rfl)
theorem c200_169 : cod 200 169 = some (.bipush 11, 2) := cod_of b200 dX8_rivals_169
theorem t200_169 {d : Nat} {h : Hp} {Q : Pst} {ls : List Value} {st : List Value} : T d 200 169 ls st h Q ↔ T d 200 171 ls (.int 11 :: st) h Q := T_bipushV c200_169 (by decide)
theorem c200_171 : cod 200 171 = some (.istore 7, 2) := cod_of b200 dX8_rivals_171
theorem t200_171 {d : Nat} {h : Hp} {Q : Pst} {l0 l1 l2 l3 l4 l5 l6 l7 : Value} {x : Int32} {st : List Value} : T d 200 171 [l0, l1, l2, l3, l4, l5, l6, l7] (.int x :: st) h Q ↔ T d 200 173 [l0, l1, l2, l3, l4, l5, kil l6, .int x] st h Q := T_istore c200_171 (Nat.le_of_ble_eq_true rfl)
theorem c200_173 : cod 200 173 = some (.iload 7, 2) := cod_of b200 dX8_rivals_173
theorem t200_173 {d : Nat} {h : Hp} {Q : Pst} {l0 l1 l2 l3 l4 l5 l6 : Value} {x : Int32} {st : List Value} : T d 200 173 [l0, l1, l2, l3, l4, l5, l6, .int x] st h Q ↔ T d 200 175 [l0, l1, l2, l3, l4, l5, l6, .int x] (.int x :: st) h Q := T_iload c200_173 rfl
theorem c200_175 : cod 200 175 = some (.bipush 100, 2) := cod_of b200 dX8_rivals_175
theorem t200_175 {d : Nat} {h : Hp} {Q : Pst} {ls : List Value} {st : List Value} : T d 200 175 ls st h Q ↔ T d 200 177 ls (.int 100 :: st) h Q := T_bipushV c200_175 (by decide)
theorem c200_177 : cod 200 177 = some (.if_icmp .ge 53, 3) := cod_of b200 dX8_rivals_177
theorem t200_177 {d : Nat} {h : Hp} {Q : Pst} {x y : Int32} {ls : List Value} {st : List Value} : T d 200 177 ls (.int y :: .int x :: st) h Q ↔ (if y ≤ x then T d 200 230 ls st h Q else T d 200 180 ls st h Q) := T_icmp_ge c200_177 (by decide)
theorem c200_180 : cod 200 180 = some (.iload 7, 2) := cod_of b200 dX8_rivals_180
theorem t200_180 {d : Nat} {h : Hp} {Q : Pst} {l0 l1 l2 l3 l4 l5 l6 : Value} {x : Int32} {st : List Value} : T d 200 180 [l0, l1, l2, l3, l4, l5, l6, .int x] st h Q ↔ T d 200 182 [l0, l1, l2, l3, l4, l5, l6, .int x] (.int x :: st) h Q := T_iload c200_180 rfl
theorem c200_182 : cod 200 182 = some (.bipush 10, 2) := cod_of b200 dX8_rivals_182
theorem t200_182 {d : Nat} {h : Hp} {Q : Pst} {ls : List Value} {st : List Value} : T d 200 182 ls st h Q ↔ T d 200 184 ls (.int 10 :: st) h Q := T_bipushV c200_182 (by decide)
theorem c200_184 : cod 200 184 = some (.irem, 1) := cod_of b200 dX8_rivals_184
theorem t200_184 {d : Nat} {h : Hp} {Q : Pst} {x y : Int32} {ls : List Value} {st : List Value} : T d 200 184 ls (.int y :: .int x :: st) h Q ↔ (¬ y = 0 ∧ T d 200 185 ls (.int (x - x / y * y) :: st) h Q) := T_irem c200_184
theorem c200_185 : cod 200 185 = some (.ifCond .le 39, 3) := cod_of b200 dX8_rivals_185
theorem t200_185 {d : Nat} {h : Hp} {Q : Pst} {x : Int32} {ls : List Value} {st : List Value} : T d 200 185 ls (.int x :: st) h Q ↔ (if x ≤ 0 then T d 200 224 ls st h Q else T d 200 188 ls st h Q) := T_if_le c200_185 (by decide)
theorem c200_188 : cod 200 188 = some (.aload_n 0, 1) := cod_of b200 dX8_rivals_188
theorem t200_188 {d : Nat} {h : Hp} {Q : Pst} {l1 l2 l3 l4 l5 l6 l7 : Value} {x : Nat} {st : List Value} : T d 200 188 [.ref x, l1, l2, l3, l4, l5, l6, l7] st h Q ↔ T d 200 189 [.ref x, l1, l2, l3, l4, l5, l6, l7] (.ref x :: st) h Q := T_aload_n c200_188 rfl
theorem c200_189 : cod 200 189 = some (.iload 7, 2) := cod_of b200 dX8_rivals_189
theorem t200_189 {d : Nat} {h : Hp} {Q : Pst} {l0 l1 l2 l3 l4 l5 l6 : Value} {x : Int32} {st : List Value} : T d 200 189 [l0, l1, l2, l3, l4, l5, l6, .int x] st h Q ↔ T d 200 191 [l0, l1, l2, l3, l4, l5, l6, .int x] (.int x :: st) h Q := T_iload c200_189 rfl
theorem c200_191 : cod 200 191 = some (.bipush 10, 2) := cod_of b200 dX8_rivals_191
theorem t200_191 {d : Nat} {h : Hp} {Q : Pst} {ls : List Value} {st : List Value} : T d 200 191 ls st h Q ↔ T d 200 193 ls (.int 10 :: st) h Q := T_bipushV c200_191 (by decide)
theorem c200_193 : cod 200 193 = some (.idiv, 1) := cod_of b200 dX8_rivals_193
theorem t200_193 {d : Nat} {h : Hp} {Q : Pst} {x y : Int32} {ls : List Value} {st : List Value} : T d 200 193 ls (.int y :: .int x :: st) h Q ↔ (¬ y = 0 ∧ T d 200 194 ls (.int (x / y) :: st) h Q) := T_idiv c200_193
theorem c200_194 : cod 200 194 = some (.iload 7, 2) := cod_of b200 dX8_rivals_194
theorem t200_194 {d : Nat} {h : Hp} {Q : Pst} {l0 l1 l2 l3 l4 l5 l6 : Value} {x : Int32} {st : List Value} : T d 200 194 [l0, l1, l2, l3, l4, l5, l6, .int x] st h Q ↔ T d 200 196 [l0, l1, l2, l3, l4, l5, l6, .int x] (.int x :: st) h Q := T_iload c200_194 rfl
theorem c200_196 : cod 200 196 = some (.bipush 10, 2) := cod_of b200 dX8_rivals_196
theorem t200_196 {d : Nat} {h : Hp} {Q : Pst} {ls : List Value} {st : List Value} : T d 200 196 ls st h Q ↔ T d 200 198 ls (.int 10 :: st) h Q := T_bipushV c200_196 (by decide)
theorem c200_198 : cod 200 198 = some (.irem, 1) := cod_of b200 dX8_rivals_198
theorem t200_198 {d : Nat} {h : Hp} {Q : Pst} {x y : Int32} {ls : List Value} {st : List Value} : T d 200 198 ls (.int y :: .int x :: st) h Q ↔ (¬ y = 0 ∧ T d 200 199 ls (.int (x - x / y * y) :: st) h Q) := T_irem c200_198
theorem c200_199 : cod 200 199 = some (.invokevirtual 203, 3) := cod_of b200 dX8_rivals_199
theorem t200_199 {d : Nat} {h : Hp} {Q : Pst} {a0 a1 : Int32} {a : Nat} {ls : List Value} (ho : isO (h.2.2 a) 7) : T (d + 1) 200 199 ls [.int a1, .int a0, .ref a] h Q ↔ T d 199 0 [.ref a, .int a0, .int a1, un, un] [] h (fun x h2 => T (d + 1) 200 202 ls (rl x []) h2 Q) := T_virtualR (as := [.int a0, .int a1]) (r := []) m200 m199 c200_199 k8_203  rfl (by decide) rfl (by simp [wrd, Value.category]) (by simp [stk, Value.category]) rfl (by decide +kernel) ho
theorem c200_202 : cod 200 202 = some (.ifCond .eq 22, 3) := cod_of b200 dX8_rivals_202
theorem t200_202 {d : Nat} {h : Hp} {Q : Pst} {x : Int32} {ls : List Value} {st : List Value} : T d 200 202 ls (.int x :: st) h Q ↔ (if x = 0 then T d 200 224 ls st h Q else T d 200 205 ls st h Q) := T_if_eq c200_202 (by decide)
theorem c200_205 : cod 200 205 = some (.iload 5, 2) := cod_of b200 dX8_rivals_205
theorem t200_205 {d : Nat} {h : Hp} {Q : Pst} {l0 l1 l2 l3 l4 l6 l7 : Value} {x : Int32} {st : List Value} : T d 200 205 [l0, l1, l2, l3, l4, .int x, l6, l7] st h Q ↔ T d 200 207 [l0, l1, l2, l3, l4, .int x, l6, l7] (.int x :: st) h Q := T_iload c200_205 rfl
theorem c200_207 : cod 200 207 = some (.iload 4, 2) := cod_of b200 dX8_rivals_207
theorem t200_207 {d : Nat} {h : Hp} {Q : Pst} {l0 l1 l2 l3 l5 l6 l7 : Value} {x : Int32} {st : List Value} : T d 200 207 [l0, l1, l2, l3, .int x, l5, l6, l7] st h Q ↔ T d 200 209 [l0, l1, l2, l3, .int x, l5, l6, l7] (.int x :: st) h Q := T_iload c200_207 rfl
theorem c200_209 : cod 200 209 = some (.if_icmp .ne 8, 3) := cod_of b200 dX8_rivals_209
theorem t200_209 {d : Nat} {h : Hp} {Q : Pst} {x y : Int32} {ls : List Value} {st : List Value} : T d 200 209 ls (.int y :: .int x :: st) h Q ↔ (if ¬ x = y then T d 200 217 ls st h Q else T d 200 212 ls st h Q) := T_icmp_ne c200_209 (by decide)
theorem c200_212 : cod 200 212 = some (.iload 7, 2) := cod_of b200 dX8_rivals_212
theorem t200_212 {d : Nat} {h : Hp} {Q : Pst} {l0 l1 l2 l3 l4 l5 l6 : Value} {x : Int32} {st : List Value} : T d 200 212 [l0, l1, l2, l3, l4, l5, l6, .int x] st h Q ↔ T d 200 214 [l0, l1, l2, l3, l4, l5, l6, .int x] (.int x :: st) h Q := T_iload c200_212 rfl
theorem c200_214 : cod 200 214 = some (.goto 5, 3) := cod_of b200 dX8_rivals_214
theorem t200_214 {d : Nat} {h : Hp} {Q : Pst} {ls : List Value} {st : List Value} : T d 200 214 ls st h Q ↔ T d 200 219 ls st h Q := T_goto c200_214 (by decide)
theorem c200_219 : cod 200 219 = some (.istore 6, 2) := cod_of b200 dX8_rivals_219
theorem t200_219 {d : Nat} {h : Hp} {Q : Pst} {l0 l1 l2 l3 l4 l5 l6 l7 : Value} {x : Int32} {st : List Value} : T d 200 219 [l0, l1, l2, l3, l4, l5, l6, l7] (.int x :: st) h Q ↔ T d 200 221 [l0, l1, l2, l3, l4, kil l5, .int x, l7] st h Q := T_istore c200_219 (Nat.le_of_ble_eq_true rfl)
theorem c200_221 : cod 200 221 = some (.iinc 5 1, 3) := cod_of b200 dX8_rivals_221
theorem t200_221 {d : Nat} {h : Hp} {Q : Pst} {l0 l1 l2 l3 l4 l6 l7 : Value} {x : Int32} {st : List Value} : T d 200 221 [l0, l1, l2, l3, l4, .int x, l6, l7] st h Q ↔ T d 200 224 [l0, l1, l2, l3, kil l4, .int (x + 1), l6, l7] st h Q := T_iincV c200_221 rfl (Nat.le_of_ble_eq_true rfl) (by decide) rfl
theorem c200_217 : cod 200 217 = some (.iload 6, 2) := cod_of b200 dX8_rivals_217
theorem t200_217 {d : Nat} {h : Hp} {Q : Pst} {l0 l1 l2 l3 l4 l5 l7 : Value} {x : Int32} {st : List Value} : T d 200 217 [l0, l1, l2, l3, l4, l5, .int x, l7] st h Q ↔ T d 200 219 [l0, l1, l2, l3, l4, l5, .int x, l7] (.int x :: st) h Q := T_iload c200_217 rfl
theorem c200_224 : cod 200 224 = some (.iinc 7 1, 3) := cod_of b200 dX8_rivals_224
theorem t200_224 {d : Nat} {h : Hp} {Q : Pst} {l0 l1 l2 l3 l4 l5 l6 : Value} {x : Int32} {st : List Value} : T d 200 224 [l0, l1, l2, l3, l4, l5, l6, .int x] st h Q ↔ T d 200 227 [l0, l1, l2, l3, l4, l5, kil l6, .int (x + 1)] st h Q := T_iincV c200_224 rfl (Nat.le_of_ble_eq_true rfl) (by decide) rfl
theorem c200_227 : cod 200 227 = some (.goto (-54), 3) := cod_of b200 dX8_rivals_227
theorem t200_227 {d : Nat} {h : Hp} {Q : Pst} {ls : List Value} {st : List Value} : T d 200 227 ls st h Q ↔ T d 200 173 ls st h Q := T_goto c200_227 (by decide)
theorem c200_230 : cod 200 230 = some (.iload 4, 2) := cod_of b200 dX8_rivals_230
theorem t200_230 {d : Nat} {h : Hp} {Q : Pst} {l0 l1 l2 l3 l5 l6 l7 : Value} {x : Int32} {st : List Value} : T d 200 230 [l0, l1, l2, l3, .int x, l5, l6, l7] st h Q ↔ T d 200 232 [l0, l1, l2, l3, .int x, l5, l6, l7] (.int x :: st) h Q := T_iload c200_230 rfl
theorem c200_232 : cod 200 232 = some (.iconst (-1), 1) := cod_of b200 dX8_rivals_232
theorem t200_232 {d : Nat} {h : Hp} {Q : Pst} {ls : List Value} {st : List Value} : T d 200 232 ls st h Q ↔ T d 200 233 ls (.int (-1) :: st) h Q := T_iconstV c200_232 (by decide)
theorem c200_233 : cod 200 233 = some (.if_icmp .ne 8, 3) := cod_of b200 dX8_rivals_233
theorem t200_233 {d : Nat} {h : Hp} {Q : Pst} {x y : Int32} {ls : List Value} {st : List Value} : T d 200 233 ls (.int y :: .int x :: st) h Q ↔ (if ¬ x = y then T d 200 241 ls st h Q else T d 200 236 ls st h Q) := T_icmp_ne c200_233 (by decide)
theorem c200_236 : cod 200 236 = some (.iload 5, 2) := cod_of b200 dX8_rivals_236
theorem t200_236 {d : Nat} {h : Hp} {Q : Pst} {l0 l1 l2 l3 l4 l6 l7 : Value} {x : Int32} {st : List Value} : T d 200 236 [l0, l1, l2, l3, l4, .int x, l6, l7] st h Q ↔ T d 200 238 [l0, l1, l2, l3, l4, .int x, l6, l7] (.int x :: st) h Q := T_iload c200_236 rfl
theorem c200_238 : cod 200 238 = some (.goto 5, 3) := cod_of b200 dX8_rivals_238
theorem t200_238 {d : Nat} {h : Hp} {Q : Pst} {ls : List Value} {st : List Value} : T d 200 238 ls st h Q ↔ T d 200 243 ls st h Q := T_goto c200_238 (by decide)
theorem c200_243 : cod 200 243 = some (.ireturn, 1) := cod_of b200 dX8_rivals_243
theorem t200_243 {d : Nat} {h : Hp} {Q : Pst} {x : Int32} {ls : List Value} : T d 200 243 ls [.int x] h Q ↔ Q (some (.int x)) h := T_iretR m200 c200_243 rfl
theorem c200_241 : cod 200 241 = some (.iload 6, 2) := cod_of b200 dX8_rivals_241
theorem t200_241 {d : Nat} {h : Hp} {Q : Pst} {l0 l1 l2 l3 l4 l5 l7 : Value} {x : Int32} {st : List Value} : T d 200 241 [l0, l1, l2, l3, l4, l5, .int x, l7] st h Q ↔ T d 200 243 [l0, l1, l2, l3, l4, l5, .int x, l7] (.int x :: st) h Q := T_iload c200_241 rfl
theorem c200_35 : cod 200 35 = some (.aload_n 0, 1) := cod_of b200 dX8_rivals_35
theorem t200_35 {d : Nat} {h : Hp} {Q : Pst} {l1 l2 l3 l4 l5 l6 l7 : Value} {x : Nat} {st : List Value} : T d 200 35 [.ref x, l1, l2, l3, l4, l5, l6, l7] st h Q ↔ T d 200 36 [.ref x, l1, l2, l3, l4, l5, l6, l7] (.ref x :: st) h Q := T_aload_n c200_35 rfl
theorem c200_36 : cod 200 36 = some (.bipush (-10), 2) := cod_of b200 dX8_rivals_36
theorem t200_36 {d : Nat} {h : Hp} {Q : Pst} {ls : List Value} {st : List Value} : T d 200 36 ls st h Q ↔ T d 200 38 ls (.int (-10) :: st) h Q := T_bipushV c200_36 (by decide)
theorem c200_38 : cod 200 38 = some (.invokevirtual 176, 3) := cod_of b200 dX8_rivals_38
theorem t200_38 {d : Nat} {h : Hp} {Q : Pst} {a0 : Int32} {a : Nat} {ls : List Value} (ho : isO (h.2.2 a) 7) : T (d + 1) 200 38 ls [.int a0, .ref a] h Q ↔ T d 130 0 [.ref a, .int a0] [] h (fun x h2 => T (d + 1) 200 41 ls (rl x []) h2 Q) := T_virtualR (as := [.int a0]) (r := []) m200 m130 c200_38 k8_176  rfl (by decide) rfl (by simp [wrd, Value.category]) (by simp [stk, Value.category]) rfl (by decide +kernel) ho
theorem c200_41 : cod 200 41 = some (.ireturn, 1) := cod_of b200 dX8_rivals_41
theorem t200_41 {d : Nat} {h : Hp} {Q : Pst} {x : Int32} {ls : List Value} : T d 200 41 ls [.int x] h Q ↔ Q (some (.int x)) h := T_iretR m200 c200_41 rfl
theorem b201 : (mR 201).2.2.1 = cX8_tellPart := by rw [m201]
theorem c201_0 : cod 201 0 = some (.lload_n 1, 1) := cod_of b201 dX8_tellPart_0
theorem t201_0 {d : Nat} {h : Hp} {Q : Pst} {l0 l2 l3 l4 l5 l6 l7 l8 l9 l10 : Value} {x : Int64} {st : List Value} : T d 201 0 [l0, .long x, l2, l3, l4, l5, l6, l7, l8, l9, l10] st h Q ↔ T d 201 1 [l0, .long x, l2, l3, l4, l5, l6, l7, l8, l9, l10] (.long x :: st) h Q := T_lload_n c201_0 rfl
theorem c201_1 : cod 201 1 = some (.lstore 5, 2) := cod_of b201 dX8_tellPart_1
theorem t201_1 {d : Nat} {h : Hp} {Q : Pst} {l0 l1 l2 l3 l4 l5 l6 l7 l8 l9 l10 : Value} {x : Int64} {st : List Value} : T d 201 1 [l0, l1, l2, l3, l4, l5, l6, l7, l8, l9, l10] (.long x :: st) h Q ↔ T d 201 3 [l0, l1, l2, l3, kil l4, .long x, un, l7, l8, l9, l10] st h Q := T_lstore c201_1 (Nat.le_of_ble_eq_true rfl)
theorem c201_3 : cod 201 3 = some (.lload_n 3, 1) := cod_of b201 dX8_tellPart_3
theorem t201_3 {d : Nat} {h : Hp} {Q : Pst} {l0 l1 l2 l4 l5 l6 l7 l8 l9 l10 : Value} {x : Int64} {st : List Value} : T d 201 3 [l0, l1, l2, .long x, l4, l5, l6, l7, l8, l9, l10] st h Q ↔ T d 201 4 [l0, l1, l2, .long x, l4, l5, l6, l7, l8, l9, l10] (.long x :: st) h Q := T_lload_n c201_3 rfl
theorem c201_4 : cod 201 4 = some (.lstore 7, 2) := cod_of b201 dX8_tellPart_4
theorem t201_4 {d : Nat} {h : Hp} {Q : Pst} {l0 l1 l2 l3 l4 l5 l6 l7 l8 l9 l10 : Value} {x : Int64} {st : List Value} : T d 201 4 [l0, l1, l2, l3, l4, l5, l6, l7, l8, l9, l10] (.long x :: st) h Q ↔ T d 201 6 [l0, l1, l2, l3, l4, l5, kil l6, .long x, un, l9, l10] st h Q := T_lstore c201_4 (Nat.le_of_ble_eq_true rfl)
theorem c201_6 : cod 201 6 = some (.lload 7, 2) := cod_of b201 dX8_tellPart_6
theorem t201_6 {d : Nat} {h : Hp} {Q : Pst} {l0 l1 l2 l3 l4 l5 l6 l8 l9 l10 : Value} {x : Int64} {st : List Value} : T d 201 6 [l0, l1, l2, l3, l4, l5, l6, .long x, l8, l9, l10] st h Q ↔ T d 201 8 [l0, l1, l2, l3, l4, l5, l6, .long x, l8, l9, l10] (.long x :: st) h Q := T_lload c201_6 rfl
theorem c201_8 : cod 201 8 = some (.lconst 0, 1) := cod_of b201 dX8_tellPart_8
theorem t201_8 {d : Nat} {h : Hp} {Q : Pst} {ls : List Value} {st : List Value} : T d 201 8 ls st h Q ↔ T d 201 9 ls (.long 0 :: st) h Q := T_lconstV c201_8 (by decide)
theorem c201_9 : cod 201 9 = some (.lcmp, 1) := cod_of b201 dX8_tellPart_9
theorem t201_9 {d : Nat} {h : Hp} {Q : Pst} {x y : Int64} {ls : List Value} {st : List Value} : T d 201 9 ls (.long y :: .long x :: st) h Q ↔ T d 201 10 ls (.int (lg_cmp x y) :: st) h Q := T_lcmp c201_9
theorem c201_10 : cod 201 10 = some (.ifCond .eq 21, 3) := cod_of b201 dX8_tellPart_10
theorem t201_10 {d : Nat} {h : Hp} {Q : Pst} {x : Int32} {ls : List Value} {st : List Value} : T d 201 10 ls (.int x :: st) h Q ↔ (if x = 0 then T d 201 31 ls st h Q else T d 201 13 ls st h Q) := T_if_eq c201_10 (by decide)
theorem c201_13 : cod 201 13 = some (.lload 5, 2) := cod_of b201 dX8_tellPart_13
theorem t201_13 {d : Nat} {h : Hp} {Q : Pst} {l0 l1 l2 l3 l4 l6 l7 l8 l9 l10 : Value} {x : Int64} {st : List Value} : T d 201 13 [l0, l1, l2, l3, l4, .long x, l6, l7, l8, l9, l10] st h Q ↔ T d 201 15 [l0, l1, l2, l3, l4, .long x, l6, l7, l8, l9, l10] (.long x :: st) h Q := T_lload c201_13 rfl
theorem c201_15 : cod 201 15 = some (.lload 7, 2) := cod_of b201 dX8_tellPart_15
theorem t201_15 {d : Nat} {h : Hp} {Q : Pst} {l0 l1 l2 l3 l4 l5 l6 l8 l9 l10 : Value} {x : Int64} {st : List Value} : T d 201 15 [l0, l1, l2, l3, l4, l5, l6, .long x, l8, l9, l10] st h Q ↔ T d 201 17 [l0, l1, l2, l3, l4, l5, l6, .long x, l8, l9, l10] (.long x :: st) h Q := T_lload c201_15 rfl
theorem c201_17 : cod 201 17 = some (.lrem, 1) := cod_of b201 dX8_tellPart_17
theorem t201_17 {d : Nat} {h : Hp} {Q : Pst} {x y : Int64} {ls : List Value} {st : List Value} : T d 201 17 ls (.long y :: .long x :: st) h Q ↔ (¬ y = 0 ∧ T d 201 18 ls (.long (x - x / y * y) :: st) h Q) := T_lrem c201_17
theorem c201_18 : cod 201 18 = some (.lstore 9, 2) := cod_of b201 dX8_tellPart_18
theorem t201_18 {d : Nat} {h : Hp} {Q : Pst} {l0 l1 l2 l3 l4 l5 l6 l7 l8 l9 l10 : Value} {x : Int64} {st : List Value} : T d 201 18 [l0, l1, l2, l3, l4, l5, l6, l7, l8, l9, l10] (.long x :: st) h Q ↔ T d 201 20 [l0, l1, l2, l3, l4, l5, l6, l7, kil l8, .long x, un] st h Q := T_lstore c201_18 (Nat.le_of_ble_eq_true rfl)
theorem c201_20 : cod 201 20 = some (.lload 7, 2) := cod_of b201 dX8_tellPart_20
theorem t201_20 {d : Nat} {h : Hp} {Q : Pst} {l0 l1 l2 l3 l4 l5 l6 l8 l9 l10 : Value} {x : Int64} {st : List Value} : T d 201 20 [l0, l1, l2, l3, l4, l5, l6, .long x, l8, l9, l10] st h Q ↔ T d 201 22 [l0, l1, l2, l3, l4, l5, l6, .long x, l8, l9, l10] (.long x :: st) h Q := T_lload c201_20 rfl
theorem c201_22 : cod 201 22 = some (.lstore 5, 2) := cod_of b201 dX8_tellPart_22
theorem t201_22 {d : Nat} {h : Hp} {Q : Pst} {l0 l1 l2 l3 l4 l5 l6 l7 l8 l9 l10 : Value} {x : Int64} {st : List Value} : T d 201 22 [l0, l1, l2, l3, l4, l5, l6, l7, l8, l9, l10] (.long x :: st) h Q ↔ T d 201 24 [l0, l1, l2, l3, kil l4, .long x, un, l7, l8, l9, l10] st h Q := T_lstore c201_22 (Nat.le_of_ble_eq_true rfl)
theorem c201_24 : cod 201 24 = some (.lload 9, 2) := cod_of b201 dX8_tellPart_24
theorem t201_24 {d : Nat} {h : Hp} {Q : Pst} {l0 l1 l2 l3 l4 l5 l6 l7 l8 l10 : Value} {x : Int64} {st : List Value} : T d 201 24 [l0, l1, l2, l3, l4, l5, l6, l7, l8, .long x, l10] st h Q ↔ T d 201 26 [l0, l1, l2, l3, l4, l5, l6, l7, l8, .long x, l10] (.long x :: st) h Q := T_lload c201_24 rfl
theorem c201_26 : cod 201 26 = some (.lstore 7, 2) := cod_of b201 dX8_tellPart_26
theorem t201_26 {d : Nat} {h : Hp} {Q : Pst} {l0 l1 l2 l3 l4 l5 l6 l7 l8 l9 l10 : Value} {x : Int64} {st : List Value} : T d 201 26 [l0, l1, l2, l3, l4, l5, l6, l7, l8, l9, l10] (.long x :: st) h Q ↔ T d 201 28 [l0, l1, l2, l3, l4, l5, kil l6, .long x, un, l9, l10] st h Q := T_lstore c201_26 (Nat.le_of_ble_eq_true rfl)
theorem c201_28 : cod 201 28 = some (.goto (-22), 3) := cod_of b201 dX8_tellPart_28
theorem t201_28 {d : Nat} {h : Hp} {Q : Pst} {ls : List Value} {st : List Value} : T d 201 28 ls st h Q ↔ T d 201 6 ls st h Q := T_goto c201_28 (by decide)
theorem c201_31 : cod 201 31 = some (.aload_n 0, 1) := cod_of b201 dX8_tellPart_31
theorem t201_31 {d : Nat} {h : Hp} {Q : Pst} {l1 l2 l3 l4 l5 l6 l7 l8 l9 l10 : Value} {x : Nat} {st : List Value} : T d 201 31 [.ref x, l1, l2, l3, l4, l5, l6, l7, l8, l9, l10] st h Q ↔ T d 201 32 [.ref x, l1, l2, l3, l4, l5, l6, l7, l8, l9, l10] (.ref x :: st) h Q := T_aload_n c201_31 rfl
theorem c201_32 : cod 201 32 = some (.lload_n 1, 1) := cod_of b201 dX8_tellPart_32
theorem t201_32 {d : Nat} {h : Hp} {Q : Pst} {l0 l2 l3 l4 l5 l6 l7 l8 l9 l10 : Value} {x : Int64} {st : List Value} : T d 201 32 [l0, .long x, l2, l3, l4, l5, l6, l7, l8, l9, l10] st h Q ↔ T d 201 33 [l0, .long x, l2, l3, l4, l5, l6, l7, l8, l9, l10] (.long x :: st) h Q := T_lload_n c201_32 rfl
theorem c201_33 : cod 201 33 = some (.lload 5, 2) := cod_of b201 dX8_tellPart_33
theorem t201_33 {d : Nat} {h : Hp} {Q : Pst} {l0 l1 l2 l3 l4 l6 l7 l8 l9 l10 : Value} {x : Int64} {st : List Value} : T d 201 33 [l0, l1, l2, l3, l4, .long x, l6, l7, l8, l9, l10] st h Q ↔ T d 201 35 [l0, l1, l2, l3, l4, .long x, l6, l7, l8, l9, l10] (.long x :: st) h Q := T_lload c201_33 rfl
theorem c201_35 : cod 201 35 = some (.ldiv, 1) := cod_of b201 dX8_tellPart_35
theorem t201_35 {d : Nat} {h : Hp} {Q : Pst} {x y : Int64} {ls : List Value} {st : List Value} : T d 201 35 ls (.long y :: .long x :: st) h Q ↔ (¬ y = 0 ∧ T d 201 36 ls (.long (x / y) :: st) h Q) := T_ldiv c201_35
theorem c201_36 : cod 201 36 = some (.putfield 206, 3) := cod_of b201 dX8_tellPart_36
theorem t201_36 {d : Nat} {h : Hp} {Q : Pst} {a : Nat} {x : Int64} {ls : List Value} {st : List Value} : T d 201 36 ls (.long x :: .ref a :: st) h Q ↔ pF (h.2.2 a) 7 3 (.long x) (fun cell => T d 201 39 ls st (hup h a cell) Q) := T_putfieldR m201 c201_36 f8_206 (by decide +kernel)
theorem c201_39 : cod 201 39 = some (.aload_n 0, 1) := cod_of b201 dX8_tellPart_39
theorem t201_39 {d : Nat} {h : Hp} {Q : Pst} {l1 l2 l3 l4 l5 l6 l7 l8 l9 l10 : Value} {x : Nat} {st : List Value} : T d 201 39 [.ref x, l1, l2, l3, l4, l5, l6, l7, l8, l9, l10] st h Q ↔ T d 201 40 [.ref x, l1, l2, l3, l4, l5, l6, l7, l8, l9, l10] (.ref x :: st) h Q := T_aload_n c201_39 rfl
theorem c201_40 : cod 201 40 = some (.lload_n 3, 1) := cod_of b201 dX8_tellPart_40
theorem t201_40 {d : Nat} {h : Hp} {Q : Pst} {l0 l1 l2 l4 l5 l6 l7 l8 l9 l10 : Value} {x : Int64} {st : List Value} : T d 201 40 [l0, l1, l2, .long x, l4, l5, l6, l7, l8, l9, l10] st h Q ↔ T d 201 41 [l0, l1, l2, .long x, l4, l5, l6, l7, l8, l9, l10] (.long x :: st) h Q := T_lload_n c201_40 rfl
theorem c201_41 : cod 201 41 = some (.lload 5, 2) := cod_of b201 dX8_tellPart_41
theorem t201_41 {d : Nat} {h : Hp} {Q : Pst} {l0 l1 l2 l3 l4 l6 l7 l8 l9 l10 : Value} {x : Int64} {st : List Value} : T d 201 41 [l0, l1, l2, l3, l4, .long x, l6, l7, l8, l9, l10] st h Q ↔ T d 201 43 [l0, l1, l2, l3, l4, .long x, l6, l7, l8, l9, l10] (.long x :: st) h Q := T_lload c201_41 rfl
theorem c201_43 : cod 201 43 = some (.ldiv, 1) := cod_of b201 dX8_tellPart_43
theorem t201_43 {d : Nat} {h : Hp} {Q : Pst} {x y : Int64} {ls : List Value} {st : List Value} : T d 201 43 ls (.long y :: .long x :: st) h Q ↔ (¬ y = 0 ∧ T d 201 44 ls (.long (x / y) :: st) h Q) := T_ldiv c201_43
theorem c201_44 : cod 201 44 = some (.putfield 20, 3) := cod_of b201 dX8_tellPart_44
theorem t201_44 {d : Nat} {h : Hp} {Q : Pst} {a : Nat} {x : Int64} {ls : List Value} {st : List Value} : T d 201 44 ls (.long x :: .ref a :: st) h Q ↔ pF (h.2.2 a) 7 4 (.long x) (fun cell => T d 201 47 ls st (hup h a cell) Q) := T_putfieldR m201 c201_44 f8_20 (by decide +kernel)
theorem c201_47 : cod 201 47 = some (.return_, 1) := cod_of b201 dX8_tellPart_47
theorem t201_47 {d : Nat} {h : Hp} {Q : Pst} {ls : List Value} : T d 201 47 ls [] h Q ↔ Q none h := T_retR m201 c201_47 rfl
theorem b202 : (mR 202).2.2.1 = cX8_rain := by rw [m202]
theorem c202_0 : cod 202 0 = some (.aload_n 0, 1) := cod_of b202 dX8_rain_0
theorem t202_0 {d : Nat} {h : Hp} {Q : Pst} {l1 l2 l3 l4 l5 : Value} {x : Nat} {st : List Value} : T d 202 0 [.ref x, l1, l2, l3, l4, l5] st h Q ↔ T d 202 1 [.ref x, l1, l2, l3, l4, l5] (.ref x :: st) h Q := T_aload_n c202_0 rfl
theorem c202_1 : cod 202 1 = some (.iload_n 1, 1) := cod_of b202 dX8_rain_1
theorem t202_1 {d : Nat} {h : Hp} {Q : Pst} {l0 l2 l3 l4 l5 : Value} {x : Int32} {st : List Value} : T d 202 1 [l0, .int x, l2, l3, l4, l5] st h Q ↔ T d 202 2 [l0, .int x, l2, l3, l4, l5] (.int x :: st) h Q := T_iload_n c202_1 rfl
theorem c202_2 : cod 202 2 = some (.invokevirtual 157, 3) := cod_of b202 dX8_rain_2
theorem t202_2 {d : Nat} {h : Hp} {Q : Pst} {a0 : Int32} {a : Nat} {ls : List Value} (ho : isO (h.2.2 a) 7) : T (d + 1) 202 2 ls [.int a0, .ref a] h Q ↔ T d 163 0 [.ref a, .int a0] [] h (fun x h2 => T (d + 1) 202 5 ls (rl x []) h2 Q) := T_virtualR (as := [.int a0]) (r := []) m202 m163 c202_2 k8_157  rfl (by decide) rfl (by simp [wrd, Value.category]) (by simp [stk, Value.category]) rfl (by decide +kernel) ho
theorem c202_5 : cod 202 5 = some (.ifCond .eq 13, 3) := cod_of b202 dX8_rain_5
theorem t202_5 {d : Nat} {h : Hp} {Q : Pst} {x : Int32} {ls : List Value} {st : List Value} : T d 202 5 ls (.int x :: st) h Q ↔ (if x = 0 then T d 202 18 ls st h Q else T d 202 8 ls st h Q) := T_if_eq c202_5 (by decide)
theorem c202_8 : cod 202 8 = some (.iload_n 2, 1) := cod_of b202 dX8_rain_8
theorem t202_8 {d : Nat} {h : Hp} {Q : Pst} {l0 l1 l3 l4 l5 : Value} {x : Int32} {st : List Value} : T d 202 8 [l0, l1, .int x, l3, l4, l5] st h Q ↔ T d 202 9 [l0, l1, .int x, l3, l4, l5] (.int x :: st) h Q := T_iload_n c202_8 rfl
theorem c202_9 : cod 202 9 = some (.iconst 0, 1) := cod_of b202 dX8_rain_9
theorem t202_9 {d : Nat} {h : Hp} {Q : Pst} {ls : List Value} {st : List Value} : T d 202 9 ls st h Q ↔ T d 202 10 ls (.int 0 :: st) h Q := T_iconstV c202_9 (by decide)
theorem c202_10 : cod 202 10 = some (.bipush 10, 2) := cod_of b202 dX8_rain_10
theorem t202_10 {d : Nat} {h : Hp} {Q : Pst} {ls : List Value} {st : List Value} : T d 202 10 ls st h Q ↔ T d 202 12 ls (.int 10 :: st) h Q := T_bipushV c202_10 (by decide)
theorem c202_12 : cod 202 12 = some (.invokestatic 49, 3) := cod_of b202 dX8_rain_12
theorem t202_12 {d : Nat} {h : Hp} {Q : Pst} {a0 a1 a2 : Int32} {ls : List Value} : T (d + 1) 202 12 ls [.int a2, .int a1, .int a0] h Q ↔ T d 126 0 [.int a0, .int a1, .int a2] [] h (fun x h2 => T (d + 1) 202 15 ls (rl x []) h2 Q) := T_staticR (as := [.int a0, .int a1, .int a2]) (r := []) m202 m126 c202_12 k8_49 (Or.inl rfl) rfl (by decide) rfl (by simp [wrd, Value.category]) (by simp [stk, Value.category]) rfl
theorem c202_15 : cod 202 15 = some (.ifCond .ne 10, 3) := cod_of b202 dX8_rain_15
theorem t202_15 {d : Nat} {h : Hp} {Q : Pst} {x : Int32} {ls : List Value} {st : List Value} : T d 202 15 ls (.int x :: st) h Q ↔ (if ¬ x = 0 then T d 202 25 ls st h Q else T d 202 18 ls st h Q) := T_if_ne c202_15 (by decide)
theorem c202_25 : cod 202 25 = some (.lconst 0, 1) := cod_of b202 dX8_rain_25
theorem t202_25 {d : Nat} {h : Hp} {Q : Pst} {ls : List Value} {st : List Value} : T d 202 25 ls st h Q ↔ T d 202 26 ls (.long 0 :: st) h Q := T_lconstV c202_25 (by decide)
theorem c202_26 : cod 202 26 = some (.lstore_n 3, 1) := cod_of b202 dX8_rain_26
theorem t202_26 {d : Nat} {h : Hp} {Q : Pst} {l0 l1 l2 l3 l4 l5 : Value} {x : Int64} {st : List Value} : T d 202 26 [l0, l1, l2, l3, l4, l5] (.long x :: st) h Q ↔ T d 202 27 [l0, l1, kil l2, .long x, un, l5] st h Q := T_lstore_n c202_26 (Nat.le_of_ble_eq_true rfl)
theorem c202_27 : cod 202 27 = some (.iconst 0, 1) := cod_of b202 dX8_rain_27
theorem t202_27 {d : Nat} {h : Hp} {Q : Pst} {ls : List Value} {st : List Value} : T d 202 27 ls st h Q ↔ T d 202 28 ls (.int 0 :: st) h Q := T_iconstV c202_27 (by decide)
theorem c202_28 : cod 202 28 = some (.istore 5, 2) := cod_of b202 dX8_rain_28
theorem t202_28 {d : Nat} {h : Hp} {Q : Pst} {l0 l1 l2 l3 l4 l5 : Value} {x : Int32} {st : List Value} : T d 202 28 [l0, l1, l2, l3, l4, l5] (.int x :: st) h Q ↔ T d 202 30 [l0, l1, l2, l3, kil l4, .int x] st h Q := T_istore c202_28 (Nat.le_of_ble_eq_true rfl)
theorem c202_30 : cod 202 30 = some (.iload 5, 2) := cod_of b202 dX8_rain_30
theorem t202_30 {d : Nat} {h : Hp} {Q : Pst} {l0 l1 l2 l3 l4 : Value} {x : Int32} {st : List Value} : T d 202 30 [l0, l1, l2, l3, l4, .int x] st h Q ↔ T d 202 32 [l0, l1, l2, l3, l4, .int x] (.int x :: st) h Q := T_iload c202_30 rfl
theorem c202_32 : cod 202 32 = some (.aload_n 0, 1) := cod_of b202 dX8_rain_32
theorem t202_32 {d : Nat} {h : Hp} {Q : Pst} {l1 l2 l3 l4 l5 : Value} {x : Nat} {st : List Value} : T d 202 32 [.ref x, l1, l2, l3, l4, l5] st h Q ↔ T d 202 33 [.ref x, l1, l2, l3, l4, l5] (.ref x :: st) h Q := T_aload_n c202_32 rfl
theorem c202_33 : cod 202 33 = some (.getfield 7, 3) := cod_of b202 dX8_rain_33
theorem t202_33 {d : Nat} {h : Hp} {Q : Pst} {a : Nat} {ls : List Value} {st : List Value} : T d 202 33 ls (.ref a :: st) h Q ↔ gF (h.2.2 a) 7 0 (fun v => T d 202 36 ls (v :: st) h Q) := T_getfieldR m202 c202_33 f8_7
theorem c202_36 : cod 202 36 = some (.bipush 25, 2) := cod_of b202 dX8_rain_36
theorem t202_36 {d : Nat} {h : Hp} {Q : Pst} {ls : List Value} {st : List Value} : T d 202 36 ls st h Q ↔ T d 202 38 ls (.int 25 :: st) h Q := T_bipushV c202_36 (by decide)
theorem c202_38 : cod 202 38 = some (.iaload, 1) := cod_of b202 dX8_rain_38
theorem t202_38 {d : Nat} {h : Hp} {Q : Pst} {a : Nat} {i : Int32} {ls : List Value} {st : List Value} : T d 202 38 ls (.int i :: .ref a :: st) h Q ↔ aL (h.2.2 a) i (fun x => T d 202 39 ls (.int x :: st) h Q) := T_iaload c202_38
theorem c202_39 : cod 202 39 = some (.if_icmp .ge 43, 3) := cod_of b202 dX8_rain_39
theorem t202_39 {d : Nat} {h : Hp} {Q : Pst} {x y : Int32} {ls : List Value} {st : List Value} : T d 202 39 ls (.int y :: .int x :: st) h Q ↔ (if y ≤ x then T d 202 82 ls st h Q else T d 202 42 ls st h Q) := T_icmp_ge c202_39 (by decide)
theorem c202_42 : cod 202 42 = some (.lload_n 3, 1) := cod_of b202 dX8_rain_42
theorem t202_42 {d : Nat} {h : Hp} {Q : Pst} {l0 l1 l2 l4 l5 : Value} {x : Int64} {st : List Value} : T d 202 42 [l0, l1, l2, .long x, l4, l5] st h Q ↔ T d 202 43 [l0, l1, l2, .long x, l4, l5] (.long x :: st) h Q := T_lload_n c202_42 rfl
theorem c202_43 : cod 202 43 = some (.iload_n 2, 1) := cod_of b202 dX8_rain_43
theorem t202_43 {d : Nat} {h : Hp} {Q : Pst} {l0 l1 l3 l4 l5 : Value} {x : Int32} {st : List Value} : T d 202 43 [l0, l1, .int x, l3, l4, l5] st h Q ↔ T d 202 44 [l0, l1, .int x, l3, l4, l5] (.int x :: st) h Q := T_iload_n c202_43 rfl
theorem c202_44 : cod 202 44 = some (.aload_n 0, 1) := cod_of b202 dX8_rain_44
theorem t202_44 {d : Nat} {h : Hp} {Q : Pst} {l1 l2 l3 l4 l5 : Value} {x : Nat} {st : List Value} : T d 202 44 [.ref x, l1, l2, l3, l4, l5] st h Q ↔ T d 202 45 [.ref x, l1, l2, l3, l4, l5] (.ref x :: st) h Q := T_aload_n c202_44 rfl
theorem c202_45 : cod 202 45 = some (.iload_n 1, 1) := cod_of b202 dX8_rain_45
theorem t202_45 {d : Nat} {h : Hp} {Q : Pst} {l0 l2 l3 l4 l5 : Value} {x : Int32} {st : List Value} : T d 202 45 [l0, .int x, l2, l3, l4, l5] st h Q ↔ T d 202 46 [l0, .int x, l2, l3, l4, l5] (.int x :: st) h Q := T_iload_n c202_45 rfl
theorem c202_46 : cod 202 46 = some (.iload 5, 2) := cod_of b202 dX8_rain_46
theorem t202_46 {d : Nat} {h : Hp} {Q : Pst} {l0 l1 l2 l3 l4 : Value} {x : Int32} {st : List Value} : T d 202 46 [l0, l1, l2, l3, l4, .int x] st h Q ↔ T d 202 48 [l0, l1, l2, l3, l4, .int x] (.int x :: st) h Q := T_iload c202_46 rfl
theorem c202_48 : cod 202 48 = some (.iconst 4, 1) := cod_of b202 dX8_rain_48
theorem t202_48 {d : Nat} {h : Hp} {Q : Pst} {ls : List Value} {st : List Value} : T d 202 48 ls st h Q ↔ T d 202 49 ls (.int 4 :: st) h Q := T_iconstV c202_48 (by decide)
theorem c202_49 : cod 202 49 = some (.invokevirtual 145, 3) := cod_of b202 dX8_rain_49
theorem t202_49 {d : Nat} {h : Hp} {Q : Pst} {a0 a1 a2 s0 : Int32} {s1 : Int64} {a : Nat} {ls : List Value} (ho : isO (h.2.2 a) 7) : T (d + 1) 202 49 ls [.int a2, .int a1, .int a0, .ref a, .int s0, .long s1] h Q ↔ T d 157 0 [.ref a, .int a0, .int a1, .int a2] [] h (fun x h2 => T (d + 1) 202 52 ls (rl x [.int s0, .long s1]) h2 Q) := T_virtualR (as := [.int a0, .int a1, .int a2]) (r := [.int s0, .long s1]) m202 m157 c202_49 k8_145  rfl (by decide) rfl (by simp [wrd, Value.category]) (by simp [stk, Value.category]) rfl (by decide +kernel) ho
theorem c202_52 : cod 202 52 = some (.invokestatic 148, 3) := cod_of b202 dX8_rain_52
theorem t202_52 {d : Nat} {h : Hp} {Q : Pst} {a0 s0 : Int32} {s1 : Int64} {ls : List Value} : T (d + 1) 202 52 ls [.int a0, .int s0, .long s1] h Q ↔ T d 128 0 [.int a0, un, un] [] h (fun x h2 => T (d + 1) 202 55 ls (rl x [.int s0, .long s1]) h2 Q) := T_staticR (as := [.int a0]) (r := [.int s0, .long s1]) m202 m128 c202_52 k8_148 (Or.inl rfl) rfl (by decide) rfl (by simp [wrd, Value.category]) (by simp [stk, Value.category]) rfl
theorem c202_55 : cod 202 55 = some (.imul, 1) := cod_of b202 dX8_rain_55
theorem t202_55 {d : Nat} {h : Hp} {Q : Pst} {x y : Int32} {ls : List Value} {st : List Value} : T d 202 55 ls (.int y :: .int x :: st) h Q ↔ T d 202 56 ls (.int (x * y) :: st) h Q := T_imul c202_55
theorem c202_56 : cod 202 56 = some (.bipush 10, 2) := cod_of b202 dX8_rain_56
theorem t202_56 {d : Nat} {h : Hp} {Q : Pst} {ls : List Value} {st : List Value} : T d 202 56 ls st h Q ↔ T d 202 58 ls (.int 10 :: st) h Q := T_bipushV c202_56 (by decide)
theorem c202_58 : cod 202 58 = some (.iload_n 2, 1) := cod_of b202 dX8_rain_58
theorem t202_58 {d : Nat} {h : Hp} {Q : Pst} {l0 l1 l3 l4 l5 : Value} {x : Int32} {st : List Value} : T d 202 58 [l0, l1, .int x, l3, l4, l5] st h Q ↔ T d 202 59 [l0, l1, .int x, l3, l4, l5] (.int x :: st) h Q := T_iload_n c202_58 rfl
theorem c202_59 : cod 202 59 = some (.isub, 1) := cod_of b202 dX8_rain_59
theorem t202_59 {d : Nat} {h : Hp} {Q : Pst} {x y : Int32} {ls : List Value} {st : List Value} : T d 202 59 ls (.int y :: .int x :: st) h Q ↔ T d 202 60 ls (.int (x - y) :: st) h Q := T_isub c202_59
theorem c202_60 : cod 202 60 = some (.aload_n 0, 1) := cod_of b202 dX8_rain_60
theorem t202_60 {d : Nat} {h : Hp} {Q : Pst} {l1 l2 l3 l4 l5 : Value} {x : Nat} {st : List Value} : T d 202 60 [.ref x, l1, l2, l3, l4, l5] st h Q ↔ T d 202 61 [.ref x, l1, l2, l3, l4, l5] (.ref x :: st) h Q := T_aload_n c202_60 rfl
theorem c202_61 : cod 202 61 = some (.iload_n 1, 1) := cod_of b202 dX8_rain_61
theorem t202_61 {d : Nat} {h : Hp} {Q : Pst} {l0 l2 l3 l4 l5 : Value} {x : Int32} {st : List Value} : T d 202 61 [l0, .int x, l2, l3, l4, l5] st h Q ↔ T d 202 62 [l0, .int x, l2, l3, l4, l5] (.int x :: st) h Q := T_iload_n c202_61 rfl
theorem c202_62 : cod 202 62 = some (.iload 5, 2) := cod_of b202 dX8_rain_62
theorem t202_62 {d : Nat} {h : Hp} {Q : Pst} {l0 l1 l2 l3 l4 : Value} {x : Int32} {st : List Value} : T d 202 62 [l0, l1, l2, l3, l4, .int x] st h Q ↔ T d 202 64 [l0, l1, l2, l3, l4, .int x] (.int x :: st) h Q := T_iload c202_62 rfl
theorem c202_64 : cod 202 64 = some (.iconst 0, 1) := cod_of b202 dX8_rain_64
theorem t202_64 {d : Nat} {h : Hp} {Q : Pst} {ls : List Value} {st : List Value} : T d 202 64 ls st h Q ↔ T d 202 65 ls (.int 0 :: st) h Q := T_iconstV c202_64 (by decide)
theorem c202_65 : cod 202 65 = some (.invokevirtual 145, 3) := cod_of b202 dX8_rain_65
theorem t202_65 {d : Nat} {h : Hp} {Q : Pst} {a0 a1 a2 s0 s1 : Int32} {s2 : Int64} {a : Nat} {ls : List Value} (ho : isO (h.2.2 a) 7) : T (d + 1) 202 65 ls [.int a2, .int a1, .int a0, .ref a, .int s0, .int s1, .long s2] h Q ↔ T d 157 0 [.ref a, .int a0, .int a1, .int a2] [] h (fun x h2 => T (d + 1) 202 68 ls (rl x [.int s0, .int s1, .long s2]) h2 Q) := T_virtualR (as := [.int a0, .int a1, .int a2]) (r := [.int s0, .int s1, .long s2]) m202 m157 c202_65 k8_145  rfl (by decide) rfl (by simp [wrd, Value.category]) (by simp [stk, Value.category]) rfl (by decide +kernel) ho
theorem c202_68 : cod 202 68 = some (.invokestatic 148, 3) := cod_of b202 dX8_rain_68
theorem t202_68 {d : Nat} {h : Hp} {Q : Pst} {a0 s0 s1 : Int32} {s2 : Int64} {ls : List Value} : T (d + 1) 202 68 ls [.int a0, .int s0, .int s1, .long s2] h Q ↔ T d 128 0 [.int a0, un, un] [] h (fun x h2 => T (d + 1) 202 71 ls (rl x [.int s0, .int s1, .long s2]) h2 Q) := T_staticR (as := [.int a0]) (r := [.int s0, .int s1, .long s2]) m202 m128 c202_68 k8_148 (Or.inl rfl) rfl (by decide) rfl (by simp [wrd, Value.category]) (by simp [stk, Value.category]) rfl
theorem c202_71 : cod 202 71 = some (.imul, 1) := cod_of b202 dX8_rain_71
theorem t202_71 {d : Nat} {h : Hp} {Q : Pst} {x y : Int32} {ls : List Value} {st : List Value} : T d 202 71 ls (.int y :: .int x :: st) h Q ↔ T d 202 72 ls (.int (x * y) :: st) h Q := T_imul c202_71
theorem c202_72 : cod 202 72 = some (.iadd, 1) := cod_of b202 dX8_rain_72
theorem t202_72 {d : Nat} {h : Hp} {Q : Pst} {x y : Int32} {ls : List Value} {st : List Value} : T d 202 72 ls (.int y :: .int x :: st) h Q ↔ T d 202 73 ls (.int (x + y) :: st) h Q := T_iadd c202_72
theorem c202_73 : cod 202 73 = some (.i2l, 1) := cod_of b202 dX8_rain_73
theorem t202_73 {d : Nat} {h : Hp} {Q : Pst} {x : Int32} {ls : List Value} {st : List Value} : T d 202 73 ls (.int x :: st) h Q ↔ T d 202 74 ls (.long x.toInt64 :: st) h Q := T_i2l c202_73
theorem c202_74 : cod 202 74 = some (.ladd, 1) := cod_of b202 dX8_rain_74
theorem t202_74 {d : Nat} {h : Hp} {Q : Pst} {x y : Int64} {ls : List Value} {st : List Value} : T d 202 74 ls (.long y :: .long x :: st) h Q ↔ T d 202 75 ls (.long (x + y) :: st) h Q := T_ladd c202_74
theorem c202_75 : cod 202 75 = some (.lstore_n 3, 1) := cod_of b202 dX8_rain_75
theorem t202_75 {d : Nat} {h : Hp} {Q : Pst} {l0 l1 l2 l3 l4 l5 : Value} {x : Int64} {st : List Value} : T d 202 75 [l0, l1, l2, l3, l4, l5] (.long x :: st) h Q ↔ T d 202 76 [l0, l1, kil l2, .long x, un, l5] st h Q := T_lstore_n c202_75 (Nat.le_of_ble_eq_true rfl)
theorem c202_76 : cod 202 76 = some (.iinc 5 1, 3) := cod_of b202 dX8_rain_76
theorem t202_76 {d : Nat} {h : Hp} {Q : Pst} {l0 l1 l2 l3 l4 : Value} {x : Int32} {st : List Value} : T d 202 76 [l0, l1, l2, l3, l4, .int x] st h Q ↔ T d 202 79 [l0, l1, l2, l3, kil l4, .int (x + 1)] st h Q := T_iincV c202_76 rfl (Nat.le_of_ble_eq_true rfl) (by decide) rfl
theorem c202_79 : cod 202 79 = some (.goto (-49), 3) := cod_of b202 dX8_rain_79
theorem t202_79 {d : Nat} {h : Hp} {Q : Pst} {ls : List Value} {st : List Value} : T d 202 79 ls st h Q ↔ T d 202 30 ls st h Q := T_goto c202_79 (by decide)
theorem c202_82 : cod 202 82 = some (.aload_n 0, 1) := cod_of b202 dX8_rain_82
theorem t202_82 {d : Nat} {h : Hp} {Q : Pst} {l1 l2 l3 l4 l5 : Value} {x : Nat} {st : List Value} : T d 202 82 [.ref x, l1, l2, l3, l4, l5] st h Q ↔ T d 202 83 [.ref x, l1, l2, l3, l4, l5] (.ref x :: st) h Q := T_aload_n c202_82 rfl
theorem c202_83 : cod 202 83 = some (.lload_n 3, 1) := cod_of b202 dX8_rain_83
theorem t202_83 {d : Nat} {h : Hp} {Q : Pst} {l0 l1 l2 l4 l5 : Value} {x : Int64} {st : List Value} : T d 202 83 [l0, l1, l2, .long x, l4, l5] st h Q ↔ T d 202 84 [l0, l1, l2, .long x, l4, l5] (.long x :: st) h Q := T_lload_n c202_83 rfl
theorem c202_84 : cod 202 84 = some (.ldc2_w 209, 3) := cod_of b202 dX8_rain_84
theorem t202_84 {d : Nat} {h : Hp} {Q : Pst} {ls : List Value} {st : List Value} : T d 202 84 ls st h Q ↔ T d 202 87 ls (.long 10 :: st) h Q := T_ldc2_wR m202 c202_84 (by decide +kernel)
theorem c202_87 : cod 202 87 = some (.invokevirtual 211, 3) := cod_of b202 dX8_rain_87
theorem t202_87 {d : Nat} {h : Hp} {Q : Pst} {a0 a1 : Int64} {a : Nat} {ls : List Value} (ho : isO (h.2.2 a) 7) : T (d + 1) 202 87 ls [.long a1, .long a0, .ref a] h Q ↔ T d 201 0 [.ref a, .long a0, un, .long a1, un, un, un, un, un, un, un] [] h (fun x h2 => T (d + 1) 202 90 ls (rl x []) h2 Q) := T_virtualR (as := [.long a0, .long a1]) (r := []) m202 m201 c202_87 k8_211  rfl (by decide) rfl (by simp [wrd, Value.category]) (by simp [stk, Value.category]) rfl (by decide +kernel) ho
theorem c202_90 : cod 202 90 = some (.iconst 1, 1) := cod_of b202 dX8_rain_90
theorem t202_90 {d : Nat} {h : Hp} {Q : Pst} {ls : List Value} {st : List Value} : T d 202 90 ls st h Q ↔ T d 202 91 ls (.int 1 :: st) h Q := T_iconstV c202_90 (by decide)
theorem c202_91 : cod 202 91 = some (.ireturn, 1) := cod_of b202 dX8_rain_91
theorem t202_91 {d : Nat} {h : Hp} {Q : Pst} {x : Int32} {ls : List Value} : T d 202 91 ls [.int x] h Q ↔ Q (some (.int x)) h := T_iretR m202 c202_91 rfl
theorem c202_18 : cod 202 18 = some (.aload_n 0, 1) := cod_of b202 dX8_rain_18
theorem t202_18 {d : Nat} {h : Hp} {Q : Pst} {l1 l2 l3 l4 l5 : Value} {x : Nat} {st : List Value} : T d 202 18 [.ref x, l1, l2, l3, l4, l5] st h Q ↔ T d 202 19 [.ref x, l1, l2, l3, l4, l5] (.ref x :: st) h Q := T_aload_n c202_18 rfl
theorem c202_19 : cod 202 19 = some (.bipush (-2), 2) := cod_of b202 dX8_rain_19
theorem t202_19 {d : Nat} {h : Hp} {Q : Pst} {ls : List Value} {st : List Value} : T d 202 19 ls st h Q ↔ T d 202 21 ls (.int (-2) :: st) h Q := T_bipushV c202_19 (by decide)
theorem c202_21 : cod 202 21 = some (.invokevirtual 45, 3) := cod_of b202 dX8_rain_21
theorem t202_21 {d : Nat} {h : Hp} {Q : Pst} {a0 : Int32} {a : Nat} {ls : List Value} (ho : isO (h.2.2 a) 7) : T (d + 1) 202 21 ls [.int a0, .ref a] h Q ↔ T d 129 0 [.ref a, .int a0] [] h (fun x h2 => T (d + 1) 202 24 ls (rl x []) h2 Q) := T_virtualR (as := [.int a0]) (r := []) m202 m129 c202_21 k8_45  rfl (by decide) rfl (by simp [wrd, Value.category]) (by simp [stk, Value.category]) rfl (by decide +kernel) ho
theorem c202_24 : cod 202 24 = some (.ireturn, 1) := cod_of b202 dX8_rain_24
theorem t202_24 {d : Nat} {h : Hp} {Q : Pst} {x : Int32} {ls : List Value} : T d 202 24 ls [.int x] h Q ↔ Q (some (.int x)) h := T_iretR m202 c202_24 rfl
theorem b203 : (mR 203).2.2.1 = cX8_years := by rw [m203]
theorem c203_0 : cod 203 0 = some (.iload_n 1, 1) := cod_of b203 dX8_years_0
theorem t203_0 {d : Nat} {h : Hp} {Q : Pst} {l0 l2 l3 l4 l5 l6 l7 : Value} {x : Int32} {st : List Value} : T d 203 0 [l0, .int x, l2, l3, l4, l5, l6, l7] st h Q ↔ T d 203 1 [l0, .int x, l2, l3, l4, l5, l6, l7] (.int x :: st) h Q := T_iload_n c203_0 rfl
theorem c203_1 : cod 203 1 = some (.iconst 0, 1) := cod_of b203 dX8_years_1
theorem t203_1 {d : Nat} {h : Hp} {Q : Pst} {ls : List Value} {st : List Value} : T d 203 1 ls st h Q ↔ T d 203 2 ls (.int 0 :: st) h Q := T_iconstV c203_1 (by decide)
theorem c203_2 : cod 203 2 = some (.ldc 215, 2) := cod_of b203 dX8_years_2
theorem t203_2 {d : Nat} {h : Hp} {Q : Pst} {ls : List Value} {st : List Value} : T d 203 2 ls st h Q ↔ T d 203 4 ls (.int 999999 :: st) h Q := T_ldcR m203 c203_2 (by decide +kernel)
theorem c203_4 : cod 203 4 = some (.invokestatic 49, 3) := cod_of b203 dX8_years_4
theorem t203_4 {d : Nat} {h : Hp} {Q : Pst} {a0 a1 a2 : Int32} {ls : List Value} : T (d + 1) 203 4 ls [.int a2, .int a1, .int a0] h Q ↔ T d 126 0 [.int a0, .int a1, .int a2] [] h (fun x h2 => T (d + 1) 203 7 ls (rl x []) h2 Q) := T_staticR (as := [.int a0, .int a1, .int a2]) (r := []) m203 m126 c203_4 k8_49 (Or.inl rfl) rfl (by decide) rfl (by simp [wrd, Value.category]) (by simp [stk, Value.category]) rfl
theorem c203_7 : cod 203 7 = some (.ifCond .eq 13, 3) := cod_of b203 dX8_years_7
theorem t203_7 {d : Nat} {h : Hp} {Q : Pst} {x : Int32} {ls : List Value} {st : List Value} : T d 203 7 ls (.int x :: st) h Q ↔ (if x = 0 then T d 203 20 ls st h Q else T d 203 10 ls st h Q) := T_if_eq c203_7 (by decide)
theorem c203_10 : cod 203 10 = some (.iload_n 2, 1) := cod_of b203 dX8_years_10
theorem t203_10 {d : Nat} {h : Hp} {Q : Pst} {l0 l1 l3 l4 l5 l6 l7 : Value} {x : Int32} {st : List Value} : T d 203 10 [l0, l1, .int x, l3, l4, l5, l6, l7] st h Q ↔ T d 203 11 [l0, l1, .int x, l3, l4, l5, l6, l7] (.int x :: st) h Q := T_iload_n c203_10 rfl
theorem c203_11 : cod 203 11 = some (.iconst 0, 1) := cod_of b203 dX8_years_11
theorem t203_11 {d : Nat} {h : Hp} {Q : Pst} {ls : List Value} {st : List Value} : T d 203 11 ls st h Q ↔ T d 203 12 ls (.int 0 :: st) h Q := T_iconstV c203_11 (by decide)
theorem c203_12 : cod 203 12 = some (.bipush 60, 2) := cod_of b203 dX8_years_12
theorem t203_12 {d : Nat} {h : Hp} {Q : Pst} {ls : List Value} {st : List Value} : T d 203 12 ls st h Q ↔ T d 203 14 ls (.int 60 :: st) h Q := T_bipushV c203_12 (by decide)
theorem c203_14 : cod 203 14 = some (.invokestatic 49, 3) := cod_of b203 dX8_years_14
theorem t203_14 {d : Nat} {h : Hp} {Q : Pst} {a0 a1 a2 : Int32} {ls : List Value} : T (d + 1) 203 14 ls [.int a2, .int a1, .int a0] h Q ↔ T d 126 0 [.int a0, .int a1, .int a2] [] h (fun x h2 => T (d + 1) 203 17 ls (rl x []) h2 Q) := T_staticR (as := [.int a0, .int a1, .int a2]) (r := []) m203 m126 c203_14 k8_49 (Or.inl rfl) rfl (by decide) rfl (by simp [wrd, Value.category]) (by simp [stk, Value.category]) rfl
theorem c203_17 : cod 203 17 = some (.ifCond .ne 10, 3) := cod_of b203 dX8_years_17
theorem t203_17 {d : Nat} {h : Hp} {Q : Pst} {x : Int32} {ls : List Value} {st : List Value} : T d 203 17 ls (.int x :: st) h Q ↔ (if ¬ x = 0 then T d 203 27 ls st h Q else T d 203 20 ls st h Q) := T_if_ne c203_17 (by decide)
theorem c203_27 : cod 203 27 = some (.aload_n 0, 1) := cod_of b203 dX8_years_27
theorem t203_27 {d : Nat} {h : Hp} {Q : Pst} {l1 l2 l3 l4 l5 l6 l7 : Value} {x : Nat} {st : List Value} : T d 203 27 [.ref x, l1, l2, l3, l4, l5, l6, l7] st h Q ↔ T d 203 28 [.ref x, l1, l2, l3, l4, l5, l6, l7] (.ref x :: st) h Q := T_aload_n c203_27 rfl
theorem c203_28 : cod 203 28 = some (.invokevirtual 169, 3) := cod_of b203 dX8_years_28
theorem t203_28 {d : Nat} {h : Hp} {Q : Pst} {a : Nat} {ls : List Value} (ho : isO (h.2.2 a) 7) : T (d + 1) 203 28 ls [.ref a] h Q ↔ T d 174 0 [.ref a, un] [] h (fun x h2 => T (d + 1) 203 31 ls (rl x []) h2 Q) := T_virtualR (as := []) (r := []) m203 m174 c203_28 k8_169  rfl (by decide) rfl (by simp [wrd, Value.category]) (by simp [stk, Value.category]) rfl (by decide +kernel) ho
theorem c203_31 : cod 203 31 = some (.iload_n 1, 1) := cod_of b203 dX8_years_31
theorem t203_31 {d : Nat} {h : Hp} {Q : Pst} {l0 l2 l3 l4 l5 l6 l7 : Value} {x : Int32} {st : List Value} : T d 203 31 [l0, .int x, l2, l3, l4, l5, l6, l7] st h Q ↔ T d 203 32 [l0, .int x, l2, l3, l4, l5, l6, l7] (.int x :: st) h Q := T_iload_n c203_31 rfl
theorem c203_32 : cod 203 32 = some (.i2l, 1) := cod_of b203 dX8_years_32
theorem t203_32 {d : Nat} {h : Hp} {Q : Pst} {x : Int32} {ls : List Value} {st : List Value} : T d 203 32 ls (.int x :: st) h Q ↔ T d 203 33 ls (.long x.toInt64 :: st) h Q := T_i2l c203_32
theorem c203_33 : cod 203 33 = some (.lstore_n 3, 1) := cod_of b203 dX8_years_33
theorem t203_33 {d : Nat} {h : Hp} {Q : Pst} {l0 l1 l2 l3 l4 l5 l6 l7 : Value} {x : Int64} {st : List Value} : T d 203 33 [l0, l1, l2, l3, l4, l5, l6, l7] (.long x :: st) h Q ↔ T d 203 34 [l0, l1, kil l2, .long x, un, l5, l6, l7] st h Q := T_lstore_n c203_33 (Nat.le_of_ble_eq_true rfl)
theorem c203_34 : cod 203 34 = some (.iconst 0, 1) := cod_of b203 dX8_years_34
theorem t203_34 {d : Nat} {h : Hp} {Q : Pst} {ls : List Value} {st : List Value} : T d 203 34 ls st h Q ↔ T d 203 35 ls (.int 0 :: st) h Q := T_iconstV c203_34 (by decide)
theorem c203_35 : cod 203 35 = some (.istore 5, 2) := cod_of b203 dX8_years_35
theorem t203_35 {d : Nat} {h : Hp} {Q : Pst} {l0 l1 l2 l3 l4 l5 l6 l7 : Value} {x : Int32} {st : List Value} : T d 203 35 [l0, l1, l2, l3, l4, l5, l6, l7] (.int x :: st) h Q ↔ T d 203 37 [l0, l1, l2, l3, kil l4, .int x, l6, l7] st h Q := T_istore c203_35 (Nat.le_of_ble_eq_true rfl)
theorem c203_37 : cod 203 37 = some (.iload 5, 2) := cod_of b203 dX8_years_37
theorem t203_37 {d : Nat} {h : Hp} {Q : Pst} {l0 l1 l2 l3 l4 l6 l7 : Value} {x : Int32} {st : List Value} : T d 203 37 [l0, l1, l2, l3, l4, .int x, l6, l7] st h Q ↔ T d 203 39 [l0, l1, l2, l3, l4, .int x, l6, l7] (.int x :: st) h Q := T_iload c203_37 rfl
theorem c203_39 : cod 203 39 = some (.iload_n 2, 1) := cod_of b203 dX8_years_39
theorem t203_39 {d : Nat} {h : Hp} {Q : Pst} {l0 l1 l3 l4 l5 l6 l7 : Value} {x : Int32} {st : List Value} : T d 203 39 [l0, l1, .int x, l3, l4, l5, l6, l7] st h Q ↔ T d 203 40 [l0, l1, .int x, l3, l4, l5, l6, l7] (.int x :: st) h Q := T_iload_n c203_39 rfl
theorem c203_40 : cod 203 40 = some (.if_icmp .ge 89, 3) := cod_of b203 dX8_years_40
theorem t203_40 {d : Nat} {h : Hp} {Q : Pst} {x y : Int32} {ls : List Value} {st : List Value} : T d 203 40 ls (.int y :: .int x :: st) h Q ↔ (if y ≤ x then T d 203 129 ls st h Q else T d 203 43 ls st h Q) := T_icmp_ge c203_40 (by decide)
theorem c203_43 : cod 203 43 = some (.lload_n 3, 1) := cod_of b203 dX8_years_43
theorem t203_43 {d : Nat} {h : Hp} {Q : Pst} {l0 l1 l2 l4 l5 l6 l7 : Value} {x : Int64} {st : List Value} : T d 203 43 [l0, l1, l2, .long x, l4, l5, l6, l7] st h Q ↔ T d 203 44 [l0, l1, l2, .long x, l4, l5, l6, l7] (.long x :: st) h Q := T_lload_n c203_43 rfl
theorem c203_44 : cod 203 44 = some (.ldc2_w 216, 3) := cod_of b203 dX8_years_44
theorem t203_44 {d : Nat} {h : Hp} {Q : Pst} {ls : List Value} {st : List Value} : T d 203 44 ls st h Q ↔ T d 203 47 ls (.long 1103515245 :: st) h Q := T_ldc2_wR m203 c203_44 (by decide +kernel)
theorem c203_47 : cod 203 47 = some (.lmul, 1) := cod_of b203 dX8_years_47
theorem t203_47 {d : Nat} {h : Hp} {Q : Pst} {x y : Int64} {ls : List Value} {st : List Value} : T d 203 47 ls (.long y :: .long x :: st) h Q ↔ T d 203 48 ls (.long (x * y) :: st) h Q := T_lmul c203_47
theorem c203_48 : cod 203 48 = some (.ldc2_w 218, 3) := cod_of b203 dX8_years_48
theorem t203_48 {d : Nat} {h : Hp} {Q : Pst} {ls : List Value} {st : List Value} : T d 203 48 ls st h Q ↔ T d 203 51 ls (.long 12345 :: st) h Q := T_ldc2_wR m203 c203_48 (by decide +kernel)
theorem c203_51 : cod 203 51 = some (.ladd, 1) := cod_of b203 dX8_years_51
theorem t203_51 {d : Nat} {h : Hp} {Q : Pst} {x y : Int64} {ls : List Value} {st : List Value} : T d 203 51 ls (.long y :: .long x :: st) h Q ↔ T d 203 52 ls (.long (x + y) :: st) h Q := T_ladd c203_51
theorem c203_52 : cod 203 52 = some (.ldc2_w 220, 3) := cod_of b203 dX8_years_52
theorem t203_52 {d : Nat} {h : Hp} {Q : Pst} {ls : List Value} {st : List Value} : T d 203 52 ls st h Q ↔ T d 203 55 ls (.long 2147483648 :: st) h Q := T_ldc2_wR m203 c203_52 (by decide +kernel)
theorem c203_55 : cod 203 55 = some (.lrem, 1) := cod_of b203 dX8_years_55
theorem t203_55 {d : Nat} {h : Hp} {Q : Pst} {x y : Int64} {ls : List Value} {st : List Value} : T d 203 55 ls (.long y :: .long x :: st) h Q ↔ (¬ y = 0 ∧ T d 203 56 ls (.long (x - x / y * y) :: st) h Q) := T_lrem c203_55
theorem c203_56 : cod 203 56 = some (.lstore_n 3, 1) := cod_of b203 dX8_years_56
theorem t203_56 {d : Nat} {h : Hp} {Q : Pst} {l0 l1 l2 l3 l4 l5 l6 l7 : Value} {x : Int64} {st : List Value} : T d 203 56 [l0, l1, l2, l3, l4, l5, l6, l7] (.long x :: st) h Q ↔ T d 203 57 [l0, l1, kil l2, .long x, un, l5, l6, l7] st h Q := T_lstore_n c203_56 (Nat.le_of_ble_eq_true rfl)
theorem c203_57 : cod 203 57 = some (.lload_n 3, 1) := cod_of b203 dX8_years_57
theorem t203_57 {d : Nat} {h : Hp} {Q : Pst} {l0 l1 l2 l4 l5 l6 l7 : Value} {x : Int64} {st : List Value} : T d 203 57 [l0, l1, l2, .long x, l4, l5, l6, l7] st h Q ↔ T d 203 58 [l0, l1, l2, .long x, l4, l5, l6, l7] (.long x :: st) h Q := T_lload_n c203_57 rfl
theorem c203_58 : cod 203 58 = some (.ldc2_w 222, 3) := cod_of b203 dX8_years_58
theorem t203_58 {d : Nat} {h : Hp} {Q : Pst} {ls : List Value} {st : List Value} : T d 203 58 ls st h Q ↔ T d 203 61 ls (.long 65536 :: st) h Q := T_ldc2_wR m203 c203_58 (by decide +kernel)
theorem c203_61 : cod 203 61 = some (.ldiv, 1) := cod_of b203 dX8_years_61
theorem t203_61 {d : Nat} {h : Hp} {Q : Pst} {x y : Int64} {ls : List Value} {st : List Value} : T d 203 61 ls (.long y :: .long x :: st) h Q ↔ (¬ y = 0 ∧ T d 203 62 ls (.long (x / y) :: st) h Q) := T_ldiv c203_61
theorem c203_62 : cod 203 62 = some (.ldc2_w 224, 3) := cod_of b203 dX8_years_62
theorem t203_62 {d : Nat} {h : Hp} {Q : Pst} {ls : List Value} {st : List Value} : T d 203 62 ls st h Q ↔ T d 203 65 ls (.long 6 :: st) h Q := T_ldc2_wR m203 c203_62 (by decide +kernel)
theorem c203_65 : cod 203 65 = some (.lrem, 1) := cod_of b203 dX8_years_65
theorem t203_65 {d : Nat} {h : Hp} {Q : Pst} {x y : Int64} {ls : List Value} {st : List Value} : T d 203 65 ls (.long y :: .long x :: st) h Q ↔ (¬ y = 0 ∧ T d 203 66 ls (.long (x - x / y * y) :: st) h Q) := T_lrem c203_65
theorem c203_66 : cod 203 66 = some (.l2i, 1) := cod_of b203 dX8_years_66
theorem t203_66 {d : Nat} {h : Hp} {Q : Pst} {x : Int64} {ls : List Value} {st : List Value} : T d 203 66 ls (.long x :: st) h Q ↔ T d 203 67 ls (.int x.toInt32 :: st) h Q := T_l2i c203_66
theorem c203_67 : cod 203 67 = some (.istore 6, 2) := cod_of b203 dX8_years_67
theorem t203_67 {d : Nat} {h : Hp} {Q : Pst} {l0 l1 l2 l3 l4 l5 l6 l7 : Value} {x : Int32} {st : List Value} : T d 203 67 [l0, l1, l2, l3, l4, l5, l6, l7] (.int x :: st) h Q ↔ T d 203 69 [l0, l1, l2, l3, l4, kil l5, .int x, l7] st h Q := T_istore c203_67 (Nat.le_of_ble_eq_true rfl)
theorem c203_69 : cod 203 69 = some (.lload_n 3, 1) := cod_of b203 dX8_years_69
theorem t203_69 {d : Nat} {h : Hp} {Q : Pst} {l0 l1 l2 l4 l5 l6 l7 : Value} {x : Int64} {st : List Value} : T d 203 69 [l0, l1, l2, .long x, l4, l5, l6, l7] st h Q ↔ T d 203 70 [l0, l1, l2, .long x, l4, l5, l6, l7] (.long x :: st) h Q := T_lload_n c203_69 rfl
theorem c203_70 : cod 203 70 = some (.ldc2_w 226, 3) := cod_of b203 dX8_years_70
theorem t203_70 {d : Nat} {h : Hp} {Q : Pst} {ls : List Value} {st : List Value} : T d 203 70 ls st h Q ↔ T d 203 73 ls (.long 1048576 :: st) h Q := T_ldc2_wR m203 c203_70 (by decide +kernel)
theorem c203_73 : cod 203 73 = some (.ldiv, 1) := cod_of b203 dX8_years_73
theorem t203_73 {d : Nat} {h : Hp} {Q : Pst} {x y : Int64} {ls : List Value} {st : List Value} : T d 203 73 ls (.long y :: .long x :: st) h Q ↔ (¬ y = 0 ∧ T d 203 74 ls (.long (x / y) :: st) h Q) := T_ldiv c203_73
theorem c203_74 : cod 203 74 = some (.ldc2_w 228, 3) := cod_of b203 dX8_years_74
theorem t203_74 {d : Nat} {h : Hp} {Q : Pst} {ls : List Value} {st : List Value} : T d 203 74 ls st h Q ↔ T d 203 77 ls (.long 4 :: st) h Q := T_ldc2_wR m203 c203_74 (by decide +kernel)
theorem c203_77 : cod 203 77 = some (.lrem, 1) := cod_of b203 dX8_years_77
theorem t203_77 {d : Nat} {h : Hp} {Q : Pst} {x y : Int64} {ls : List Value} {st : List Value} : T d 203 77 ls (.long y :: .long x :: st) h Q ↔ (¬ y = 0 ∧ T d 203 78 ls (.long (x - x / y * y) :: st) h Q) := T_lrem c203_77
theorem c203_78 : cod 203 78 = some (.l2i, 1) := cod_of b203 dX8_years_78
theorem t203_78 {d : Nat} {h : Hp} {Q : Pst} {x : Int64} {ls : List Value} {st : List Value} : T d 203 78 ls (.long x :: st) h Q ↔ T d 203 79 ls (.int x.toInt32 :: st) h Q := T_l2i c203_78
theorem c203_79 : cod 203 79 = some (.istore 7, 2) := cod_of b203 dX8_years_79
theorem t203_79 {d : Nat} {h : Hp} {Q : Pst} {l0 l1 l2 l3 l4 l5 l6 l7 : Value} {x : Int32} {st : List Value} : T d 203 79 [l0, l1, l2, l3, l4, l5, l6, l7] (.int x :: st) h Q ↔ T d 203 81 [l0, l1, l2, l3, l4, l5, kil l6, .int x] st h Q := T_istore c203_79 (Nat.le_of_ble_eq_true rfl)
theorem c203_81 : cod 203 81 = some (.aload_n 0, 1) := cod_of b203 dX8_years_81
theorem t203_81 {d : Nat} {h : Hp} {Q : Pst} {l1 l2 l3 l4 l5 l6 l7 : Value} {x : Nat} {st : List Value} : T d 203 81 [.ref x, l1, l2, l3, l4, l5, l6, l7] st h Q ↔ T d 203 82 [.ref x, l1, l2, l3, l4, l5, l6, l7] (.ref x :: st) h Q := T_aload_n c203_81 rfl
theorem c203_82 : cod 203 82 = some (.iload 6, 2) := cod_of b203 dX8_years_82
theorem t203_82 {d : Nat} {h : Hp} {Q : Pst} {l0 l1 l2 l3 l4 l5 l7 : Value} {x : Int32} {st : List Value} : T d 203 82 [l0, l1, l2, l3, l4, l5, .int x, l7] st h Q ↔ T d 203 84 [l0, l1, l2, l3, l4, l5, .int x, l7] (.int x :: st) h Q := T_iload c203_82 rfl
theorem c203_84 : cod 203 84 = some (.invokevirtual 157, 3) := cod_of b203 dX8_years_84
theorem t203_84 {d : Nat} {h : Hp} {Q : Pst} {a0 : Int32} {a : Nat} {ls : List Value} (ho : isO (h.2.2 a) 7) : T (d + 1) 203 84 ls [.int a0, .ref a] h Q ↔ T d 163 0 [.ref a, .int a0] [] h (fun x h2 => T (d + 1) 203 87 ls (rl x []) h2 Q) := T_virtualR (as := [.int a0]) (r := []) m203 m163 c203_84 k8_157  rfl (by decide) rfl (by simp [wrd, Value.category]) (by simp [stk, Value.category]) rfl (by decide +kernel) ho
theorem c203_87 : cod 203 87 = some (.ifCond .eq 29, 3) := cod_of b203 dX8_years_87
theorem t203_87 {d : Nat} {h : Hp} {Q : Pst} {x : Int32} {ls : List Value} {st : List Value} : T d 203 87 ls (.int x :: st) h Q ↔ (if x = 0 then T d 203 116 ls st h Q else T d 203 90 ls st h Q) := T_if_eq c203_87 (by decide)
theorem c203_90 : cod 203 90 = some (.aload_n 0, 1) := cod_of b203 dX8_years_90
theorem t203_90 {d : Nat} {h : Hp} {Q : Pst} {l1 l2 l3 l4 l5 l6 l7 : Value} {x : Nat} {st : List Value} : T d 203 90 [.ref x, l1, l2, l3, l4, l5, l6, l7] st h Q ↔ T d 203 91 [.ref x, l1, l2, l3, l4, l5, l6, l7] (.ref x :: st) h Q := T_aload_n c203_90 rfl
theorem c203_91 : cod 203 91 = some (.getfield 7, 3) := cod_of b203 dX8_years_91
theorem t203_91 {d : Nat} {h : Hp} {Q : Pst} {a : Nat} {ls : List Value} {st : List Value} : T d 203 91 ls (.ref a :: st) h Q ↔ gF (h.2.2 a) 7 0 (fun v => T d 203 94 ls (v :: st) h Q) := T_getfieldR m203 c203_91 f8_7
theorem c203_94 : cod 203 94 = some (.sipush 624, 3) := cod_of b203 dX8_years_94
theorem t203_94 {d : Nat} {h : Hp} {Q : Pst} {ls : List Value} {st : List Value} : T d 203 94 ls st h Q ↔ T d 203 97 ls (.int 624 :: st) h Q := T_sipushV c203_94 (by decide)
theorem c203_97 : cod 203 97 = some (.iload 6, 2) := cod_of b203 dX8_years_97
theorem t203_97 {d : Nat} {h : Hp} {Q : Pst} {l0 l1 l2 l3 l4 l5 l7 : Value} {x : Int32} {st : List Value} : T d 203 97 [l0, l1, l2, l3, l4, l5, .int x, l7] st h Q ↔ T d 203 99 [l0, l1, l2, l3, l4, l5, .int x, l7] (.int x :: st) h Q := T_iload c203_97 rfl
theorem c203_99 : cod 203 99 = some (.iadd, 1) := cod_of b203 dX8_years_99
theorem t203_99 {d : Nat} {h : Hp} {Q : Pst} {x y : Int32} {ls : List Value} {st : List Value} : T d 203 99 ls (.int y :: .int x :: st) h Q ↔ T d 203 100 ls (.int (x + y) :: st) h Q := T_iadd c203_99
theorem c203_100 : cod 203 100 = some (.aload_n 0, 1) := cod_of b203 dX8_years_100
theorem t203_100 {d : Nat} {h : Hp} {Q : Pst} {l1 l2 l3 l4 l5 l6 l7 : Value} {x : Nat} {st : List Value} : T d 203 100 [.ref x, l1, l2, l3, l4, l5, l6, l7] st h Q ↔ T d 203 101 [.ref x, l1, l2, l3, l4, l5, l6, l7] (.ref x :: st) h Q := T_aload_n c203_100 rfl
theorem c203_101 : cod 203 101 = some (.iload 7, 2) := cod_of b203 dX8_years_101
theorem t203_101 {d : Nat} {h : Hp} {Q : Pst} {l0 l1 l2 l3 l4 l5 l6 : Value} {x : Int32} {st : List Value} : T d 203 101 [l0, l1, l2, l3, l4, l5, l6, .int x] st h Q ↔ T d 203 103 [l0, l1, l2, l3, l4, l5, l6, .int x] (.int x :: st) h Q := T_iload c203_101 rfl
theorem c203_103 : cod 203 103 = some (.invokevirtual 160, 3) := cod_of b203 dX8_years_103
theorem t203_103 {d : Nat} {h : Hp} {Q : Pst} {a0 s0 : Int32} {s1 a : Nat} {ls : List Value} (ho : isO (h.2.2 a) 7) : T (d + 1) 203 103 ls [.int a0, .ref a, .int s0, .ref s1] h Q ↔ T d 164 0 [.ref a, .int a0] [] h (fun x h2 => T (d + 1) 203 106 ls (rl x [.int s0, .ref s1]) h2 Q) := T_virtualR (as := [.int a0]) (r := [.int s0, .ref s1]) m203 m164 c203_103 k8_160  rfl (by decide) rfl (by simp [wrd, Value.category]) (by simp [stk, Value.category]) rfl (by decide +kernel) ho
theorem c203_106 : cod 203 106 = some (.ifCond .eq 8, 3) := cod_of b203 dX8_years_106
theorem t203_106 {d : Nat} {h : Hp} {Q : Pst} {x : Int32} {ls : List Value} {st : List Value} : T d 203 106 ls (.int x :: st) h Q ↔ (if x = 0 then T d 203 114 ls st h Q else T d 203 109 ls st h Q) := T_if_eq c203_106 (by decide)
theorem c203_109 : cod 203 109 = some (.iload 7, 2) := cod_of b203 dX8_years_109
theorem t203_109 {d : Nat} {h : Hp} {Q : Pst} {l0 l1 l2 l3 l4 l5 l6 : Value} {x : Int32} {st : List Value} : T d 203 109 [l0, l1, l2, l3, l4, l5, l6, .int x] st h Q ↔ T d 203 111 [l0, l1, l2, l3, l4, l5, l6, .int x] (.int x :: st) h Q := T_iload c203_109 rfl
theorem c203_111 : cod 203 111 = some (.goto 4, 3) := cod_of b203 dX8_years_111
theorem t203_111 {d : Nat} {h : Hp} {Q : Pst} {ls : List Value} {st : List Value} : T d 203 111 ls st h Q ↔ T d 203 115 ls st h Q := T_goto c203_111 (by decide)
theorem c203_115 : cod 203 115 = some (.iastore, 1) := cod_of b203 dX8_years_115
theorem t203_115 {d : Nat} {h : Hp} {Q : Pst} {a : Nat} {i x : Int32} {ls : List Value} {st : List Value} : T d 203 115 ls (.int x :: .int i :: .ref a :: st) h Q ↔ aS (h.2.2 a) i x (fun cell => T d 203 116 ls st (hup h a cell) Q) := T_iastore c203_115
theorem c203_114 : cod 203 114 = some (.iconst (-1), 1) := cod_of b203 dX8_years_114
theorem t203_114 {d : Nat} {h : Hp} {Q : Pst} {ls : List Value} {st : List Value} : T d 203 114 ls st h Q ↔ T d 203 115 ls (.int (-1) :: st) h Q := T_iconstV c203_114 (by decide)
theorem c203_116 : cod 203 116 = some (.aload_n 0, 1) := cod_of b203 dX8_years_116
theorem t203_116 {d : Nat} {h : Hp} {Q : Pst} {l1 l2 l3 l4 l5 l6 l7 : Value} {x : Nat} {st : List Value} : T d 203 116 [.ref x, l1, l2, l3, l4, l5, l6, l7] st h Q ↔ T d 203 117 [.ref x, l1, l2, l3, l4, l5, l6, l7] (.ref x :: st) h Q := T_aload_n c203_116 rfl
theorem c203_117 : cod 203 117 = some (.sipush 624, 3) := cod_of b203 dX8_years_117
theorem t203_117 {d : Nat} {h : Hp} {Q : Pst} {ls : List Value} {st : List Value} : T d 203 117 ls st h Q ↔ T d 203 120 ls (.int 624 :: st) h Q := T_sipushV c203_117 (by decide)
theorem c203_120 : cod 203 120 = some (.invokevirtual 154, 3) := cod_of b203 dX8_years_120
theorem t203_120 {d : Nat} {h : Hp} {Q : Pst} {a0 : Int32} {a : Nat} {ls : List Value} (ho : isO (h.2.2 a) 7) : T (d + 1) 203 120 ls [.int a0, .ref a] h Q ↔ T d 159 0 [.ref a, .int a0, un, un] [] h (fun x h2 => T (d + 1) 203 123 ls (rl x []) h2 Q) := T_virtualR (as := [.int a0]) (r := []) m203 m159 c203_120 k8_154  rfl (by decide) rfl (by simp [wrd, Value.category]) (by simp [stk, Value.category]) rfl (by decide +kernel) ho
theorem c203_123 : cod 203 123 = some (.iinc 5 1, 3) := cod_of b203 dX8_years_123
theorem t203_123 {d : Nat} {h : Hp} {Q : Pst} {l0 l1 l2 l3 l4 l6 l7 : Value} {x : Int32} {st : List Value} : T d 203 123 [l0, l1, l2, l3, l4, .int x, l6, l7] st h Q ↔ T d 203 126 [l0, l1, l2, l3, kil l4, .int (x + 1), l6, l7] st h Q := T_iincV c203_123 rfl (Nat.le_of_ble_eq_true rfl) (by decide) rfl
theorem c203_126 : cod 203 126 = some (.goto (-89), 3) := cod_of b203 dX8_years_126
theorem t203_126 {d : Nat} {h : Hp} {Q : Pst} {ls : List Value} {st : List Value} : T d 203 126 ls st h Q ↔ T d 203 37 ls st h Q := T_goto c203_126 (by decide)
theorem c203_129 : cod 203 129 = some (.aload_n 0, 1) := cod_of b203 dX8_years_129
theorem t203_129 {d : Nat} {h : Hp} {Q : Pst} {l1 l2 l3 l4 l5 l6 l7 : Value} {x : Nat} {st : List Value} : T d 203 129 [.ref x, l1, l2, l3, l4, l5, l6, l7] st h Q ↔ T d 203 130 [.ref x, l1, l2, l3, l4, l5, l6, l7] (.ref x :: st) h Q := T_aload_n c203_129 rfl
theorem c203_130 : cod 203 130 = some (.sipush 624, 3) := cod_of b203 dX8_years_130
theorem t203_130 {d : Nat} {h : Hp} {Q : Pst} {ls : List Value} {st : List Value} : T d 203 130 ls st h Q ↔ T d 203 133 ls (.int 624 :: st) h Q := T_sipushV c203_130 (by decide)
theorem c203_133 : cod 203 133 = some (.invokevirtual 166, 3) := cod_of b203 dX8_years_133
theorem t203_133 {d : Nat} {h : Hp} {Q : Pst} {a0 : Int32} {a : Nat} {ls : List Value} (ho : isO (h.2.2 a) 7) : T (d + 1) 203 133 ls [.int a0, .ref a] h Q ↔ T d 161 0 [.ref a, .int a0, un, un] [] h (fun x h2 => T (d + 1) 203 136 ls (rl x []) h2 Q) := T_virtualR (as := [.int a0]) (r := []) m203 m161 c203_133 k8_166  rfl (by decide) rfl (by simp [wrd, Value.category]) (by simp [stk, Value.category]) rfl (by decide +kernel) ho
theorem c203_136 : cod 203 136 = some (.ireturn, 1) := cod_of b203 dX8_years_136
theorem t203_136 {d : Nat} {h : Hp} {Q : Pst} {x : Int32} {ls : List Value} : T d 203 136 ls [.int x] h Q ↔ Q (some (.int x)) h := T_iretR m203 c203_136 rfl
theorem c203_20 : cod 203 20 = some (.aload_n 0, 1) := cod_of b203 dX8_years_20
theorem t203_20 {d : Nat} {h : Hp} {Q : Pst} {l1 l2 l3 l4 l5 l6 l7 : Value} {x : Nat} {st : List Value} : T d 203 20 [.ref x, l1, l2, l3, l4, l5, l6, l7] st h Q ↔ T d 203 21 [.ref x, l1, l2, l3, l4, l5, l6, l7] (.ref x :: st) h Q := T_aload_n c203_20 rfl
theorem c203_21 : cod 203 21 = some (.bipush (-2), 2) := cod_of b203 dX8_years_21
theorem t203_21 {d : Nat} {h : Hp} {Q : Pst} {ls : List Value} {st : List Value} : T d 203 21 ls st h Q ↔ T d 203 23 ls (.int (-2) :: st) h Q := T_bipushV c203_21 (by decide)
theorem c203_23 : cod 203 23 = some (.invokevirtual 45, 3) := cod_of b203 dX8_years_23
theorem t203_23 {d : Nat} {h : Hp} {Q : Pst} {a0 : Int32} {a : Nat} {ls : List Value} (ho : isO (h.2.2 a) 7) : T (d + 1) 203 23 ls [.int a0, .ref a] h Q ↔ T d 129 0 [.ref a, .int a0] [] h (fun x h2 => T (d + 1) 203 26 ls (rl x []) h2 Q) := T_virtualR (as := [.int a0]) (r := []) m203 m129 c203_23 k8_45  rfl (by decide) rfl (by simp [wrd, Value.category]) (by simp [stk, Value.category]) rfl (by decide +kernel) ho
theorem c203_26 : cod 203 26 = some (.ireturn, 1) := cod_of b203 dX8_years_26
theorem t203_26 {d : Nat} {h : Hp} {Q : Pst} {x : Int32} {ls : List Value} : T d 203 26 ls [.int x] h Q ↔ Q (some (.int x)) h := T_iretR m203 c203_26 rfl
theorem b204 : (mR 204).2.2.1 = cX8_part := by rw [m204]
theorem c204_0 : cod 204 0 = some (.iload_n 1, 1) := cod_of b204 dX8_part_0
theorem t204_0 {d : Nat} {h : Hp} {Q : Pst} {l0 : Value} {x : Int32} {st : List Value} : T d 204 0 [l0, .int x] st h Q ↔ T d 204 1 [l0, .int x] (.int x :: st) h Q := T_iload_n c204_0 rfl
theorem c204_1 : cod 204 1 = some (.iconst 0, 1) := cod_of b204 dX8_part_1
theorem t204_1 {d : Nat} {h : Hp} {Q : Pst} {ls : List Value} {st : List Value} : T d 204 1 ls st h Q ↔ T d 204 2 ls (.int 0 :: st) h Q := T_iconstV c204_1 (by decide)
theorem c204_2 : cod 204 2 = some (.iconst 1, 1) := cod_of b204 dX8_part_2
theorem t204_2 {d : Nat} {h : Hp} {Q : Pst} {ls : List Value} {st : List Value} : T d 204 2 ls st h Q ↔ T d 204 3 ls (.int 1 :: st) h Q := T_iconstV c204_2 (by decide)
theorem c204_3 : cod 204 3 = some (.invokestatic 49, 3) := cod_of b204 dX8_part_3
theorem t204_3 {d : Nat} {h : Hp} {Q : Pst} {a0 a1 a2 : Int32} {ls : List Value} : T (d + 1) 204 3 ls [.int a2, .int a1, .int a0] h Q ↔ T d 126 0 [.int a0, .int a1, .int a2] [] h (fun x h2 => T (d + 1) 204 6 ls (rl x []) h2 Q) := T_staticR (as := [.int a0, .int a1, .int a2]) (r := []) m204 m126 c204_3 k8_49 (Or.inl rfl) rfl (by decide) rfl (by simp [wrd, Value.category]) (by simp [stk, Value.category]) rfl
theorem c204_6 : cod 204 6 = some (.ifCond .ne 11, 3) := cod_of b204 dX8_part_6
theorem t204_6 {d : Nat} {h : Hp} {Q : Pst} {x : Int32} {ls : List Value} {st : List Value} : T d 204 6 ls (.int x :: st) h Q ↔ (if ¬ x = 0 then T d 204 17 ls st h Q else T d 204 9 ls st h Q) := T_if_ne c204_6 (by decide)
theorem c204_9 : cod 204 9 = some (.aload_n 0, 1) := cod_of b204 dX8_part_9
theorem t204_9 {d : Nat} {h : Hp} {Q : Pst} {l1 : Value} {x : Nat} {st : List Value} : T d 204 9 [.ref x, l1] st h Q ↔ T d 204 10 [.ref x, l1] (.ref x :: st) h Q := T_aload_n c204_9 rfl
theorem c204_10 : cod 204 10 = some (.bipush (-2), 2) := cod_of b204 dX8_part_10
theorem t204_10 {d : Nat} {h : Hp} {Q : Pst} {ls : List Value} {st : List Value} : T d 204 10 ls st h Q ↔ T d 204 12 ls (.int (-2) :: st) h Q := T_bipushV c204_10 (by decide)
theorem c204_12 : cod 204 12 = some (.invokevirtual 45, 3) := cod_of b204 dX8_part_12
theorem t204_12 {d : Nat} {h : Hp} {Q : Pst} {a0 : Int32} {a : Nat} {ls : List Value} (ho : isO (h.2.2 a) 7) : T (d + 1) 204 12 ls [.int a0, .ref a] h Q ↔ T d 129 0 [.ref a, .int a0] [] h (fun x h2 => T (d + 1) 204 15 ls (rl x []) h2 Q) := T_virtualR (as := [.int a0]) (r := []) m204 m129 c204_12 k8_45  rfl (by decide) rfl (by simp [wrd, Value.category]) (by simp [stk, Value.category]) rfl (by decide +kernel) ho
theorem c204_15 : cod 204 15 = some (.i2l, 1) := cod_of b204 dX8_part_15
theorem t204_15 {d : Nat} {h : Hp} {Q : Pst} {x : Int32} {ls : List Value} {st : List Value} : T d 204 15 ls (.int x :: st) h Q ↔ T d 204 16 ls (.long x.toInt64 :: st) h Q := T_i2l c204_15
theorem c204_16 : cod 204 16 = some (.lreturn, 1) := cod_of b204 dX8_part_16
theorem t204_16 {d : Nat} {h : Hp} {Q : Pst} {x : Int64} {ls : List Value} : T d 204 16 ls [.long x] h Q ↔ Q (some (.long x)) h := T_lretR m204 c204_16 rfl
theorem c204_17 : cod 204 17 = some (.iload_n 1, 1) := cod_of b204 dX8_part_17
theorem t204_17 {d : Nat} {h : Hp} {Q : Pst} {l0 : Value} {x : Int32} {st : List Value} : T d 204 17 [l0, .int x] st h Q ↔ T d 204 18 [l0, .int x] (.int x :: st) h Q := T_iload_n c204_17 rfl
theorem c204_18 : cod 204 18 = some (.ifCond .ne 10, 3) := cod_of b204 dX8_part_18
theorem t204_18 {d : Nat} {h : Hp} {Q : Pst} {x : Int32} {ls : List Value} {st : List Value} : T d 204 18 ls (.int x :: st) h Q ↔ (if ¬ x = 0 then T d 204 28 ls st h Q else T d 204 21 ls st h Q) := T_if_ne c204_18 (by decide)
theorem c204_21 : cod 204 21 = some (.aload_n 0, 1) := cod_of b204 dX8_part_21
theorem t204_21 {d : Nat} {h : Hp} {Q : Pst} {l1 : Value} {x : Nat} {st : List Value} : T d 204 21 [.ref x, l1] st h Q ↔ T d 204 22 [.ref x, l1] (.ref x :: st) h Q := T_aload_n c204_21 rfl
theorem c204_22 : cod 204 22 = some (.getfield 206, 3) := cod_of b204 dX8_part_22
theorem t204_22 {d : Nat} {h : Hp} {Q : Pst} {a : Nat} {ls : List Value} {st : List Value} : T d 204 22 ls (.ref a :: st) h Q ↔ gF (h.2.2 a) 7 3 (fun v => T d 204 25 ls (v :: st) h Q) := T_getfieldR m204 c204_22 f8_206
theorem c204_25 : cod 204 25 = some (.goto 7, 3) := cod_of b204 dX8_part_25
theorem t204_25 {d : Nat} {h : Hp} {Q : Pst} {ls : List Value} {st : List Value} : T d 204 25 ls st h Q ↔ T d 204 32 ls st h Q := T_goto c204_25 (by decide)
theorem c204_32 : cod 204 32 = some (.lreturn, 1) := cod_of b204 dX8_part_32
theorem t204_32 {d : Nat} {h : Hp} {Q : Pst} {x : Int64} {ls : List Value} : T d 204 32 ls [.long x] h Q ↔ Q (some (.long x)) h := T_lretR m204 c204_32 rfl
theorem c204_28 : cod 204 28 = some (.aload_n 0, 1) := cod_of b204 dX8_part_28
theorem t204_28 {d : Nat} {h : Hp} {Q : Pst} {l1 : Value} {x : Nat} {st : List Value} : T d 204 28 [.ref x, l1] st h Q ↔ T d 204 29 [.ref x, l1] (.ref x :: st) h Q := T_aload_n c204_28 rfl
theorem c204_29 : cod 204 29 = some (.getfield 20, 3) := cod_of b204 dX8_part_29
theorem t204_29 {d : Nat} {h : Hp} {Q : Pst} {a : Nat} {ls : List Value} {st : List Value} : T d 204 29 ls (.ref a :: st) h Q ↔ gF (h.2.2 a) 7 4 (fun v => T d 204 32 ls (v :: st) h Q) := T_getfieldR m204 c204_29 f8_20
theorem b205 : (mR 205).2.2.1 = cX8_image := by rw [m205]
theorem c205_0 : cod 205 0 = some (.iload_n 1, 1) := cod_of b205 dX8_image_0
theorem t205_0 {d : Nat} {h : Hp} {Q : Pst} {l0 l2 : Value} {x : Int32} {st : List Value} : T d 205 0 [l0, .int x, l2] st h Q ↔ T d 205 1 [l0, .int x, l2] (.int x :: st) h Q := T_iload_n c205_0 rfl
theorem c205_1 : cod 205 1 = some (.iconst 0, 1) := cod_of b205 dX8_image_1
theorem t205_1 {d : Nat} {h : Hp} {Q : Pst} {ls : List Value} {st : List Value} : T d 205 1 ls st h Q ↔ T d 205 2 ls (.int 0 :: st) h Q := T_iconstV c205_1 (by decide)
theorem c205_2 : cod 205 2 = some (.iconst 1, 1) := cod_of b205 dX8_image_2
theorem t205_2 {d : Nat} {h : Hp} {Q : Pst} {ls : List Value} {st : List Value} : T d 205 2 ls st h Q ↔ T d 205 3 ls (.int 1 :: st) h Q := T_iconstV c205_2 (by decide)
theorem c205_3 : cod 205 3 = some (.invokestatic 49, 3) := cod_of b205 dX8_image_3
theorem t205_3 {d : Nat} {h : Hp} {Q : Pst} {a0 a1 a2 : Int32} {ls : List Value} : T (d + 1) 205 3 ls [.int a2, .int a1, .int a0] h Q ↔ T d 126 0 [.int a0, .int a1, .int a2] [] h (fun x h2 => T (d + 1) 205 6 ls (rl x []) h2 Q) := T_staticR (as := [.int a0, .int a1, .int a2]) (r := []) m205 m126 c205_3 k8_49 (Or.inl rfl) rfl (by decide) rfl (by simp [wrd, Value.category]) (by simp [stk, Value.category]) rfl
theorem c205_6 : cod 205 6 = some (.ifCond .ne 10, 3) := cod_of b205 dX8_image_6
theorem t205_6 {d : Nat} {h : Hp} {Q : Pst} {x : Int32} {ls : List Value} {st : List Value} : T d 205 6 ls (.int x :: st) h Q ↔ (if ¬ x = 0 then T d 205 16 ls st h Q else T d 205 9 ls st h Q) := T_if_ne c205_6 (by decide)
theorem c205_9 : cod 205 9 = some (.aload_n 0, 1) := cod_of b205 dX8_image_9
theorem t205_9 {d : Nat} {h : Hp} {Q : Pst} {l1 l2 : Value} {x : Nat} {st : List Value} : T d 205 9 [.ref x, l1, l2] st h Q ↔ T d 205 10 [.ref x, l1, l2] (.ref x :: st) h Q := T_aload_n c205_9 rfl
theorem c205_10 : cod 205 10 = some (.bipush (-2), 2) := cod_of b205 dX8_image_10
theorem t205_10 {d : Nat} {h : Hp} {Q : Pst} {ls : List Value} {st : List Value} : T d 205 10 ls st h Q ↔ T d 205 12 ls (.int (-2) :: st) h Q := T_bipushV c205_10 (by decide)
theorem c205_12 : cod 205 12 = some (.invokevirtual 45, 3) := cod_of b205 dX8_image_12
theorem t205_12 {d : Nat} {h : Hp} {Q : Pst} {a0 : Int32} {a : Nat} {ls : List Value} (ho : isO (h.2.2 a) 7) : T (d + 1) 205 12 ls [.int a0, .ref a] h Q ↔ T d 129 0 [.ref a, .int a0] [] h (fun x h2 => T (d + 1) 205 15 ls (rl x []) h2 Q) := T_virtualR (as := [.int a0]) (r := []) m205 m129 c205_12 k8_45  rfl (by decide) rfl (by simp [wrd, Value.category]) (by simp [stk, Value.category]) rfl (by decide +kernel) ho
theorem c205_15 : cod 205 15 = some (.ireturn, 1) := cod_of b205 dX8_image_15
theorem t205_15 {d : Nat} {h : Hp} {Q : Pst} {x : Int32} {ls : List Value} : T d 205 15 ls [.int x] h Q ↔ Q (some (.int x)) h := T_iretR m205 c205_15 rfl
theorem c205_16 : cod 205 16 = some (.iconst 0, 1) := cod_of b205 dX8_image_16
theorem t205_16 {d : Nat} {h : Hp} {Q : Pst} {ls : List Value} {st : List Value} : T d 205 16 ls st h Q ↔ T d 205 17 ls (.int 0 :: st) h Q := T_iconstV c205_16 (by decide)
theorem c205_17 : cod 205 17 = some (.istore_n 2, 1) := cod_of b205 dX8_image_17
theorem t205_17 {d : Nat} {h : Hp} {Q : Pst} {l0 l1 l2 : Value} {x : Int32} {st : List Value} : T d 205 17 [l0, l1, l2] (.int x :: st) h Q ↔ T d 205 18 [l0, kil l1, .int x] st h Q := T_istore_n c205_17 (Nat.le_of_ble_eq_true rfl)
theorem c205_18 : cod 205 18 = some (.iload_n 2, 1) := cod_of b205 dX8_image_18
theorem t205_18 {d : Nat} {h : Hp} {Q : Pst} {l0 l1 : Value} {x : Int32} {st : List Value} : T d 205 18 [l0, l1, .int x] st h Q ↔ T d 205 19 [l0, l1, .int x] (.int x :: st) h Q := T_iload_n c205_18 rfl
theorem c205_19 : cod 205 19 = some (.sipush 208, 3) := cod_of b205 dX8_image_19
theorem t205_19 {d : Nat} {h : Hp} {Q : Pst} {ls : List Value} {st : List Value} : T d 205 19 ls st h Q ↔ T d 205 22 ls (.int 208 :: st) h Q := T_sipushV c205_19 (by decide)
theorem c205_22 : cod 205 22 = some (.if_icmp .ge 31, 3) := cod_of b205 dX8_image_22
theorem t205_22 {d : Nat} {h : Hp} {Q : Pst} {x y : Int32} {ls : List Value} {st : List Value} : T d 205 22 ls (.int y :: .int x :: st) h Q ↔ (if y ≤ x then T d 205 53 ls st h Q else T d 205 25 ls st h Q) := T_icmp_ge c205_22 (by decide)
theorem c205_25 : cod 205 25 = some (.aload_n 0, 1) := cod_of b205 dX8_image_25
theorem t205_25 {d : Nat} {h : Hp} {Q : Pst} {l1 l2 : Value} {x : Nat} {st : List Value} : T d 205 25 [.ref x, l1, l2] st h Q ↔ T d 205 26 [.ref x, l1, l2] (.ref x :: st) h Q := T_aload_n c205_25 rfl
theorem c205_26 : cod 205 26 = some (.getfield 7, 3) := cod_of b205 dX8_image_26
theorem t205_26 {d : Nat} {h : Hp} {Q : Pst} {a : Nat} {ls : List Value} {st : List Value} : T d 205 26 ls (.ref a :: st) h Q ↔ gF (h.2.2 a) 7 0 (fun v => T d 205 29 ls (v :: st) h Q) := T_getfieldR m205 c205_26 f8_7
theorem c205_29 : cod 205 29 = some (.sipush 208, 3) := cod_of b205 dX8_image_29
theorem t205_29 {d : Nat} {h : Hp} {Q : Pst} {ls : List Value} {st : List Value} : T d 205 29 ls st h Q ↔ T d 205 32 ls (.int 208 :: st) h Q := T_sipushV c205_29 (by decide)
theorem c205_32 : cod 205 32 = some (.sipush 208, 3) := cod_of b205 dX8_image_32
theorem t205_32 {d : Nat} {h : Hp} {Q : Pst} {ls : List Value} {st : List Value} : T d 205 32 ls st h Q ↔ T d 205 35 ls (.int 208 :: st) h Q := T_sipushV c205_32 (by decide)
theorem c205_35 : cod 205 35 = some (.iload_n 1, 1) := cod_of b205 dX8_image_35
theorem t205_35 {d : Nat} {h : Hp} {Q : Pst} {l0 l2 : Value} {x : Int32} {st : List Value} : T d 205 35 [l0, .int x, l2] st h Q ↔ T d 205 36 [l0, .int x, l2] (.int x :: st) h Q := T_iload_n c205_35 rfl
theorem c205_36 : cod 205 36 = some (.imul, 1) := cod_of b205 dX8_image_36
theorem t205_36 {d : Nat} {h : Hp} {Q : Pst} {x y : Int32} {ls : List Value} {st : List Value} : T d 205 36 ls (.int y :: .int x :: st) h Q ↔ T d 205 37 ls (.int (x * y) :: st) h Q := T_imul c205_36
theorem c205_37 : cod 205 37 = some (.iadd, 1) := cod_of b205 dX8_image_37
theorem t205_37 {d : Nat} {h : Hp} {Q : Pst} {x y : Int32} {ls : List Value} {st : List Value} : T d 205 37 ls (.int y :: .int x :: st) h Q ↔ T d 205 38 ls (.int (x + y) :: st) h Q := T_iadd c205_37
theorem c205_38 : cod 205 38 = some (.iload_n 2, 1) := cod_of b205 dX8_image_38
theorem t205_38 {d : Nat} {h : Hp} {Q : Pst} {l0 l1 : Value} {x : Int32} {st : List Value} : T d 205 38 [l0, l1, .int x] st h Q ↔ T d 205 39 [l0, l1, .int x] (.int x :: st) h Q := T_iload_n c205_38 rfl
theorem c205_39 : cod 205 39 = some (.iadd, 1) := cod_of b205 dX8_image_39
theorem t205_39 {d : Nat} {h : Hp} {Q : Pst} {x y : Int32} {ls : List Value} {st : List Value} : T d 205 39 ls (.int y :: .int x :: st) h Q ↔ T d 205 40 ls (.int (x + y) :: st) h Q := T_iadd c205_39
theorem c205_40 : cod 205 40 = some (.aload_n 0, 1) := cod_of b205 dX8_image_40
theorem t205_40 {d : Nat} {h : Hp} {Q : Pst} {l1 l2 : Value} {x : Nat} {st : List Value} : T d 205 40 [.ref x, l1, l2] st h Q ↔ T d 205 41 [.ref x, l1, l2] (.ref x :: st) h Q := T_aload_n c205_40 rfl
theorem c205_41 : cod 205 41 = some (.getfield 7, 3) := cod_of b205 dX8_image_41
theorem t205_41 {d : Nat} {h : Hp} {Q : Pst} {a : Nat} {ls : List Value} {st : List Value} : T d 205 41 ls (.ref a :: st) h Q ↔ gF (h.2.2 a) 7 0 (fun v => T d 205 44 ls (v :: st) h Q) := T_getfieldR m205 c205_41 f8_7
theorem c205_44 : cod 205 44 = some (.iload_n 2, 1) := cod_of b205 dX8_image_44
theorem t205_44 {d : Nat} {h : Hp} {Q : Pst} {l0 l1 : Value} {x : Int32} {st : List Value} : T d 205 44 [l0, l1, .int x] st h Q ↔ T d 205 45 [l0, l1, .int x] (.int x :: st) h Q := T_iload_n c205_44 rfl
theorem c205_45 : cod 205 45 = some (.iaload, 1) := cod_of b205 dX8_image_45
theorem t205_45 {d : Nat} {h : Hp} {Q : Pst} {a : Nat} {i : Int32} {ls : List Value} {st : List Value} : T d 205 45 ls (.int i :: .ref a :: st) h Q ↔ aL (h.2.2 a) i (fun x => T d 205 46 ls (.int x :: st) h Q) := T_iaload c205_45
theorem c205_46 : cod 205 46 = some (.iastore, 1) := cod_of b205 dX8_image_46
theorem t205_46 {d : Nat} {h : Hp} {Q : Pst} {a : Nat} {i x : Int32} {ls : List Value} {st : List Value} : T d 205 46 ls (.int x :: .int i :: .ref a :: st) h Q ↔ aS (h.2.2 a) i x (fun cell => T d 205 47 ls st (hup h a cell) Q) := T_iastore c205_46
theorem c205_47 : cod 205 47 = some (.iinc 2 1, 3) := cod_of b205 dX8_image_47
theorem t205_47 {d : Nat} {h : Hp} {Q : Pst} {l0 l1 : Value} {x : Int32} {st : List Value} : T d 205 47 [l0, l1, .int x] st h Q ↔ T d 205 50 [l0, kil l1, .int (x + 1)] st h Q := T_iincV c205_47 rfl (Nat.le_of_ble_eq_true rfl) (by decide) rfl
theorem c205_50 : cod 205 50 = some (.goto (-32), 3) := cod_of b205 dX8_image_50
theorem t205_50 {d : Nat} {h : Hp} {Q : Pst} {ls : List Value} {st : List Value} : T d 205 50 ls st h Q ↔ T d 205 18 ls st h Q := T_goto c205_50 (by decide)
theorem c205_53 : cod 205 53 = some (.aload_n 0, 1) := cod_of b205 dX8_image_53
theorem t205_53 {d : Nat} {h : Hp} {Q : Pst} {l1 l2 : Value} {x : Nat} {st : List Value} : T d 205 53 [.ref x, l1, l2] st h Q ↔ T d 205 54 [.ref x, l1, l2] (.ref x :: st) h Q := T_aload_n c205_53 rfl
theorem c205_54 : cod 205 54 = some (.getfield 13, 3) := cod_of b205 dX8_image_54
theorem t205_54 {d : Nat} {h : Hp} {Q : Pst} {a : Nat} {ls : List Value} {st : List Value} : T d 205 54 ls (.ref a :: st) h Q ↔ gF (h.2.2 a) 7 1 (fun v => T d 205 57 ls (v :: st) h Q) := T_getfieldR m205 c205_54 f8_13
theorem c205_57 : cod 205 57 = some (.iload_n 1, 1) := cod_of b205 dX8_image_57
theorem t205_57 {d : Nat} {h : Hp} {Q : Pst} {l0 l2 : Value} {x : Int32} {st : List Value} : T d 205 57 [l0, .int x, l2] st h Q ↔ T d 205 58 [l0, .int x, l2] (.int x :: st) h Q := T_iload_n c205_57 rfl
theorem c205_58 : cod 205 58 = some (.iconst 1, 1) := cod_of b205 dX8_image_58
theorem t205_58 {d : Nat} {h : Hp} {Q : Pst} {ls : List Value} {st : List Value} : T d 205 58 ls st h Q ↔ T d 205 59 ls (.int 1 :: st) h Q := T_iconstV c205_58 (by decide)
theorem c205_59 : cod 205 59 = some (.bastore, 1) := cod_of b205 dX8_image_59
theorem t205_59 {d : Nat} {h : Hp} {Q : Pst} {a : Nat} {i x : Int32} {ls : List Value} {st : List Value} : T d 205 59 ls (.int x :: .int i :: .ref a :: st) h Q ↔ bS (h.2.2 a) i x (fun cell => T d 205 60 ls st (hup h a cell) Q) := T_bastore c205_59
theorem c205_60 : cod 205 60 = some (.iconst 1, 1) := cod_of b205 dX8_image_60
theorem t205_60 {d : Nat} {h : Hp} {Q : Pst} {ls : List Value} {st : List Value} : T d 205 60 ls st h Q ↔ T d 205 61 ls (.int 1 :: st) h Q := T_iconstV c205_60 (by decide)
theorem c205_61 : cod 205 61 = some (.ireturn, 1) := cod_of b205 dX8_image_61
theorem t205_61 {d : Nat} {h : Hp} {Q : Pst} {x : Int32} {ls : List Value} : T d 205 61 ls [.int x] h Q ↔ Q (some (.int x)) h := T_iretR m205 c205_61 rfl
theorem b206 : (mR 206).2.2.1 = cX8_from := by rw [m206]
theorem c206_0 : cod 206 0 = some (.iload_n 1, 1) := cod_of b206 dX8_from_0
theorem t206_0 {d : Nat} {h : Hp} {Q : Pst} {l0 l2 : Value} {x : Int32} {st : List Value} : T d 206 0 [l0, .int x, l2] st h Q ↔ T d 206 1 [l0, .int x, l2] (.int x :: st) h Q := T_iload_n c206_0 rfl
theorem c206_1 : cod 206 1 = some (.iconst 0, 1) := cod_of b206 dX8_from_1
theorem t206_1 {d : Nat} {h : Hp} {Q : Pst} {ls : List Value} {st : List Value} : T d 206 1 ls st h Q ↔ T d 206 2 ls (.int 0 :: st) h Q := T_iconstV c206_1 (by decide)
theorem c206_2 : cod 206 2 = some (.iconst 1, 1) := cod_of b206 dX8_from_2
theorem t206_2 {d : Nat} {h : Hp} {Q : Pst} {ls : List Value} {st : List Value} : T d 206 2 ls st h Q ↔ T d 206 3 ls (.int 1 :: st) h Q := T_iconstV c206_2 (by decide)
theorem c206_3 : cod 206 3 = some (.invokestatic 49, 3) := cod_of b206 dX8_from_3
theorem t206_3 {d : Nat} {h : Hp} {Q : Pst} {a0 a1 a2 : Int32} {ls : List Value} : T (d + 1) 206 3 ls [.int a2, .int a1, .int a0] h Q ↔ T d 126 0 [.int a0, .int a1, .int a2] [] h (fun x h2 => T (d + 1) 206 6 ls (rl x []) h2 Q) := T_staticR (as := [.int a0, .int a1, .int a2]) (r := []) m206 m126 c206_3 k8_49 (Or.inl rfl) rfl (by decide) rfl (by simp [wrd, Value.category]) (by simp [stk, Value.category]) rfl
theorem c206_6 : cod 206 6 = some (.ifCond .ne 10, 3) := cod_of b206 dX8_from_6
theorem t206_6 {d : Nat} {h : Hp} {Q : Pst} {x : Int32} {ls : List Value} {st : List Value} : T d 206 6 ls (.int x :: st) h Q ↔ (if ¬ x = 0 then T d 206 16 ls st h Q else T d 206 9 ls st h Q) := T_if_ne c206_6 (by decide)
theorem c206_9 : cod 206 9 = some (.aload_n 0, 1) := cod_of b206 dX8_from_9
theorem t206_9 {d : Nat} {h : Hp} {Q : Pst} {l1 l2 : Value} {x : Nat} {st : List Value} : T d 206 9 [.ref x, l1, l2] st h Q ↔ T d 206 10 [.ref x, l1, l2] (.ref x :: st) h Q := T_aload_n c206_9 rfl
theorem c206_10 : cod 206 10 = some (.bipush (-2), 2) := cod_of b206 dX8_from_10
theorem t206_10 {d : Nat} {h : Hp} {Q : Pst} {ls : List Value} {st : List Value} : T d 206 10 ls st h Q ↔ T d 206 12 ls (.int (-2) :: st) h Q := T_bipushV c206_10 (by decide)
theorem c206_12 : cod 206 12 = some (.invokevirtual 45, 3) := cod_of b206 dX8_from_12
theorem t206_12 {d : Nat} {h : Hp} {Q : Pst} {a0 : Int32} {a : Nat} {ls : List Value} (ho : isO (h.2.2 a) 7) : T (d + 1) 206 12 ls [.int a0, .ref a] h Q ↔ T d 129 0 [.ref a, .int a0] [] h (fun x h2 => T (d + 1) 206 15 ls (rl x []) h2 Q) := T_virtualR (as := [.int a0]) (r := []) m206 m129 c206_12 k8_45  rfl (by decide) rfl (by simp [wrd, Value.category]) (by simp [stk, Value.category]) rfl (by decide +kernel) ho
theorem c206_15 : cod 206 15 = some (.ireturn, 1) := cod_of b206 dX8_from_15
theorem t206_15 {d : Nat} {h : Hp} {Q : Pst} {x : Int32} {ls : List Value} : T d 206 15 ls [.int x] h Q ↔ Q (some (.int x)) h := T_iretR m206 c206_15 rfl
theorem c206_16 : cod 206 16 = some (.aload_n 0, 1) := cod_of b206 dX8_from_16
theorem t206_16 {d : Nat} {h : Hp} {Q : Pst} {l1 l2 : Value} {x : Nat} {st : List Value} : T d 206 16 [.ref x, l1, l2] st h Q ↔ T d 206 17 [.ref x, l1, l2] (.ref x :: st) h Q := T_aload_n c206_16 rfl
theorem c206_17 : cod 206 17 = some (.getfield 13, 3) := cod_of b206 dX8_from_17
theorem t206_17 {d : Nat} {h : Hp} {Q : Pst} {a : Nat} {ls : List Value} {st : List Value} : T d 206 17 ls (.ref a :: st) h Q ↔ gF (h.2.2 a) 7 1 (fun v => T d 206 20 ls (v :: st) h Q) := T_getfieldR m206 c206_17 f8_13
theorem c206_20 : cod 206 20 = some (.iload_n 1, 1) := cod_of b206 dX8_from_20
theorem t206_20 {d : Nat} {h : Hp} {Q : Pst} {l0 l2 : Value} {x : Int32} {st : List Value} : T d 206 20 [l0, .int x, l2] st h Q ↔ T d 206 21 [l0, .int x, l2] (.int x :: st) h Q := T_iload_n c206_20 rfl
theorem c206_21 : cod 206 21 = some (.baload, 1) := cod_of b206 dX8_from_21
theorem t206_21 {d : Nat} {h : Hp} {Q : Pst} {a : Nat} {i : Int32} {ls : List Value} {st : List Value} : T d 206 21 ls (.int i :: .ref a :: st) h Q ↔ bL (h.2.2 a) i (fun x => T d 206 22 ls (.int x :: st) h Q) := T_baload c206_21
theorem c206_22 : cod 206 22 = some (.ifCond .ne 10, 3) := cod_of b206 dX8_from_22
theorem t206_22 {d : Nat} {h : Hp} {Q : Pst} {x : Int32} {ls : List Value} {st : List Value} : T d 206 22 ls (.int x :: st) h Q ↔ (if ¬ x = 0 then T d 206 32 ls st h Q else T d 206 25 ls st h Q) := T_if_ne c206_22 (by decide)
theorem c206_25 : cod 206 25 = some (.aload_n 0, 1) := cod_of b206 dX8_from_25
theorem t206_25 {d : Nat} {h : Hp} {Q : Pst} {l1 l2 : Value} {x : Nat} {st : List Value} : T d 206 25 [.ref x, l1, l2] st h Q ↔ T d 206 26 [.ref x, l1, l2] (.ref x :: st) h Q := T_aload_n c206_25 rfl
theorem c206_26 : cod 206 26 = some (.bipush (-3), 2) := cod_of b206 dX8_from_26
theorem t206_26 {d : Nat} {h : Hp} {Q : Pst} {ls : List Value} {st : List Value} : T d 206 26 ls st h Q ↔ T d 206 28 ls (.int (-3) :: st) h Q := T_bipushV c206_26 (by decide)
theorem c206_28 : cod 206 28 = some (.invokevirtual 45, 3) := cod_of b206 dX8_from_28
theorem t206_28 {d : Nat} {h : Hp} {Q : Pst} {a0 : Int32} {a : Nat} {ls : List Value} (ho : isO (h.2.2 a) 7) : T (d + 1) 206 28 ls [.int a0, .ref a] h Q ↔ T d 129 0 [.ref a, .int a0] [] h (fun x h2 => T (d + 1) 206 31 ls (rl x []) h2 Q) := T_virtualR (as := [.int a0]) (r := []) m206 m129 c206_28 k8_45  rfl (by decide) rfl (by simp [wrd, Value.category]) (by simp [stk, Value.category]) rfl (by decide +kernel) ho
theorem c206_31 : cod 206 31 = some (.ireturn, 1) := cod_of b206 dX8_from_31
theorem t206_31 {d : Nat} {h : Hp} {Q : Pst} {x : Int32} {ls : List Value} : T d 206 31 ls [.int x] h Q ↔ Q (some (.int x)) h := T_iretR m206 c206_31 rfl
theorem c206_32 : cod 206 32 = some (.iconst 0, 1) := cod_of b206 dX8_from_32
theorem t206_32 {d : Nat} {h : Hp} {Q : Pst} {ls : List Value} {st : List Value} : T d 206 32 ls st h Q ↔ T d 206 33 ls (.int 0 :: st) h Q := T_iconstV c206_32 (by decide)
theorem c206_33 : cod 206 33 = some (.istore_n 2, 1) := cod_of b206 dX8_from_33
theorem t206_33 {d : Nat} {h : Hp} {Q : Pst} {l0 l1 l2 : Value} {x : Int32} {st : List Value} : T d 206 33 [l0, l1, l2] (.int x :: st) h Q ↔ T d 206 34 [l0, kil l1, .int x] st h Q := T_istore_n c206_33 (Nat.le_of_ble_eq_true rfl)
theorem c206_34 : cod 206 34 = some (.iload_n 2, 1) := cod_of b206 dX8_from_34
theorem t206_34 {d : Nat} {h : Hp} {Q : Pst} {l0 l1 : Value} {x : Int32} {st : List Value} : T d 206 34 [l0, l1, .int x] st h Q ↔ T d 206 35 [l0, l1, .int x] (.int x :: st) h Q := T_iload_n c206_34 rfl
theorem c206_35 : cod 206 35 = some (.sipush 208, 3) := cod_of b206 dX8_from_35
theorem t206_35 {d : Nat} {h : Hp} {Q : Pst} {ls : List Value} {st : List Value} : T d 206 35 ls st h Q ↔ T d 206 38 ls (.int 208 :: st) h Q := T_sipushV c206_35 (by decide)
theorem c206_38 : cod 206 38 = some (.if_icmp .ge 31, 3) := cod_of b206 dX8_from_38
theorem t206_38 {d : Nat} {h : Hp} {Q : Pst} {x y : Int32} {ls : List Value} {st : List Value} : T d 206 38 ls (.int y :: .int x :: st) h Q ↔ (if y ≤ x then T d 206 69 ls st h Q else T d 206 41 ls st h Q) := T_icmp_ge c206_38 (by decide)
theorem c206_41 : cod 206 41 = some (.aload_n 0, 1) := cod_of b206 dX8_from_41
theorem t206_41 {d : Nat} {h : Hp} {Q : Pst} {l1 l2 : Value} {x : Nat} {st : List Value} : T d 206 41 [.ref x, l1, l2] st h Q ↔ T d 206 42 [.ref x, l1, l2] (.ref x :: st) h Q := T_aload_n c206_41 rfl
theorem c206_42 : cod 206 42 = some (.getfield 7, 3) := cod_of b206 dX8_from_42
theorem t206_42 {d : Nat} {h : Hp} {Q : Pst} {a : Nat} {ls : List Value} {st : List Value} : T d 206 42 ls (.ref a :: st) h Q ↔ gF (h.2.2 a) 7 0 (fun v => T d 206 45 ls (v :: st) h Q) := T_getfieldR m206 c206_42 f8_7
theorem c206_45 : cod 206 45 = some (.iload_n 2, 1) := cod_of b206 dX8_from_45
theorem t206_45 {d : Nat} {h : Hp} {Q : Pst} {l0 l1 : Value} {x : Int32} {st : List Value} : T d 206 45 [l0, l1, .int x] st h Q ↔ T d 206 46 [l0, l1, .int x] (.int x :: st) h Q := T_iload_n c206_45 rfl
theorem c206_46 : cod 206 46 = some (.aload_n 0, 1) := cod_of b206 dX8_from_46
theorem t206_46 {d : Nat} {h : Hp} {Q : Pst} {l1 l2 : Value} {x : Nat} {st : List Value} : T d 206 46 [.ref x, l1, l2] st h Q ↔ T d 206 47 [.ref x, l1, l2] (.ref x :: st) h Q := T_aload_n c206_46 rfl
theorem c206_47 : cod 206 47 = some (.getfield 7, 3) := cod_of b206 dX8_from_47
theorem t206_47 {d : Nat} {h : Hp} {Q : Pst} {a : Nat} {ls : List Value} {st : List Value} : T d 206 47 ls (.ref a :: st) h Q ↔ gF (h.2.2 a) 7 0 (fun v => T d 206 50 ls (v :: st) h Q) := T_getfieldR m206 c206_47 f8_7
theorem c206_50 : cod 206 50 = some (.sipush 208, 3) := cod_of b206 dX8_from_50
theorem t206_50 {d : Nat} {h : Hp} {Q : Pst} {ls : List Value} {st : List Value} : T d 206 50 ls st h Q ↔ T d 206 53 ls (.int 208 :: st) h Q := T_sipushV c206_50 (by decide)
theorem c206_53 : cod 206 53 = some (.sipush 208, 3) := cod_of b206 dX8_from_53
theorem t206_53 {d : Nat} {h : Hp} {Q : Pst} {ls : List Value} {st : List Value} : T d 206 53 ls st h Q ↔ T d 206 56 ls (.int 208 :: st) h Q := T_sipushV c206_53 (by decide)
theorem c206_56 : cod 206 56 = some (.iload_n 1, 1) := cod_of b206 dX8_from_56
theorem t206_56 {d : Nat} {h : Hp} {Q : Pst} {l0 l2 : Value} {x : Int32} {st : List Value} : T d 206 56 [l0, .int x, l2] st h Q ↔ T d 206 57 [l0, .int x, l2] (.int x :: st) h Q := T_iload_n c206_56 rfl
theorem c206_57 : cod 206 57 = some (.imul, 1) := cod_of b206 dX8_from_57
theorem t206_57 {d : Nat} {h : Hp} {Q : Pst} {x y : Int32} {ls : List Value} {st : List Value} : T d 206 57 ls (.int y :: .int x :: st) h Q ↔ T d 206 58 ls (.int (x * y) :: st) h Q := T_imul c206_57
theorem c206_58 : cod 206 58 = some (.iadd, 1) := cod_of b206 dX8_from_58
theorem t206_58 {d : Nat} {h : Hp} {Q : Pst} {x y : Int32} {ls : List Value} {st : List Value} : T d 206 58 ls (.int y :: .int x :: st) h Q ↔ T d 206 59 ls (.int (x + y) :: st) h Q := T_iadd c206_58
theorem c206_59 : cod 206 59 = some (.iload_n 2, 1) := cod_of b206 dX8_from_59
theorem t206_59 {d : Nat} {h : Hp} {Q : Pst} {l0 l1 : Value} {x : Int32} {st : List Value} : T d 206 59 [l0, l1, .int x] st h Q ↔ T d 206 60 [l0, l1, .int x] (.int x :: st) h Q := T_iload_n c206_59 rfl
theorem c206_60 : cod 206 60 = some (.iadd, 1) := cod_of b206 dX8_from_60
theorem t206_60 {d : Nat} {h : Hp} {Q : Pst} {x y : Int32} {ls : List Value} {st : List Value} : T d 206 60 ls (.int y :: .int x :: st) h Q ↔ T d 206 61 ls (.int (x + y) :: st) h Q := T_iadd c206_60
theorem c206_61 : cod 206 61 = some (.iaload, 1) := cod_of b206 dX8_from_61
theorem t206_61 {d : Nat} {h : Hp} {Q : Pst} {a : Nat} {i : Int32} {ls : List Value} {st : List Value} : T d 206 61 ls (.int i :: .ref a :: st) h Q ↔ aL (h.2.2 a) i (fun x => T d 206 62 ls (.int x :: st) h Q) := T_iaload c206_61
theorem c206_62 : cod 206 62 = some (.iastore, 1) := cod_of b206 dX8_from_62
theorem t206_62 {d : Nat} {h : Hp} {Q : Pst} {a : Nat} {i x : Int32} {ls : List Value} {st : List Value} : T d 206 62 ls (.int x :: .int i :: .ref a :: st) h Q ↔ aS (h.2.2 a) i x (fun cell => T d 206 63 ls st (hup h a cell) Q) := T_iastore c206_62
theorem c206_63 : cod 206 63 = some (.iinc 2 1, 3) := cod_of b206 dX8_from_63
theorem t206_63 {d : Nat} {h : Hp} {Q : Pst} {l0 l1 : Value} {x : Int32} {st : List Value} : T d 206 63 [l0, l1, .int x] st h Q ↔ T d 206 66 [l0, kil l1, .int (x + 1)] st h Q := T_iincV c206_63 rfl (Nat.le_of_ble_eq_true rfl) (by decide) rfl
theorem c206_66 : cod 206 66 = some (.goto (-32), 3) := cod_of b206 dX8_from_66
theorem t206_66 {d : Nat} {h : Hp} {Q : Pst} {ls : List Value} {st : List Value} : T d 206 66 ls st h Q ↔ T d 206 34 ls st h Q := T_goto c206_66 (by decide)
theorem c206_69 : cod 206 69 = some (.iconst 1, 1) := cod_of b206 dX8_from_69
theorem t206_69 {d : Nat} {h : Hp} {Q : Pst} {ls : List Value} {st : List Value} : T d 206 69 ls st h Q ↔ T d 206 70 ls (.int 1 :: st) h Q := T_iconstV c206_69 (by decide)
theorem c206_70 : cod 206 70 = some (.ireturn, 1) := cod_of b206 dX8_from_70
theorem t206_70 {d : Nat} {h : Hp} {Q : Pst} {x : Int32} {ls : List Value} : T d 206 70 ls [.int x] h Q ↔ Q (some (.int x)) h := T_iretR m206 c206_70 rfl
theorem b207 : (mR 207).2.2.1 = cX8_status := by rw [m207]
theorem c207_0 : cod 207 0 = some (.iload_n 1, 1) := cod_of b207 dX8_status_0
theorem t207_0 {d : Nat} {h : Hp} {Q : Pst} {l0 : Value} {x : Int32} {st : List Value} : T d 207 0 [l0, .int x] st h Q ↔ T d 207 1 [l0, .int x] (.int x :: st) h Q := T_iload_n c207_0 rfl
theorem c207_1 : cod 207 1 = some (.iconst 0, 1) := cod_of b207 dX8_status_1
theorem t207_1 {d : Nat} {h : Hp} {Q : Pst} {ls : List Value} {st : List Value} : T d 207 1 ls st h Q ↔ T d 207 2 ls (.int 0 :: st) h Q := T_iconstV c207_1 (by decide)
theorem c207_2 : cod 207 2 = some (.iconst 2, 1) := cod_of b207 dX8_status_2
theorem t207_2 {d : Nat} {h : Hp} {Q : Pst} {ls : List Value} {st : List Value} : T d 207 2 ls st h Q ↔ T d 207 3 ls (.int 2 :: st) h Q := T_iconstV c207_2 (by decide)
theorem c207_3 : cod 207 3 = some (.invokestatic 49, 3) := cod_of b207 dX8_status_3
theorem t207_3 {d : Nat} {h : Hp} {Q : Pst} {a0 a1 a2 : Int32} {ls : List Value} : T (d + 1) 207 3 ls [.int a2, .int a1, .int a0] h Q ↔ T d 126 0 [.int a0, .int a1, .int a2] [] h (fun x h2 => T (d + 1) 207 6 ls (rl x []) h2 Q) := T_staticR (as := [.int a0, .int a1, .int a2]) (r := []) m207 m126 c207_3 k8_49 (Or.inl rfl) rfl (by decide) rfl (by simp [wrd, Value.category]) (by simp [stk, Value.category]) rfl
theorem c207_6 : cod 207 6 = some (.ifCond .eq 12, 3) := cod_of b207 dX8_status_6
theorem t207_6 {d : Nat} {h : Hp} {Q : Pst} {x : Int32} {ls : List Value} {st : List Value} : T d 207 6 ls (.int x :: st) h Q ↔ (if x = 0 then T d 207 18 ls st h Q else T d 207 9 ls st h Q) := T_if_eq c207_6 (by decide)
theorem c207_9 : cod 207 9 = some (.aload_n 0, 1) := cod_of b207 dX8_status_9
theorem t207_9 {d : Nat} {h : Hp} {Q : Pst} {l1 : Value} {x : Nat} {st : List Value} : T d 207 9 [.ref x, l1] st h Q ↔ T d 207 10 [.ref x, l1] (.ref x :: st) h Q := T_aload_n c207_9 rfl
theorem c207_10 : cod 207 10 = some (.getfield 17, 3) := cod_of b207 dX8_status_10
theorem t207_10 {d : Nat} {h : Hp} {Q : Pst} {a : Nat} {ls : List Value} {st : List Value} : T d 207 10 ls (.ref a :: st) h Q ↔ gF (h.2.2 a) 7 2 (fun v => T d 207 13 ls (v :: st) h Q) := T_getfieldR m207 c207_10 f8_17
theorem c207_13 : cod 207 13 = some (.iload_n 1, 1) := cod_of b207 dX8_status_13
theorem t207_13 {d : Nat} {h : Hp} {Q : Pst} {l0 : Value} {x : Int32} {st : List Value} : T d 207 13 [l0, .int x] st h Q ↔ T d 207 14 [l0, .int x] (.int x :: st) h Q := T_iload_n c207_13 rfl
theorem c207_14 : cod 207 14 = some (.iaload, 1) := cod_of b207 dX8_status_14
theorem t207_14 {d : Nat} {h : Hp} {Q : Pst} {a : Nat} {i : Int32} {ls : List Value} {st : List Value} : T d 207 14 ls (.int i :: .ref a :: st) h Q ↔ aL (h.2.2 a) i (fun x => T d 207 15 ls (.int x :: st) h Q) := T_iaload c207_14
theorem c207_15 : cod 207 15 = some (.goto 8, 3) := cod_of b207 dX8_status_15
theorem t207_15 {d : Nat} {h : Hp} {Q : Pst} {ls : List Value} {st : List Value} : T d 207 15 ls st h Q ↔ T d 207 23 ls st h Q := T_goto c207_15 (by decide)
theorem c207_23 : cod 207 23 = some (.ireturn, 1) := cod_of b207 dX8_status_23
theorem t207_23 {d : Nat} {h : Hp} {Q : Pst} {x : Int32} {ls : List Value} : T d 207 23 ls [.int x] h Q ↔ Q (some (.int x)) h := T_iretR m207 c207_23 rfl
theorem c207_18 : cod 207 18 = some (.aload_n 0, 1) := cod_of b207 dX8_status_18
theorem t207_18 {d : Nat} {h : Hp} {Q : Pst} {l1 : Value} {x : Nat} {st : List Value} : T d 207 18 [.ref x, l1] st h Q ↔ T d 207 19 [.ref x, l1] (.ref x :: st) h Q := T_aload_n c207_18 rfl
theorem c207_19 : cod 207 19 = some (.iconst (-1), 1) := cod_of b207 dX8_status_19
theorem t207_19 {d : Nat} {h : Hp} {Q : Pst} {ls : List Value} {st : List Value} : T d 207 19 ls st h Q ↔ T d 207 20 ls (.int (-1) :: st) h Q := T_iconstV c207_19 (by decide)
theorem c207_20 : cod 207 20 = some (.invokevirtual 176, 3) := cod_of b207 dX8_status_20
theorem t207_20 {d : Nat} {h : Hp} {Q : Pst} {a0 : Int32} {a : Nat} {ls : List Value} (ho : isO (h.2.2 a) 7) : T (d + 1) 207 20 ls [.int a0, .ref a] h Q ↔ T d 130 0 [.ref a, .int a0] [] h (fun x h2 => T (d + 1) 207 23 ls (rl x []) h2 Q) := T_virtualR (as := [.int a0]) (r := []) m207 m130 c207_20 k8_176  rfl (by decide) rfl (by simp [wrd, Value.category]) (by simp [stk, Value.category]) rfl (by decide +kernel) ho
theorem b208 : (mR 208).2.2.1 = cX8_outOnes := by rw [m208]
theorem c208_0 : cod 208 0 = some (.iconst 0, 1) := cod_of b208 dX8_outOnes_0
theorem t208_0 {d : Nat} {h : Hp} {Q : Pst} {ls : List Value} {st : List Value} : T d 208 0 ls st h Q ↔ T d 208 1 ls (.int 0 :: st) h Q := T_iconstV c208_0 (by decide)
theorem c208_1 : cod 208 1 = some (.istore_n 1, 1) := cod_of b208 dX8_outOnes_1
theorem t208_1 {d : Nat} {h : Hp} {Q : Pst} {l0 l1 l2 : Value} {x : Int32} {st : List Value} : T d 208 1 [l0, l1, l2] (.int x :: st) h Q ↔ T d 208 2 [kil l0, .int x, l2] st h Q := T_istore_n c208_1 (Nat.le_of_ble_eq_true rfl)
theorem c208_2 : cod 208 2 = some (.iconst 0, 1) := cod_of b208 dX8_outOnes_2
theorem t208_2 {d : Nat} {h : Hp} {Q : Pst} {ls : List Value} {st : List Value} : T d 208 2 ls st h Q ↔ T d 208 3 ls (.int 0 :: st) h Q := T_iconstV c208_2 (by decide)
theorem c208_3 : cod 208 3 = some (.istore_n 2, 1) := cod_of b208 dX8_outOnes_3
theorem t208_3 {d : Nat} {h : Hp} {Q : Pst} {l0 l1 l2 : Value} {x : Int32} {st : List Value} : T d 208 3 [l0, l1, l2] (.int x :: st) h Q ↔ T d 208 4 [l0, kil l1, .int x] st h Q := T_istore_n c208_3 (Nat.le_of_ble_eq_true rfl)
theorem c208_4 : cod 208 4 = some (.iload_n 2, 1) := cod_of b208 dX8_outOnes_4
theorem t208_4 {d : Nat} {h : Hp} {Q : Pst} {l0 l1 : Value} {x : Int32} {st : List Value} : T d 208 4 [l0, l1, .int x] st h Q ↔ T d 208 5 [l0, l1, .int x] (.int x :: st) h Q := T_iload_n c208_4 rfl
theorem c208_5 : cod 208 5 = some (.aload_n 0, 1) := cod_of b208 dX8_outOnes_5
theorem t208_5 {d : Nat} {h : Hp} {Q : Pst} {l1 l2 : Value} {x : Nat} {st : List Value} : T d 208 5 [.ref x, l1, l2] st h Q ↔ T d 208 6 [.ref x, l1, l2] (.ref x :: st) h Q := T_aload_n c208_5 rfl
theorem c208_6 : cod 208 6 = some (.getfield 7, 3) := cod_of b208 dX8_outOnes_6
theorem t208_6 {d : Nat} {h : Hp} {Q : Pst} {a : Nat} {ls : List Value} {st : List Value} : T d 208 6 ls (.ref a :: st) h Q ↔ gF (h.2.2 a) 7 0 (fun v => T d 208 9 ls (v :: st) h Q) := T_getfieldR m208 c208_6 f8_7
theorem c208_9 : cod 208 9 = some (.bipush 12, 2) := cod_of b208 dX8_outOnes_9
theorem t208_9 {d : Nat} {h : Hp} {Q : Pst} {ls : List Value} {st : List Value} : T d 208 9 ls st h Q ↔ T d 208 11 ls (.int 12 :: st) h Q := T_bipushV c208_9 (by decide)
theorem c208_11 : cod 208 11 = some (.iaload, 1) := cod_of b208 dX8_outOnes_11
theorem t208_11 {d : Nat} {h : Hp} {Q : Pst} {a : Nat} {i : Int32} {ls : List Value} {st : List Value} : T d 208 11 ls (.int i :: .ref a :: st) h Q ↔ aL (h.2.2 a) i (fun x => T d 208 12 ls (.int x :: st) h Q) := T_iaload c208_11
theorem c208_12 : cod 208 12 = some (.if_icmp .ge 29, 3) := cod_of b208 dX8_outOnes_12
theorem t208_12 {d : Nat} {h : Hp} {Q : Pst} {x y : Int32} {ls : List Value} {st : List Value} : T d 208 12 ls (.int y :: .int x :: st) h Q ↔ (if y ≤ x then T d 208 41 ls st h Q else T d 208 15 ls st h Q) := T_icmp_ge c208_12 (by decide)
theorem c208_15 : cod 208 15 = some (.iload_n 1, 1) := cod_of b208 dX8_outOnes_15
theorem t208_15 {d : Nat} {h : Hp} {Q : Pst} {l0 l2 : Value} {x : Int32} {st : List Value} : T d 208 15 [l0, .int x, l2] st h Q ↔ T d 208 16 [l0, .int x, l2] (.int x :: st) h Q := T_iload_n c208_15 rfl
theorem c208_16 : cod 208 16 = some (.aload_n 0, 1) := cod_of b208 dX8_outOnes_16
theorem t208_16 {d : Nat} {h : Hp} {Q : Pst} {l1 l2 : Value} {x : Nat} {st : List Value} : T d 208 16 [.ref x, l1, l2] st h Q ↔ T d 208 17 [.ref x, l1, l2] (.ref x :: st) h Q := T_aload_n c208_16 rfl
theorem c208_17 : cod 208 17 = some (.getfield 7, 3) := cod_of b208 dX8_outOnes_17
theorem t208_17 {d : Nat} {h : Hp} {Q : Pst} {a : Nat} {ls : List Value} {st : List Value} : T d 208 17 ls (.ref a :: st) h Q ↔ gF (h.2.2 a) 7 0 (fun v => T d 208 20 ls (v :: st) h Q) := T_getfieldR m208 c208_17 f8_7
theorem c208_20 : cod 208 20 = some (.iconst 0, 1) := cod_of b208 dX8_outOnes_20
theorem t208_20 {d : Nat} {h : Hp} {Q : Pst} {ls : List Value} {st : List Value} : T d 208 20 ls st h Q ↔ T d 208 21 ls (.int 0 :: st) h Q := T_iconstV c208_20 (by decide)
theorem c208_21 : cod 208 21 = some (.iload_n 2, 1) := cod_of b208 dX8_outOnes_21
theorem t208_21 {d : Nat} {h : Hp} {Q : Pst} {l0 l1 : Value} {x : Int32} {st : List Value} : T d 208 21 [l0, l1, .int x] st h Q ↔ T d 208 22 [l0, l1, .int x] (.int x :: st) h Q := T_iload_n c208_21 rfl
theorem c208_22 : cod 208 22 = some (.iadd, 1) := cod_of b208 dX8_outOnes_22
theorem t208_22 {d : Nat} {h : Hp} {Q : Pst} {x y : Int32} {ls : List Value} {st : List Value} : T d 208 22 ls (.int y :: .int x :: st) h Q ↔ T d 208 23 ls (.int (x + y) :: st) h Q := T_iadd c208_22
theorem c208_23 : cod 208 23 = some (.iaload, 1) := cod_of b208 dX8_outOnes_23
theorem t208_23 {d : Nat} {h : Hp} {Q : Pst} {a : Nat} {i : Int32} {ls : List Value} {st : List Value} : T d 208 23 ls (.int i :: .ref a :: st) h Q ↔ aL (h.2.2 a) i (fun x => T d 208 24 ls (.int x :: st) h Q) := T_iaload c208_23
theorem c208_24 : cod 208 24 = some (.iconst (-1), 1) := cod_of b208 dX8_outOnes_24
theorem t208_24 {d : Nat} {h : Hp} {Q : Pst} {ls : List Value} {st : List Value} : T d 208 24 ls st h Q ↔ T d 208 25 ls (.int (-1) :: st) h Q := T_iconstV c208_24 (by decide)
theorem c208_25 : cod 208 25 = some (.if_icmp .ne 7, 3) := cod_of b208 dX8_outOnes_25
theorem t208_25 {d : Nat} {h : Hp} {Q : Pst} {x y : Int32} {ls : List Value} {st : List Value} : T d 208 25 ls (.int y :: .int x :: st) h Q ↔ (if ¬ x = y then T d 208 32 ls st h Q else T d 208 28 ls st h Q) := T_icmp_ne c208_25 (by decide)
theorem c208_28 : cod 208 28 = some (.iconst 0, 1) := cod_of b208 dX8_outOnes_28
theorem t208_28 {d : Nat} {h : Hp} {Q : Pst} {ls : List Value} {st : List Value} : T d 208 28 ls st h Q ↔ T d 208 29 ls (.int 0 :: st) h Q := T_iconstV c208_28 (by decide)
theorem c208_29 : cod 208 29 = some (.goto 4, 3) := cod_of b208 dX8_outOnes_29
theorem t208_29 {d : Nat} {h : Hp} {Q : Pst} {ls : List Value} {st : List Value} : T d 208 29 ls st h Q ↔ T d 208 33 ls st h Q := T_goto c208_29 (by decide)
theorem c208_33 : cod 208 33 = some (.iadd, 1) := cod_of b208 dX8_outOnes_33
theorem t208_33 {d : Nat} {h : Hp} {Q : Pst} {x y : Int32} {ls : List Value} {st : List Value} : T d 208 33 ls (.int y :: .int x :: st) h Q ↔ T d 208 34 ls (.int (x + y) :: st) h Q := T_iadd c208_33
theorem c208_34 : cod 208 34 = some (.istore_n 1, 1) := cod_of b208 dX8_outOnes_34
theorem t208_34 {d : Nat} {h : Hp} {Q : Pst} {l0 l1 l2 : Value} {x : Int32} {st : List Value} : T d 208 34 [l0, l1, l2] (.int x :: st) h Q ↔ T d 208 35 [kil l0, .int x, l2] st h Q := T_istore_n c208_34 (Nat.le_of_ble_eq_true rfl)
theorem c208_35 : cod 208 35 = some (.iinc 2 1, 3) := cod_of b208 dX8_outOnes_35
theorem t208_35 {d : Nat} {h : Hp} {Q : Pst} {l0 l1 : Value} {x : Int32} {st : List Value} : T d 208 35 [l0, l1, .int x] st h Q ↔ T d 208 38 [l0, kil l1, .int (x + 1)] st h Q := T_iincV c208_35 rfl (Nat.le_of_ble_eq_true rfl) (by decide) rfl
theorem c208_38 : cod 208 38 = some (.goto (-34), 3) := cod_of b208 dX8_outOnes_38
theorem t208_38 {d : Nat} {h : Hp} {Q : Pst} {ls : List Value} {st : List Value} : T d 208 38 ls st h Q ↔ T d 208 4 ls st h Q := T_goto c208_38 (by decide)
theorem c208_32 : cod 208 32 = some (.iconst 1, 1) := cod_of b208 dX8_outOnes_32
theorem t208_32 {d : Nat} {h : Hp} {Q : Pst} {ls : List Value} {st : List Value} : T d 208 32 ls st h Q ↔ T d 208 33 ls (.int 1 :: st) h Q := T_iconstV c208_32 (by decide)
theorem c208_41 : cod 208 41 = some (.iload_n 1, 1) := cod_of b208 dX8_outOnes_41
theorem t208_41 {d : Nat} {h : Hp} {Q : Pst} {l0 l2 : Value} {x : Int32} {st : List Value} : T d 208 41 [l0, .int x, l2] st h Q ↔ T d 208 42 [l0, .int x, l2] (.int x :: st) h Q := T_iload_n c208_41 rfl
theorem c208_42 : cod 208 42 = some (.ireturn, 1) := cod_of b208 dX8_outOnes_42
theorem t208_42 {d : Nat} {h : Hp} {Q : Pst} {x : Int32} {ls : List Value} : T d 208 42 ls [.int x] h Q ↔ Q (some (.int x)) h := T_iretR m208 c208_42 rfl
theorem b209 : (mR 209).2.2.1 = cX8_countOf := by rw [m209]
theorem c209_0 : cod 209 0 = some (.iload_n 1, 1) := cod_of b209 dX8_countOf_0
theorem t209_0 {d : Nat} {h : Hp} {Q : Pst} {l0 : Value} {x : Int32} {st : List Value} : T d 209 0 [l0, .int x] st h Q ↔ T d 209 1 [l0, .int x] (.int x :: st) h Q := T_iload_n c209_0 rfl
theorem c209_1 : cod 209 1 = some (.tableswitch 130 0 9 #[55, 63, 71, 79, 87, 92, 98, 106, 114, 122], 55) := cod_of b209 dX8_countOf_1
theorem t209_1 {d : Nat} {h : Hp} {Q : Pst} {x : Int32} {ls : List Value} {st : List Value} : T d 209 1 ls (.int x :: st) h Q ↔ swT (fun t => T d 209 t ls st h Q) x.toInt 0 [56, 64, 72, 80, 88, 93, 99, 107, 115, 123] 131 := T_tsw c209_1 (by decide) (by decide) (by decide)
theorem c209_131 : cod 209 131 = some (.aload_n 0, 1) := cod_of b209 dX8_countOf_131
theorem t209_131 {d : Nat} {h : Hp} {Q : Pst} {l1 : Value} {x : Nat} {st : List Value} : T d 209 131 [.ref x, l1] st h Q ↔ T d 209 132 [.ref x, l1] (.ref x :: st) h Q := T_aload_n c209_131 rfl
theorem c209_132 : cod 209 132 = some (.getfield 64, 3) := cod_of b209 dX8_countOf_132
theorem t209_132 {d : Nat} {h : Hp} {Q : Pst} {a : Nat} {ls : List Value} {st : List Value} : T d 209 132 ls (.ref a :: st) h Q ↔ gF (h.2.2 a) 7 6 (fun v => T d 209 135 ls (v :: st) h Q) := T_getfieldR m209 c209_132 f8_64
theorem c209_135 : cod 209 135 = some (.ireturn, 1) := cod_of b209 dX8_countOf_135
theorem t209_135 {d : Nat} {h : Hp} {Q : Pst} {x : Int32} {ls : List Value} : T d 209 135 ls [.int x] h Q ↔ Q (some (.int x)) h := T_iretR m209 c209_135 rfl
theorem c209_123 : cod 209 123 = some (.aload_n 0, 1) := cod_of b209 dX8_countOf_123
theorem t209_123 {d : Nat} {h : Hp} {Q : Pst} {l1 : Value} {x : Nat} {st : List Value} : T d 209 123 [.ref x, l1] st h Q ↔ T d 209 124 [.ref x, l1] (.ref x :: st) h Q := T_aload_n c209_123 rfl
theorem c209_124 : cod 209 124 = some (.getfield 7, 3) := cod_of b209 dX8_countOf_124
theorem t209_124 {d : Nat} {h : Hp} {Q : Pst} {a : Nat} {ls : List Value} {st : List Value} : T d 209 124 ls (.ref a :: st) h Q ↔ gF (h.2.2 a) 7 0 (fun v => T d 209 127 ls (v :: st) h Q) := T_getfieldR m209 c209_124 f8_7
theorem c209_127 : cod 209 127 = some (.bipush 111, 2) := cod_of b209 dX8_countOf_127
theorem t209_127 {d : Nat} {h : Hp} {Q : Pst} {ls : List Value} {st : List Value} : T d 209 127 ls st h Q ↔ T d 209 129 ls (.int 111 :: st) h Q := T_bipushV c209_127 (by decide)
theorem c209_129 : cod 209 129 = some (.iaload, 1) := cod_of b209 dX8_countOf_129
theorem t209_129 {d : Nat} {h : Hp} {Q : Pst} {a : Nat} {i : Int32} {ls : List Value} {st : List Value} : T d 209 129 ls (.int i :: .ref a :: st) h Q ↔ aL (h.2.2 a) i (fun x => T d 209 130 ls (.int x :: st) h Q) := T_iaload c209_129
theorem c209_130 : cod 209 130 = some (.ireturn, 1) := cod_of b209 dX8_countOf_130
theorem t209_130 {d : Nat} {h : Hp} {Q : Pst} {x : Int32} {ls : List Value} : T d 209 130 ls [.int x] h Q ↔ Q (some (.int x)) h := T_iretR m209 c209_130 rfl
theorem c209_115 : cod 209 115 = some (.aload_n 0, 1) := cod_of b209 dX8_countOf_115
theorem t209_115 {d : Nat} {h : Hp} {Q : Pst} {l1 : Value} {x : Nat} {st : List Value} : T d 209 115 [.ref x, l1] st h Q ↔ T d 209 116 [.ref x, l1] (.ref x :: st) h Q := T_aload_n c209_115 rfl
theorem c209_116 : cod 209 116 = some (.getfield 7, 3) := cod_of b209 dX8_countOf_116
theorem t209_116 {d : Nat} {h : Hp} {Q : Pst} {a : Nat} {ls : List Value} {st : List Value} : T d 209 116 ls (.ref a :: st) h Q ↔ gF (h.2.2 a) 7 0 (fun v => T d 209 119 ls (v :: st) h Q) := T_getfieldR m209 c209_116 f8_7
theorem c209_119 : cod 209 119 = some (.bipush 80, 2) := cod_of b209 dX8_countOf_119
theorem t209_119 {d : Nat} {h : Hp} {Q : Pst} {ls : List Value} {st : List Value} : T d 209 119 ls st h Q ↔ T d 209 121 ls (.int 80 :: st) h Q := T_bipushV c209_119 (by decide)
theorem c209_121 : cod 209 121 = some (.iaload, 1) := cod_of b209 dX8_countOf_121
theorem t209_121 {d : Nat} {h : Hp} {Q : Pst} {a : Nat} {i : Int32} {ls : List Value} {st : List Value} : T d 209 121 ls (.int i :: .ref a :: st) h Q ↔ aL (h.2.2 a) i (fun x => T d 209 122 ls (.int x :: st) h Q) := T_iaload c209_121
theorem c209_122 : cod 209 122 = some (.ireturn, 1) := cod_of b209 dX8_countOf_122
theorem t209_122 {d : Nat} {h : Hp} {Q : Pst} {x : Int32} {ls : List Value} : T d 209 122 ls [.int x] h Q ↔ Q (some (.int x)) h := T_iretR m209 c209_122 rfl
theorem c209_107 : cod 209 107 = some (.aload_n 0, 1) := cod_of b209 dX8_countOf_107
theorem t209_107 {d : Nat} {h : Hp} {Q : Pst} {l1 : Value} {x : Nat} {st : List Value} : T d 209 107 [.ref x, l1] st h Q ↔ T d 209 108 [.ref x, l1] (.ref x :: st) h Q := T_aload_n c209_107 rfl
theorem c209_108 : cod 209 108 = some (.getfield 7, 3) := cod_of b209 dX8_countOf_108
theorem t209_108 {d : Nat} {h : Hp} {Q : Pst} {a : Nat} {ls : List Value} {st : List Value} : T d 209 108 ls (.ref a :: st) h Q ↔ gF (h.2.2 a) 7 0 (fun v => T d 209 111 ls (v :: st) h Q) := T_getfieldR m209 c209_108 f8_7
theorem c209_111 : cod 209 111 = some (.bipush 55, 2) := cod_of b209 dX8_countOf_111
theorem t209_111 {d : Nat} {h : Hp} {Q : Pst} {ls : List Value} {st : List Value} : T d 209 111 ls st h Q ↔ T d 209 113 ls (.int 55 :: st) h Q := T_bipushV c209_111 (by decide)
theorem c209_113 : cod 209 113 = some (.iaload, 1) := cod_of b209 dX8_countOf_113
theorem t209_113 {d : Nat} {h : Hp} {Q : Pst} {a : Nat} {i : Int32} {ls : List Value} {st : List Value} : T d 209 113 ls (.int i :: .ref a :: st) h Q ↔ aL (h.2.2 a) i (fun x => T d 209 114 ls (.int x :: st) h Q) := T_iaload c209_113
theorem c209_114 : cod 209 114 = some (.ireturn, 1) := cod_of b209 dX8_countOf_114
theorem t209_114 {d : Nat} {h : Hp} {Q : Pst} {x : Int32} {ls : List Value} : T d 209 114 ls [.int x] h Q ↔ Q (some (.int x)) h := T_iretR m209 c209_114 rfl
theorem c209_99 : cod 209 99 = some (.aload_n 0, 1) := cod_of b209 dX8_countOf_99
theorem t209_99 {d : Nat} {h : Hp} {Q : Pst} {l1 : Value} {x : Nat} {st : List Value} : T d 209 99 [.ref x, l1] st h Q ↔ T d 209 100 [.ref x, l1] (.ref x :: st) h Q := T_aload_n c209_99 rfl
theorem c209_100 : cod 209 100 = some (.getfield 7, 3) := cod_of b209 dX8_countOf_100
theorem t209_100 {d : Nat} {h : Hp} {Q : Pst} {a : Nat} {ls : List Value} {st : List Value} : T d 209 100 ls (.ref a :: st) h Q ↔ gF (h.2.2 a) 7 0 (fun v => T d 209 103 ls (v :: st) h Q) := T_getfieldR m209 c209_100 f8_7
theorem c209_103 : cod 209 103 = some (.bipush 34, 2) := cod_of b209 dX8_countOf_103
theorem t209_103 {d : Nat} {h : Hp} {Q : Pst} {ls : List Value} {st : List Value} : T d 209 103 ls st h Q ↔ T d 209 105 ls (.int 34 :: st) h Q := T_bipushV c209_103 (by decide)
theorem c209_105 : cod 209 105 = some (.iaload, 1) := cod_of b209 dX8_countOf_105
theorem t209_105 {d : Nat} {h : Hp} {Q : Pst} {a : Nat} {i : Int32} {ls : List Value} {st : List Value} : T d 209 105 ls (.int i :: .ref a :: st) h Q ↔ aL (h.2.2 a) i (fun x => T d 209 106 ls (.int x :: st) h Q) := T_iaload c209_105
theorem c209_106 : cod 209 106 = some (.ireturn, 1) := cod_of b209 dX8_countOf_106
theorem t209_106 {d : Nat} {h : Hp} {Q : Pst} {x : Int32} {ls : List Value} : T d 209 106 ls [.int x] h Q ↔ Q (some (.int x)) h := T_iretR m209 c209_106 rfl
theorem c209_93 : cod 209 93 = some (.aload_n 0, 1) := cod_of b209 dX8_countOf_93
theorem t209_93 {d : Nat} {h : Hp} {Q : Pst} {l1 : Value} {x : Nat} {st : List Value} : T d 209 93 [.ref x, l1] st h Q ↔ T d 209 94 [.ref x, l1] (.ref x :: st) h Q := T_aload_n c209_93 rfl
theorem c209_94 : cod 209 94 = some (.iconst 0, 1) := cod_of b209 dX8_countOf_94
theorem t209_94 {d : Nat} {h : Hp} {Q : Pst} {ls : List Value} {st : List Value} : T d 209 94 ls st h Q ↔ T d 209 95 ls (.int 0 :: st) h Q := T_iconstV c209_94 (by decide)
theorem c209_95 : cod 209 95 = some (.invokevirtual 166, 3) := cod_of b209 dX8_countOf_95
theorem t209_95 {d : Nat} {h : Hp} {Q : Pst} {a0 : Int32} {a : Nat} {ls : List Value} (ho : isO (h.2.2 a) 7) : T (d + 1) 209 95 ls [.int a0, .ref a] h Q ↔ T d 161 0 [.ref a, .int a0, un, un] [] h (fun x h2 => T (d + 1) 209 98 ls (rl x []) h2 Q) := T_virtualR (as := [.int a0]) (r := []) m209 m161 c209_95 k8_166  rfl (by decide) rfl (by simp [wrd, Value.category]) (by simp [stk, Value.category]) rfl (by decide +kernel) ho
theorem c209_98 : cod 209 98 = some (.ireturn, 1) := cod_of b209 dX8_countOf_98
theorem t209_98 {d : Nat} {h : Hp} {Q : Pst} {x : Int32} {ls : List Value} : T d 209 98 ls [.int x] h Q ↔ Q (some (.int x)) h := T_iretR m209 c209_98 rfl
theorem c209_88 : cod 209 88 = some (.aload_n 0, 1) := cod_of b209 dX8_countOf_88
theorem t209_88 {d : Nat} {h : Hp} {Q : Pst} {l1 : Value} {x : Nat} {st : List Value} : T d 209 88 [.ref x, l1] st h Q ↔ T d 209 89 [.ref x, l1] (.ref x :: st) h Q := T_aload_n c209_88 rfl
theorem c209_89 : cod 209 89 = some (.invokevirtual 230, 3) := cod_of b209 dX8_countOf_89
theorem t209_89 {d : Nat} {h : Hp} {Q : Pst} {a : Nat} {ls : List Value} (ho : isO (h.2.2 a) 7) : T (d + 1) 209 89 ls [.ref a] h Q ↔ T d 208 0 [.ref a, un, un] [] h (fun x h2 => T (d + 1) 209 92 ls (rl x []) h2 Q) := T_virtualR (as := []) (r := []) m209 m208 c209_89 k8_230  rfl (by decide) rfl (by simp [wrd, Value.category]) (by simp [stk, Value.category]) rfl (by decide +kernel) ho
theorem c209_92 : cod 209 92 = some (.ireturn, 1) := cod_of b209 dX8_countOf_92
theorem t209_92 {d : Nat} {h : Hp} {Q : Pst} {x : Int32} {ls : List Value} : T d 209 92 ls [.int x] h Q ↔ Q (some (.int x)) h := T_iretR m209 c209_92 rfl
theorem c209_80 : cod 209 80 = some (.aload_n 0, 1) := cod_of b209 dX8_countOf_80
theorem t209_80 {d : Nat} {h : Hp} {Q : Pst} {l1 : Value} {x : Nat} {st : List Value} : T d 209 80 [.ref x, l1] st h Q ↔ T d 209 81 [.ref x, l1] (.ref x :: st) h Q := T_aload_n c209_80 rfl
theorem c209_81 : cod 209 81 = some (.getfield 7, 3) := cod_of b209 dX8_countOf_81
theorem t209_81 {d : Nat} {h : Hp} {Q : Pst} {a : Nat} {ls : List Value} {st : List Value} : T d 209 81 ls (.ref a :: st) h Q ↔ gF (h.2.2 a) 7 0 (fun v => T d 209 84 ls (v :: st) h Q) := T_getfieldR m209 c209_81 f8_7
theorem c209_84 : cod 209 84 = some (.bipush 10, 2) := cod_of b209 dX8_countOf_84
theorem t209_84 {d : Nat} {h : Hp} {Q : Pst} {ls : List Value} {st : List Value} : T d 209 84 ls st h Q ↔ T d 209 86 ls (.int 10 :: st) h Q := T_bipushV c209_84 (by decide)
theorem c209_86 : cod 209 86 = some (.iaload, 1) := cod_of b209 dX8_countOf_86
theorem t209_86 {d : Nat} {h : Hp} {Q : Pst} {a : Nat} {i : Int32} {ls : List Value} {st : List Value} : T d 209 86 ls (.int i :: .ref a :: st) h Q ↔ aL (h.2.2 a) i (fun x => T d 209 87 ls (.int x :: st) h Q) := T_iaload c209_86
theorem c209_87 : cod 209 87 = some (.ireturn, 1) := cod_of b209 dX8_countOf_87
theorem t209_87 {d : Nat} {h : Hp} {Q : Pst} {x : Int32} {ls : List Value} : T d 209 87 ls [.int x] h Q ↔ Q (some (.int x)) h := T_iretR m209 c209_87 rfl
theorem c209_72 : cod 209 72 = some (.aload_n 0, 1) := cod_of b209 dX8_countOf_72
theorem t209_72 {d : Nat} {h : Hp} {Q : Pst} {l1 : Value} {x : Nat} {st : List Value} : T d 209 72 [.ref x, l1] st h Q ↔ T d 209 73 [.ref x, l1] (.ref x :: st) h Q := T_aload_n c209_72 rfl
theorem c209_73 : cod 209 73 = some (.getfield 7, 3) := cod_of b209 dX8_countOf_73
theorem t209_73 {d : Nat} {h : Hp} {Q : Pst} {a : Nat} {ls : List Value} {st : List Value} : T d 209 73 ls (.ref a :: st) h Q ↔ gF (h.2.2 a) 7 0 (fun v => T d 209 76 ls (v :: st) h Q) := T_getfieldR m209 c209_73 f8_7
theorem c209_76 : cod 209 76 = some (.bipush 11, 2) := cod_of b209 dX8_countOf_76
theorem t209_76 {d : Nat} {h : Hp} {Q : Pst} {ls : List Value} {st : List Value} : T d 209 76 ls st h Q ↔ T d 209 78 ls (.int 11 :: st) h Q := T_bipushV c209_76 (by decide)
theorem c209_78 : cod 209 78 = some (.iaload, 1) := cod_of b209 dX8_countOf_78
theorem t209_78 {d : Nat} {h : Hp} {Q : Pst} {a : Nat} {i : Int32} {ls : List Value} {st : List Value} : T d 209 78 ls (.int i :: .ref a :: st) h Q ↔ aL (h.2.2 a) i (fun x => T d 209 79 ls (.int x :: st) h Q) := T_iaload c209_78
theorem c209_79 : cod 209 79 = some (.ireturn, 1) := cod_of b209 dX8_countOf_79
theorem t209_79 {d : Nat} {h : Hp} {Q : Pst} {x : Int32} {ls : List Value} : T d 209 79 ls [.int x] h Q ↔ Q (some (.int x)) h := T_iretR m209 c209_79 rfl
theorem c209_64 : cod 209 64 = some (.aload_n 0, 1) := cod_of b209 dX8_countOf_64
theorem t209_64 {d : Nat} {h : Hp} {Q : Pst} {l1 : Value} {x : Nat} {st : List Value} : T d 209 64 [.ref x, l1] st h Q ↔ T d 209 65 [.ref x, l1] (.ref x :: st) h Q := T_aload_n c209_64 rfl
theorem c209_65 : cod 209 65 = some (.getfield 7, 3) := cod_of b209 dX8_countOf_65
theorem t209_65 {d : Nat} {h : Hp} {Q : Pst} {a : Nat} {ls : List Value} {st : List Value} : T d 209 65 ls (.ref a :: st) h Q ↔ gF (h.2.2 a) 7 0 (fun v => T d 209 68 ls (v :: st) h Q) := T_getfieldR m209 c209_65 f8_7
theorem c209_68 : cod 209 68 = some (.bipush 25, 2) := cod_of b209 dX8_countOf_68
theorem t209_68 {d : Nat} {h : Hp} {Q : Pst} {ls : List Value} {st : List Value} : T d 209 68 ls st h Q ↔ T d 209 70 ls (.int 25 :: st) h Q := T_bipushV c209_68 (by decide)
theorem c209_70 : cod 209 70 = some (.iaload, 1) := cod_of b209 dX8_countOf_70
theorem t209_70 {d : Nat} {h : Hp} {Q : Pst} {a : Nat} {i : Int32} {ls : List Value} {st : List Value} : T d 209 70 ls (.int i :: .ref a :: st) h Q ↔ aL (h.2.2 a) i (fun x => T d 209 71 ls (.int x :: st) h Q) := T_iaload c209_70
theorem c209_71 : cod 209 71 = some (.ireturn, 1) := cod_of b209 dX8_countOf_71
theorem t209_71 {d : Nat} {h : Hp} {Q : Pst} {x : Int32} {ls : List Value} : T d 209 71 ls [.int x] h Q ↔ Q (some (.int x)) h := T_iretR m209 c209_71 rfl
theorem c209_56 : cod 209 56 = some (.aload_n 0, 1) := cod_of b209 dX8_countOf_56
theorem t209_56 {d : Nat} {h : Hp} {Q : Pst} {l1 : Value} {x : Nat} {st : List Value} : T d 209 56 [.ref x, l1] st h Q ↔ T d 209 57 [.ref x, l1] (.ref x :: st) h Q := T_aload_n c209_56 rfl
theorem c209_57 : cod 209 57 = some (.getfield 7, 3) := cod_of b209 dX8_countOf_57
theorem t209_57 {d : Nat} {h : Hp} {Q : Pst} {a : Nat} {ls : List Value} {st : List Value} : T d 209 57 ls (.ref a :: st) h Q ↔ gF (h.2.2 a) 7 0 (fun v => T d 209 60 ls (v :: st) h Q) := T_getfieldR m209 c209_57 f8_7
theorem c209_60 : cod 209 60 = some (.bipush 12, 2) := cod_of b209 dX8_countOf_60
theorem t209_60 {d : Nat} {h : Hp} {Q : Pst} {ls : List Value} {st : List Value} : T d 209 60 ls st h Q ↔ T d 209 62 ls (.int 12 :: st) h Q := T_bipushV c209_60 (by decide)
theorem c209_62 : cod 209 62 = some (.iaload, 1) := cod_of b209 dX8_countOf_62
theorem t209_62 {d : Nat} {h : Hp} {Q : Pst} {a : Nat} {i : Int32} {ls : List Value} {st : List Value} : T d 209 62 ls (.int i :: .ref a :: st) h Q ↔ aL (h.2.2 a) i (fun x => T d 209 63 ls (.int x :: st) h Q) := T_iaload c209_62
theorem c209_63 : cod 209 63 = some (.ireturn, 1) := cod_of b209 dX8_countOf_63
theorem t209_63 {d : Nat} {h : Hp} {Q : Pst} {x : Int32} {ls : List Value} : T d 209 63 ls [.int x] h Q ↔ Q (some (.int x)) h := T_iretR m209 c209_63 rfl
theorem b210 : (mR 210).2.2.1 = cX8_count := by rw [m210]
theorem c210_0 : cod 210 0 = some (.iload_n 1, 1) := cod_of b210 dX8_count_0
theorem t210_0 {d : Nat} {h : Hp} {Q : Pst} {l0 : Value} {x : Int32} {st : List Value} : T d 210 0 [l0, .int x] st h Q ↔ T d 210 1 [l0, .int x] (.int x :: st) h Q := T_iload_n c210_0 rfl
theorem c210_1 : cod 210 1 = some (.iconst 0, 1) := cod_of b210 dX8_count_1
theorem t210_1 {d : Nat} {h : Hp} {Q : Pst} {ls : List Value} {st : List Value} : T d 210 1 ls st h Q ↔ T d 210 2 ls (.int 0 :: st) h Q := T_iconstV c210_1 (by decide)
theorem c210_2 : cod 210 2 = some (.bipush 10, 2) := cod_of b210 dX8_count_2
theorem t210_2 {d : Nat} {h : Hp} {Q : Pst} {ls : List Value} {st : List Value} : T d 210 2 ls st h Q ↔ T d 210 4 ls (.int 10 :: st) h Q := T_bipushV c210_2 (by decide)
theorem c210_4 : cod 210 4 = some (.invokestatic 49, 3) := cod_of b210 dX8_count_4
theorem t210_4 {d : Nat} {h : Hp} {Q : Pst} {a0 a1 a2 : Int32} {ls : List Value} : T (d + 1) 210 4 ls [.int a2, .int a1, .int a0] h Q ↔ T d 126 0 [.int a0, .int a1, .int a2] [] h (fun x h2 => T (d + 1) 210 7 ls (rl x []) h2 Q) := T_staticR (as := [.int a0, .int a1, .int a2]) (r := []) m210 m126 c210_4 k8_49 (Or.inl rfl) rfl (by decide) rfl (by simp [wrd, Value.category]) (by simp [stk, Value.category]) rfl
theorem c210_7 : cod 210 7 = some (.ifCond .eq 11, 3) := cod_of b210 dX8_count_7
theorem t210_7 {d : Nat} {h : Hp} {Q : Pst} {x : Int32} {ls : List Value} {st : List Value} : T d 210 7 ls (.int x :: st) h Q ↔ (if x = 0 then T d 210 18 ls st h Q else T d 210 10 ls st h Q) := T_if_eq c210_7 (by decide)
theorem c210_10 : cod 210 10 = some (.aload_n 0, 1) := cod_of b210 dX8_count_10
theorem t210_10 {d : Nat} {h : Hp} {Q : Pst} {l1 : Value} {x : Nat} {st : List Value} : T d 210 10 [.ref x, l1] st h Q ↔ T d 210 11 [.ref x, l1] (.ref x :: st) h Q := T_aload_n c210_10 rfl
theorem c210_11 : cod 210 11 = some (.iload_n 1, 1) := cod_of b210 dX8_count_11
theorem t210_11 {d : Nat} {h : Hp} {Q : Pst} {l0 : Value} {x : Int32} {st : List Value} : T d 210 11 [l0, .int x] st h Q ↔ T d 210 12 [l0, .int x] (.int x :: st) h Q := T_iload_n c210_11 rfl
theorem c210_12 : cod 210 12 = some (.invokevirtual 233, 3) := cod_of b210 dX8_count_12
theorem t210_12 {d : Nat} {h : Hp} {Q : Pst} {a0 : Int32} {a : Nat} {ls : List Value} (ho : isO (h.2.2 a) 7) : T (d + 1) 210 12 ls [.int a0, .ref a] h Q ↔ T d 209 0 [.ref a, .int a0] [] h (fun x h2 => T (d + 1) 210 15 ls (rl x []) h2 Q) := T_virtualR (as := [.int a0]) (r := []) m210 m209 c210_12 k8_233  rfl (by decide) rfl (by simp [wrd, Value.category]) (by simp [stk, Value.category]) rfl (by decide +kernel) ho
theorem c210_15 : cod 210 15 = some (.goto 9, 3) := cod_of b210 dX8_count_15
theorem t210_15 {d : Nat} {h : Hp} {Q : Pst} {ls : List Value} {st : List Value} : T d 210 15 ls st h Q ↔ T d 210 24 ls st h Q := T_goto c210_15 (by decide)
theorem c210_24 : cod 210 24 = some (.ireturn, 1) := cod_of b210 dX8_count_24
theorem t210_24 {d : Nat} {h : Hp} {Q : Pst} {x : Int32} {ls : List Value} : T d 210 24 ls [.int x] h Q ↔ Q (some (.int x)) h := T_iretR m210 c210_24 rfl
theorem c210_18 : cod 210 18 = some (.aload_n 0, 1) := cod_of b210 dX8_count_18
theorem t210_18 {d : Nat} {h : Hp} {Q : Pst} {l1 : Value} {x : Nat} {st : List Value} : T d 210 18 [.ref x, l1] st h Q ↔ T d 210 19 [.ref x, l1] (.ref x :: st) h Q := T_aload_n c210_18 rfl
theorem c210_19 : cod 210 19 = some (.bipush (-2), 2) := cod_of b210 dX8_count_19
theorem t210_19 {d : Nat} {h : Hp} {Q : Pst} {ls : List Value} {st : List Value} : T d 210 19 ls st h Q ↔ T d 210 21 ls (.int (-2) :: st) h Q := T_bipushV c210_19 (by decide)
theorem c210_21 : cod 210 21 = some (.invokevirtual 45, 3) := cod_of b210 dX8_count_21
theorem t210_21 {d : Nat} {h : Hp} {Q : Pst} {a0 : Int32} {a : Nat} {ls : List Value} (ho : isO (h.2.2 a) 7) : T (d + 1) 210 21 ls [.int a0, .ref a] h Q ↔ T d 129 0 [.ref a, .int a0] [] h (fun x h2 => T (d + 1) 210 24 ls (rl x []) h2 Q) := T_virtualR (as := [.int a0]) (r := []) m210 m129 c210_21 k8_45  rfl (by decide) rfl (by simp [wrd, Value.category]) (by simp [stk, Value.category]) rfl (by decide +kernel) ho
theorem b211 : (mR 211).2.2.1 = cX8_join := by rw [m211]
theorem c211_0 : cod 211 0 = some (.lload_n 1, 1) := cod_of b211 dX8_join_0
theorem t211_0 {d : Nat} {h : Hp} {Q : Pst} {l0 l2 l3 l4 l5 l6 l7 : Value} {x : Int64} {st : List Value} : T d 211 0 [l0, .long x, l2, l3, l4, l5, l6, l7] st h Q ↔ T d 211 1 [l0, .long x, l2, l3, l4, l5, l6, l7] (.long x :: st) h Q := T_lload_n c211_0 rfl
theorem c211_1 : cod 211 1 = some (.lstore 5, 2) := cod_of b211 dX8_join_1
theorem t211_1 {d : Nat} {h : Hp} {Q : Pst} {l0 l1 l2 l3 l4 l5 l6 l7 : Value} {x : Int64} {st : List Value} : T d 211 1 [l0, l1, l2, l3, l4, l5, l6, l7] (.long x :: st) h Q ↔ T d 211 3 [l0, l1, l2, l3, kil l4, .long x, un, l7] st h Q := T_lstore c211_1 (Nat.le_of_ble_eq_true rfl)
theorem c211_3 : cod 211 3 = some (.iload_n 3, 1) := cod_of b211 dX8_join_3
theorem t211_3 {d : Nat} {h : Hp} {Q : Pst} {l0 l1 l2 l4 l5 l6 l7 : Value} {x : Int32} {st : List Value} : T d 211 3 [l0, l1, l2, .int x, l4, l5, l6, l7] st h Q ↔ T d 211 4 [l0, l1, l2, .int x, l4, l5, l6, l7] (.int x :: st) h Q := T_iload_n c211_3 rfl
theorem c211_4 : cod 211 4 = some (.istore 7, 2) := cod_of b211 dX8_join_4
theorem t211_4 {d : Nat} {h : Hp} {Q : Pst} {l0 l1 l2 l3 l4 l5 l6 l7 : Value} {x : Int32} {st : List Value} : T d 211 4 [l0, l1, l2, l3, l4, l5, l6, l7] (.int x :: st) h Q ↔ T d 211 6 [l0, l1, l2, l3, l4, l5, kil l6, .int x] st h Q := T_istore c211_4 (Nat.le_of_ble_eq_true rfl)
theorem c211_6 : cod 211 6 = some (.iload 7, 2) := cod_of b211 dX8_join_6
theorem t211_6 {d : Nat} {h : Hp} {Q : Pst} {l0 l1 l2 l3 l4 l5 l6 : Value} {x : Int32} {st : List Value} : T d 211 6 [l0, l1, l2, l3, l4, l5, l6, .int x] st h Q ↔ T d 211 8 [l0, l1, l2, l3, l4, l5, l6, .int x] (.int x :: st) h Q := T_iload c211_6 rfl
theorem c211_8 : cod 211 8 = some (.iload_n 3, 1) := cod_of b211 dX8_join_8
theorem t211_8 {d : Nat} {h : Hp} {Q : Pst} {l0 l1 l2 l4 l5 l6 l7 : Value} {x : Int32} {st : List Value} : T d 211 8 [l0, l1, l2, .int x, l4, l5, l6, l7] st h Q ↔ T d 211 9 [l0, l1, l2, .int x, l4, l5, l6, l7] (.int x :: st) h Q := T_iload_n c211_8 rfl
theorem c211_9 : cod 211 9 = some (.iload 4, 2) := cod_of b211 dX8_join_9
theorem t211_9 {d : Nat} {h : Hp} {Q : Pst} {l0 l1 l2 l3 l5 l6 l7 : Value} {x : Int32} {st : List Value} : T d 211 9 [l0, l1, l2, l3, .int x, l5, l6, l7] st h Q ↔ T d 211 11 [l0, l1, l2, l3, .int x, l5, l6, l7] (.int x :: st) h Q := T_iload c211_9 rfl
theorem c211_11 : cod 211 11 = some (.iadd, 1) := cod_of b211 dX8_join_11
theorem t211_11 {d : Nat} {h : Hp} {Q : Pst} {x y : Int32} {ls : List Value} {st : List Value} : T d 211 11 ls (.int y :: .int x :: st) h Q ↔ T d 211 12 ls (.int (x + y) :: st) h Q := T_iadd c211_11
theorem c211_12 : cod 211 12 = some (.if_icmp .ge 26, 3) := cod_of b211 dX8_join_12
theorem t211_12 {d : Nat} {h : Hp} {Q : Pst} {x y : Int32} {ls : List Value} {st : List Value} : T d 211 12 ls (.int y :: .int x :: st) h Q ↔ (if y ≤ x then T d 211 38 ls st h Q else T d 211 15 ls st h Q) := T_icmp_ge c211_12 (by decide)
theorem c211_15 : cod 211 15 = some (.ldc2_w 236, 3) := cod_of b211 dX8_join_15
theorem t211_15 {d : Nat} {h : Hp} {Q : Pst} {ls : List Value} {st : List Value} : T d 211 15 ls st h Q ↔ T d 211 18 ls (.long 31 :: st) h Q := T_ldc2_wR m211 c211_15 (by decide +kernel)
theorem c211_18 : cod 211 18 = some (.lload 5, 2) := cod_of b211 dX8_join_18
theorem t211_18 {d : Nat} {h : Hp} {Q : Pst} {l0 l1 l2 l3 l4 l6 l7 : Value} {x : Int64} {st : List Value} : T d 211 18 [l0, l1, l2, l3, l4, .long x, l6, l7] st h Q ↔ T d 211 20 [l0, l1, l2, l3, l4, .long x, l6, l7] (.long x :: st) h Q := T_lload c211_18 rfl
theorem c211_20 : cod 211 20 = some (.lmul, 1) := cod_of b211 dX8_join_20
theorem t211_20 {d : Nat} {h : Hp} {Q : Pst} {x y : Int64} {ls : List Value} {st : List Value} : T d 211 20 ls (.long y :: .long x :: st) h Q ↔ T d 211 21 ls (.long (x * y) :: st) h Q := T_lmul c211_20
theorem c211_21 : cod 211 21 = some (.aload_n 0, 1) := cod_of b211 dX8_join_21
theorem t211_21 {d : Nat} {h : Hp} {Q : Pst} {l1 l2 l3 l4 l5 l6 l7 : Value} {x : Nat} {st : List Value} : T d 211 21 [.ref x, l1, l2, l3, l4, l5, l6, l7] st h Q ↔ T d 211 22 [.ref x, l1, l2, l3, l4, l5, l6, l7] (.ref x :: st) h Q := T_aload_n c211_21 rfl
theorem c211_22 : cod 211 22 = some (.getfield 7, 3) := cod_of b211 dX8_join_22
theorem t211_22 {d : Nat} {h : Hp} {Q : Pst} {a : Nat} {ls : List Value} {st : List Value} : T d 211 22 ls (.ref a :: st) h Q ↔ gF (h.2.2 a) 7 0 (fun v => T d 211 25 ls (v :: st) h Q) := T_getfieldR m211 c211_22 f8_7
theorem c211_25 : cod 211 25 = some (.iload 7, 2) := cod_of b211 dX8_join_25
theorem t211_25 {d : Nat} {h : Hp} {Q : Pst} {l0 l1 l2 l3 l4 l5 l6 : Value} {x : Int32} {st : List Value} : T d 211 25 [l0, l1, l2, l3, l4, l5, l6, .int x] st h Q ↔ T d 211 27 [l0, l1, l2, l3, l4, l5, l6, .int x] (.int x :: st) h Q := T_iload c211_25 rfl
theorem c211_27 : cod 211 27 = some (.iaload, 1) := cod_of b211 dX8_join_27
theorem t211_27 {d : Nat} {h : Hp} {Q : Pst} {a : Nat} {i : Int32} {ls : List Value} {st : List Value} : T d 211 27 ls (.int i :: .ref a :: st) h Q ↔ aL (h.2.2 a) i (fun x => T d 211 28 ls (.int x :: st) h Q) := T_iaload c211_27
theorem c211_28 : cod 211 28 = some (.i2l, 1) := cod_of b211 dX8_join_28
theorem t211_28 {d : Nat} {h : Hp} {Q : Pst} {x : Int32} {ls : List Value} {st : List Value} : T d 211 28 ls (.int x :: st) h Q ↔ T d 211 29 ls (.long x.toInt64 :: st) h Q := T_i2l c211_28
theorem c211_29 : cod 211 29 = some (.ladd, 1) := cod_of b211 dX8_join_29
theorem t211_29 {d : Nat} {h : Hp} {Q : Pst} {x y : Int64} {ls : List Value} {st : List Value} : T d 211 29 ls (.long y :: .long x :: st) h Q ↔ T d 211 30 ls (.long (x + y) :: st) h Q := T_ladd c211_29
theorem c211_30 : cod 211 30 = some (.lstore 5, 2) := cod_of b211 dX8_join_30
theorem t211_30 {d : Nat} {h : Hp} {Q : Pst} {l0 l1 l2 l3 l4 l5 l6 l7 : Value} {x : Int64} {st : List Value} : T d 211 30 [l0, l1, l2, l3, l4, l5, l6, l7] (.long x :: st) h Q ↔ T d 211 32 [l0, l1, l2, l3, kil l4, .long x, un, l7] st h Q := T_lstore c211_30 (Nat.le_of_ble_eq_true rfl)
theorem c211_32 : cod 211 32 = some (.iinc 7 1, 3) := cod_of b211 dX8_join_32
theorem t211_32 {d : Nat} {h : Hp} {Q : Pst} {l0 l1 l2 l3 l4 l5 l6 : Value} {x : Int32} {st : List Value} : T d 211 32 [l0, l1, l2, l3, l4, l5, l6, .int x] st h Q ↔ T d 211 35 [l0, l1, l2, l3, l4, l5, kil l6, .int (x + 1)] st h Q := T_iincV c211_32 rfl (Nat.le_of_ble_eq_true rfl) (by decide) rfl
theorem c211_35 : cod 211 35 = some (.goto (-29), 3) := cod_of b211 dX8_join_35
theorem t211_35 {d : Nat} {h : Hp} {Q : Pst} {ls : List Value} {st : List Value} : T d 211 35 ls st h Q ↔ T d 211 6 ls st h Q := T_goto c211_35 (by decide)
theorem c211_38 : cod 211 38 = some (.lload 5, 2) := cod_of b211 dX8_join_38
theorem t211_38 {d : Nat} {h : Hp} {Q : Pst} {l0 l1 l2 l3 l4 l6 l7 : Value} {x : Int64} {st : List Value} : T d 211 38 [l0, l1, l2, l3, l4, .long x, l6, l7] st h Q ↔ T d 211 40 [l0, l1, l2, l3, l4, .long x, l6, l7] (.long x :: st) h Q := T_lload c211_38 rfl
theorem c211_40 : cod 211 40 = some (.lreturn, 1) := cod_of b211 dX8_join_40
theorem t211_40 {d : Nat} {h : Hp} {Q : Pst} {x : Int64} {ls : List Value} : T d 211 40 ls [.long x] h Q ↔ Q (some (.long x)) h := T_lretR m211 c211_40 rfl
theorem b212 : (mR 212).2.2.1 = cX8_digest := by rw [m212]
theorem c212_0 : cod 212 0 = some (.ldc2_w 238, 3) := cod_of b212 dX8_digest_0
theorem t212_0 {d : Nat} {h : Hp} {Q : Pst} {ls : List Value} {st : List Value} : T d 212 0 ls st h Q ↔ T d 212 3 ls (.long 1627 :: st) h Q := T_ldc2_wR m212 c212_0 (by decide +kernel)
theorem c212_3 : cod 212 3 = some (.lstore_n 1, 1) := cod_of b212 dX8_digest_3
theorem t212_3 {d : Nat} {h : Hp} {Q : Pst} {l0 l1 l2 l3 : Value} {x : Int64} {st : List Value} : T d 212 3 [l0, l1, l2, l3] (.long x :: st) h Q ↔ T d 212 4 [kil l0, .long x, un, l3] st h Q := T_lstore_n c212_3 (Nat.le_of_ble_eq_true rfl)
theorem c212_4 : cod 212 4 = some (.iconst 0, 1) := cod_of b212 dX8_digest_4
theorem t212_4 {d : Nat} {h : Hp} {Q : Pst} {ls : List Value} {st : List Value} : T d 212 4 ls st h Q ↔ T d 212 5 ls (.int 0 :: st) h Q := T_iconstV c212_4 (by decide)
theorem c212_5 : cod 212 5 = some (.istore_n 3, 1) := cod_of b212 dX8_digest_5
theorem t212_5 {d : Nat} {h : Hp} {Q : Pst} {l0 l1 l2 l3 : Value} {x : Int32} {st : List Value} : T d 212 5 [l0, l1, l2, l3] (.int x :: st) h Q ↔ T d 212 6 [l0, l1, kil l2, .int x] st h Q := T_istore_n c212_5 (Nat.le_of_ble_eq_true rfl)
theorem c212_6 : cod 212 6 = some (.iload_n 3, 1) := cod_of b212 dX8_digest_6
theorem t212_6 {d : Nat} {h : Hp} {Q : Pst} {l0 l1 l2 : Value} {x : Int32} {st : List Value} : T d 212 6 [l0, l1, l2, .int x] st h Q ↔ T d 212 7 [l0, l1, l2, .int x] (.int x :: st) h Q := T_iload_n c212_6 rfl
theorem c212_7 : cod 212 7 = some (.bipush 11, 2) := cod_of b212 dX8_digest_7
theorem t212_7 {d : Nat} {h : Hp} {Q : Pst} {ls : List Value} {st : List Value} : T d 212 7 ls st h Q ↔ T d 212 9 ls (.int 11 :: st) h Q := T_bipushV c212_7 (by decide)
theorem c212_9 : cod 212 9 = some (.if_icmp .ge 22, 3) := cod_of b212 dX8_digest_9
theorem t212_9 {d : Nat} {h : Hp} {Q : Pst} {x y : Int32} {ls : List Value} {st : List Value} : T d 212 9 ls (.int y :: .int x :: st) h Q ↔ (if y ≤ x then T d 212 31 ls st h Q else T d 212 12 ls st h Q) := T_icmp_ge c212_9 (by decide)
theorem c212_12 : cod 212 12 = some (.ldc2_w 236, 3) := cod_of b212 dX8_digest_12
theorem t212_12 {d : Nat} {h : Hp} {Q : Pst} {ls : List Value} {st : List Value} : T d 212 12 ls st h Q ↔ T d 212 15 ls (.long 31 :: st) h Q := T_ldc2_wR m212 c212_12 (by decide +kernel)
theorem c212_15 : cod 212 15 = some (.lload_n 1, 1) := cod_of b212 dX8_digest_15
theorem t212_15 {d : Nat} {h : Hp} {Q : Pst} {l0 l2 l3 : Value} {x : Int64} {st : List Value} : T d 212 15 [l0, .long x, l2, l3] st h Q ↔ T d 212 16 [l0, .long x, l2, l3] (.long x :: st) h Q := T_lload_n c212_15 rfl
theorem c212_16 : cod 212 16 = some (.lmul, 1) := cod_of b212 dX8_digest_16
theorem t212_16 {d : Nat} {h : Hp} {Q : Pst} {x y : Int64} {ls : List Value} {st : List Value} : T d 212 16 ls (.long y :: .long x :: st) h Q ↔ T d 212 17 ls (.long (x * y) :: st) h Q := T_lmul c212_16
theorem c212_17 : cod 212 17 = some (.aload_n 0, 1) := cod_of b212 dX8_digest_17
theorem t212_17 {d : Nat} {h : Hp} {Q : Pst} {l1 l2 l3 : Value} {x : Nat} {st : List Value} : T d 212 17 [.ref x, l1, l2, l3] st h Q ↔ T d 212 18 [.ref x, l1, l2, l3] (.ref x :: st) h Q := T_aload_n c212_17 rfl
theorem c212_18 : cod 212 18 = some (.iload_n 3, 1) := cod_of b212 dX8_digest_18
theorem t212_18 {d : Nat} {h : Hp} {Q : Pst} {l0 l1 l2 : Value} {x : Int32} {st : List Value} : T d 212 18 [l0, l1, l2, .int x] st h Q ↔ T d 212 19 [l0, l1, l2, .int x] (.int x :: st) h Q := T_iload_n c212_18 rfl
theorem c212_19 : cod 212 19 = some (.invokevirtual 233, 3) := cod_of b212 dX8_digest_19
theorem t212_19 {d : Nat} {h : Hp} {Q : Pst} {a0 : Int32} {s0 : Int64} {a : Nat} {ls : List Value} (ho : isO (h.2.2 a) 7) : T (d + 1) 212 19 ls [.int a0, .ref a, .long s0] h Q ↔ T d 209 0 [.ref a, .int a0] [] h (fun x h2 => T (d + 1) 212 22 ls (rl x [.long s0]) h2 Q) := T_virtualR (as := [.int a0]) (r := [.long s0]) m212 m209 c212_19 k8_233  rfl (by decide) rfl (by simp [wrd, Value.category]) (by simp [stk, Value.category]) rfl (by decide +kernel) ho
theorem c212_22 : cod 212 22 = some (.i2l, 1) := cod_of b212 dX8_digest_22
theorem t212_22 {d : Nat} {h : Hp} {Q : Pst} {x : Int32} {ls : List Value} {st : List Value} : T d 212 22 ls (.int x :: st) h Q ↔ T d 212 23 ls (.long x.toInt64 :: st) h Q := T_i2l c212_22
theorem c212_23 : cod 212 23 = some (.ladd, 1) := cod_of b212 dX8_digest_23
theorem t212_23 {d : Nat} {h : Hp} {Q : Pst} {x y : Int64} {ls : List Value} {st : List Value} : T d 212 23 ls (.long y :: .long x :: st) h Q ↔ T d 212 24 ls (.long (x + y) :: st) h Q := T_ladd c212_23
theorem c212_24 : cod 212 24 = some (.lstore_n 1, 1) := cod_of b212 dX8_digest_24
theorem t212_24 {d : Nat} {h : Hp} {Q : Pst} {l0 l1 l2 l3 : Value} {x : Int64} {st : List Value} : T d 212 24 [l0, l1, l2, l3] (.long x :: st) h Q ↔ T d 212 25 [kil l0, .long x, un, l3] st h Q := T_lstore_n c212_24 (Nat.le_of_ble_eq_true rfl)
theorem c212_25 : cod 212 25 = some (.iinc 3 1, 3) := cod_of b212 dX8_digest_25
theorem t212_25 {d : Nat} {h : Hp} {Q : Pst} {l0 l1 l2 : Value} {x : Int32} {st : List Value} : T d 212 25 [l0, l1, l2, .int x] st h Q ↔ T d 212 28 [l0, l1, kil l2, .int (x + 1)] st h Q := T_iincV c212_25 rfl (Nat.le_of_ble_eq_true rfl) (by decide) rfl
theorem c212_28 : cod 212 28 = some (.goto (-22), 3) := cod_of b212 dX8_digest_28
theorem t212_28 {d : Nat} {h : Hp} {Q : Pst} {ls : List Value} {st : List Value} : T d 212 28 ls st h Q ↔ T d 212 6 ls st h Q := T_goto c212_28 (by decide)
theorem c212_31 : cod 212 31 = some (.iconst 0, 1) := cod_of b212 dX8_digest_31
theorem t212_31 {d : Nat} {h : Hp} {Q : Pst} {ls : List Value} {st : List Value} : T d 212 31 ls st h Q ↔ T d 212 32 ls (.int 0 :: st) h Q := T_iconstV c212_31 (by decide)
theorem c212_32 : cod 212 32 = some (.istore_n 3, 1) := cod_of b212 dX8_digest_32
theorem t212_32 {d : Nat} {h : Hp} {Q : Pst} {l0 l1 l2 l3 : Value} {x : Int32} {st : List Value} : T d 212 32 [l0, l1, l2, l3] (.int x :: st) h Q ↔ T d 212 33 [l0, l1, kil l2, .int x] st h Q := T_istore_n c212_32 (Nat.le_of_ble_eq_true rfl)
theorem c212_33 : cod 212 33 = some (.iload_n 3, 1) := cod_of b212 dX8_digest_33
theorem t212_33 {d : Nat} {h : Hp} {Q : Pst} {l0 l1 l2 : Value} {x : Int32} {st : List Value} : T d 212 33 [l0, l1, l2, .int x] st h Q ↔ T d 212 34 [l0, l1, l2, .int x] (.int x :: st) h Q := T_iload_n c212_33 rfl
theorem c212_34 : cod 212 34 = some (.aload_n 0, 1) := cod_of b212 dX8_digest_34
theorem t212_34 {d : Nat} {h : Hp} {Q : Pst} {l1 l2 l3 : Value} {x : Nat} {st : List Value} : T d 212 34 [.ref x, l1, l2, l3] st h Q ↔ T d 212 35 [.ref x, l1, l2, l3] (.ref x :: st) h Q := T_aload_n c212_34 rfl
theorem c212_35 : cod 212 35 = some (.getfield 7, 3) := cod_of b212 dX8_digest_35
theorem t212_35 {d : Nat} {h : Hp} {Q : Pst} {a : Nat} {ls : List Value} {st : List Value} : T d 212 35 ls (.ref a :: st) h Q ↔ gF (h.2.2 a) 7 0 (fun v => T d 212 38 ls (v :: st) h Q) := T_getfieldR m212 c212_35 f8_7
theorem c212_38 : cod 212 38 = some (.bipush 12, 2) := cod_of b212 dX8_digest_38
theorem t212_38 {d : Nat} {h : Hp} {Q : Pst} {ls : List Value} {st : List Value} : T d 212 38 ls st h Q ↔ T d 212 40 ls (.int 12 :: st) h Q := T_bipushV c212_38 (by decide)
theorem c212_40 : cod 212 40 = some (.iaload, 1) := cod_of b212 dX8_digest_40
theorem t212_40 {d : Nat} {h : Hp} {Q : Pst} {a : Nat} {i : Int32} {ls : List Value} {st : List Value} : T d 212 40 ls (.int i :: .ref a :: st) h Q ↔ aL (h.2.2 a) i (fun x => T d 212 41 ls (.int x :: st) h Q) := T_iaload c212_40
theorem c212_41 : cod 212 41 = some (.if_icmp .ge 55, 3) := cod_of b212 dX8_digest_41
theorem t212_41 {d : Nat} {h : Hp} {Q : Pst} {x y : Int32} {ls : List Value} {st : List Value} : T d 212 41 ls (.int y :: .int x :: st) h Q ↔ (if y ≤ x then T d 212 96 ls st h Q else T d 212 44 ls st h Q) := T_icmp_ge c212_41 (by decide)
theorem c212_44 : cod 212 44 = some (.ldc2_w 236, 3) := cod_of b212 dX8_digest_44
theorem t212_44 {d : Nat} {h : Hp} {Q : Pst} {ls : List Value} {st : List Value} : T d 212 44 ls st h Q ↔ T d 212 47 ls (.long 31 :: st) h Q := T_ldc2_wR m212 c212_44 (by decide +kernel)
theorem c212_47 : cod 212 47 = some (.ldc2_w 236, 3) := cod_of b212 dX8_digest_47
theorem t212_47 {d : Nat} {h : Hp} {Q : Pst} {ls : List Value} {st : List Value} : T d 212 47 ls st h Q ↔ T d 212 50 ls (.long 31 :: st) h Q := T_ldc2_wR m212 c212_47 (by decide +kernel)
theorem c212_50 : cod 212 50 = some (.ldc2_w 236, 3) := cod_of b212 dX8_digest_50
theorem t212_50 {d : Nat} {h : Hp} {Q : Pst} {ls : List Value} {st : List Value} : T d 212 50 ls st h Q ↔ T d 212 53 ls (.long 31 :: st) h Q := T_ldc2_wR m212 c212_50 (by decide +kernel)
theorem c212_53 : cod 212 53 = some (.lload_n 1, 1) := cod_of b212 dX8_digest_53
theorem t212_53 {d : Nat} {h : Hp} {Q : Pst} {l0 l2 l3 : Value} {x : Int64} {st : List Value} : T d 212 53 [l0, .long x, l2, l3] st h Q ↔ T d 212 54 [l0, .long x, l2, l3] (.long x :: st) h Q := T_lload_n c212_53 rfl
theorem c212_54 : cod 212 54 = some (.lmul, 1) := cod_of b212 dX8_digest_54
theorem t212_54 {d : Nat} {h : Hp} {Q : Pst} {x y : Int64} {ls : List Value} {st : List Value} : T d 212 54 ls (.long y :: .long x :: st) h Q ↔ T d 212 55 ls (.long (x * y) :: st) h Q := T_lmul c212_54
theorem c212_55 : cod 212 55 = some (.aload_n 0, 1) := cod_of b212 dX8_digest_55
theorem t212_55 {d : Nat} {h : Hp} {Q : Pst} {l1 l2 l3 : Value} {x : Nat} {st : List Value} : T d 212 55 [.ref x, l1, l2, l3] st h Q ↔ T d 212 56 [.ref x, l1, l2, l3] (.ref x :: st) h Q := T_aload_n c212_55 rfl
theorem c212_56 : cod 212 56 = some (.getfield 7, 3) := cod_of b212 dX8_digest_56
theorem t212_56 {d : Nat} {h : Hp} {Q : Pst} {a : Nat} {ls : List Value} {st : List Value} : T d 212 56 ls (.ref a :: st) h Q ↔ gF (h.2.2 a) 7 0 (fun v => T d 212 59 ls (v :: st) h Q) := T_getfieldR m212 c212_56 f8_7
theorem c212_59 : cod 212 59 = some (.bipush 13, 2) := cod_of b212 dX8_digest_59
theorem t212_59 {d : Nat} {h : Hp} {Q : Pst} {ls : List Value} {st : List Value} : T d 212 59 ls st h Q ↔ T d 212 61 ls (.int 13 :: st) h Q := T_bipushV c212_59 (by decide)
theorem c212_61 : cod 212 61 = some (.iload_n 3, 1) := cod_of b212 dX8_digest_61
theorem t212_61 {d : Nat} {h : Hp} {Q : Pst} {l0 l1 l2 : Value} {x : Int32} {st : List Value} : T d 212 61 [l0, l1, l2, .int x] st h Q ↔ T d 212 62 [l0, l1, l2, .int x] (.int x :: st) h Q := T_iload_n c212_61 rfl
theorem c212_62 : cod 212 62 = some (.iadd, 1) := cod_of b212 dX8_digest_62
theorem t212_62 {d : Nat} {h : Hp} {Q : Pst} {x y : Int32} {ls : List Value} {st : List Value} : T d 212 62 ls (.int y :: .int x :: st) h Q ↔ T d 212 63 ls (.int (x + y) :: st) h Q := T_iadd c212_62
theorem c212_63 : cod 212 63 = some (.iaload, 1) := cod_of b212 dX8_digest_63
theorem t212_63 {d : Nat} {h : Hp} {Q : Pst} {a : Nat} {i : Int32} {ls : List Value} {st : List Value} : T d 212 63 ls (.int i :: .ref a :: st) h Q ↔ aL (h.2.2 a) i (fun x => T d 212 64 ls (.int x :: st) h Q) := T_iaload c212_63
theorem c212_64 : cod 212 64 = some (.i2l, 1) := cod_of b212 dX8_digest_64
theorem t212_64 {d : Nat} {h : Hp} {Q : Pst} {x : Int32} {ls : List Value} {st : List Value} : T d 212 64 ls (.int x :: st) h Q ↔ T d 212 65 ls (.long x.toInt64 :: st) h Q := T_i2l c212_64
theorem c212_65 : cod 212 65 = some (.ladd, 1) := cod_of b212 dX8_digest_65
theorem t212_65 {d : Nat} {h : Hp} {Q : Pst} {x y : Int64} {ls : List Value} {st : List Value} : T d 212 65 ls (.long y :: .long x :: st) h Q ↔ T d 212 66 ls (.long (x + y) :: st) h Q := T_ladd c212_65
theorem c212_66 : cod 212 66 = some (.lmul, 1) := cod_of b212 dX8_digest_66
theorem t212_66 {d : Nat} {h : Hp} {Q : Pst} {x y : Int64} {ls : List Value} {st : List Value} : T d 212 66 ls (.long y :: .long x :: st) h Q ↔ T d 212 67 ls (.long (x * y) :: st) h Q := T_lmul c212_66
theorem c212_67 : cod 212 67 = some (.aload_n 0, 1) := cod_of b212 dX8_digest_67
theorem t212_67 {d : Nat} {h : Hp} {Q : Pst} {l1 l2 l3 : Value} {x : Nat} {st : List Value} : T d 212 67 [.ref x, l1, l2, l3] st h Q ↔ T d 212 68 [.ref x, l1, l2, l3] (.ref x :: st) h Q := T_aload_n c212_67 rfl
theorem c212_68 : cod 212 68 = some (.getfield 7, 3) := cod_of b212 dX8_digest_68
theorem t212_68 {d : Nat} {h : Hp} {Q : Pst} {a : Nat} {ls : List Value} {st : List Value} : T d 212 68 ls (.ref a :: st) h Q ↔ gF (h.2.2 a) 7 0 (fun v => T d 212 71 ls (v :: st) h Q) := T_getfieldR m212 c212_68 f8_7
theorem c212_71 : cod 212 71 = some (.bipush 19, 2) := cod_of b212 dX8_digest_71
theorem t212_71 {d : Nat} {h : Hp} {Q : Pst} {ls : List Value} {st : List Value} : T d 212 71 ls st h Q ↔ T d 212 73 ls (.int 19 :: st) h Q := T_bipushV c212_71 (by decide)
theorem c212_73 : cod 212 73 = some (.iload_n 3, 1) := cod_of b212 dX8_digest_73
theorem t212_73 {d : Nat} {h : Hp} {Q : Pst} {l0 l1 l2 : Value} {x : Int32} {st : List Value} : T d 212 73 [l0, l1, l2, .int x] st h Q ↔ T d 212 74 [l0, l1, l2, .int x] (.int x :: st) h Q := T_iload_n c212_73 rfl
theorem c212_74 : cod 212 74 = some (.iadd, 1) := cod_of b212 dX8_digest_74
theorem t212_74 {d : Nat} {h : Hp} {Q : Pst} {x y : Int32} {ls : List Value} {st : List Value} : T d 212 74 ls (.int y :: .int x :: st) h Q ↔ T d 212 75 ls (.int (x + y) :: st) h Q := T_iadd c212_74
theorem c212_75 : cod 212 75 = some (.iaload, 1) := cod_of b212 dX8_digest_75
theorem t212_75 {d : Nat} {h : Hp} {Q : Pst} {a : Nat} {i : Int32} {ls : List Value} {st : List Value} : T d 212 75 ls (.int i :: .ref a :: st) h Q ↔ aL (h.2.2 a) i (fun x => T d 212 76 ls (.int x :: st) h Q) := T_iaload c212_75
theorem c212_76 : cod 212 76 = some (.i2l, 1) := cod_of b212 dX8_digest_76
theorem t212_76 {d : Nat} {h : Hp} {Q : Pst} {x : Int32} {ls : List Value} {st : List Value} : T d 212 76 ls (.int x :: st) h Q ↔ T d 212 77 ls (.long x.toInt64 :: st) h Q := T_i2l c212_76
theorem c212_77 : cod 212 77 = some (.ladd, 1) := cod_of b212 dX8_digest_77
theorem t212_77 {d : Nat} {h : Hp} {Q : Pst} {x y : Int64} {ls : List Value} {st : List Value} : T d 212 77 ls (.long y :: .long x :: st) h Q ↔ T d 212 78 ls (.long (x + y) :: st) h Q := T_ladd c212_77
theorem c212_78 : cod 212 78 = some (.lmul, 1) := cod_of b212 dX8_digest_78
theorem t212_78 {d : Nat} {h : Hp} {Q : Pst} {x y : Int64} {ls : List Value} {st : List Value} : T d 212 78 ls (.long y :: .long x :: st) h Q ↔ T d 212 79 ls (.long (x * y) :: st) h Q := T_lmul c212_78
theorem c212_79 : cod 212 79 = some (.aload_n 0, 1) := cod_of b212 dX8_digest_79
theorem t212_79 {d : Nat} {h : Hp} {Q : Pst} {l1 l2 l3 : Value} {x : Nat} {st : List Value} : T d 212 79 [.ref x, l1, l2, l3] st h Q ↔ T d 212 80 [.ref x, l1, l2, l3] (.ref x :: st) h Q := T_aload_n c212_79 rfl
theorem c212_80 : cod 212 80 = some (.getfield 7, 3) := cod_of b212 dX8_digest_80
theorem t212_80 {d : Nat} {h : Hp} {Q : Pst} {a : Nat} {ls : List Value} {st : List Value} : T d 212 80 ls (.ref a :: st) h Q ↔ gF (h.2.2 a) 7 0 (fun v => T d 212 83 ls (v :: st) h Q) := T_getfieldR m212 c212_80 f8_7
theorem c212_83 : cod 212 83 = some (.iconst 0, 1) := cod_of b212 dX8_digest_83
theorem t212_83 {d : Nat} {h : Hp} {Q : Pst} {ls : List Value} {st : List Value} : T d 212 83 ls st h Q ↔ T d 212 84 ls (.int 0 :: st) h Q := T_iconstV c212_83 (by decide)
theorem c212_84 : cod 212 84 = some (.iload_n 3, 1) := cod_of b212 dX8_digest_84
theorem t212_84 {d : Nat} {h : Hp} {Q : Pst} {l0 l1 l2 : Value} {x : Int32} {st : List Value} : T d 212 84 [l0, l1, l2, .int x] st h Q ↔ T d 212 85 [l0, l1, l2, .int x] (.int x :: st) h Q := T_iload_n c212_84 rfl
theorem c212_85 : cod 212 85 = some (.iadd, 1) := cod_of b212 dX8_digest_85
theorem t212_85 {d : Nat} {h : Hp} {Q : Pst} {x y : Int32} {ls : List Value} {st : List Value} : T d 212 85 ls (.int y :: .int x :: st) h Q ↔ T d 212 86 ls (.int (x + y) :: st) h Q := T_iadd c212_85
theorem c212_86 : cod 212 86 = some (.iaload, 1) := cod_of b212 dX8_digest_86
theorem t212_86 {d : Nat} {h : Hp} {Q : Pst} {a : Nat} {i : Int32} {ls : List Value} {st : List Value} : T d 212 86 ls (.int i :: .ref a :: st) h Q ↔ aL (h.2.2 a) i (fun x => T d 212 87 ls (.int x :: st) h Q) := T_iaload c212_86
theorem c212_87 : cod 212 87 = some (.i2l, 1) := cod_of b212 dX8_digest_87
theorem t212_87 {d : Nat} {h : Hp} {Q : Pst} {x : Int32} {ls : List Value} {st : List Value} : T d 212 87 ls (.int x :: st) h Q ↔ T d 212 88 ls (.long x.toInt64 :: st) h Q := T_i2l c212_87
theorem c212_88 : cod 212 88 = some (.ladd, 1) := cod_of b212 dX8_digest_88
theorem t212_88 {d : Nat} {h : Hp} {Q : Pst} {x y : Int64} {ls : List Value} {st : List Value} : T d 212 88 ls (.long y :: .long x :: st) h Q ↔ T d 212 89 ls (.long (x + y) :: st) h Q := T_ladd c212_88
theorem c212_89 : cod 212 89 = some (.lstore_n 1, 1) := cod_of b212 dX8_digest_89
theorem t212_89 {d : Nat} {h : Hp} {Q : Pst} {l0 l1 l2 l3 : Value} {x : Int64} {st : List Value} : T d 212 89 [l0, l1, l2, l3] (.long x :: st) h Q ↔ T d 212 90 [kil l0, .long x, un, l3] st h Q := T_lstore_n c212_89 (Nat.le_of_ble_eq_true rfl)
theorem c212_90 : cod 212 90 = some (.iinc 3 1, 3) := cod_of b212 dX8_digest_90
theorem t212_90 {d : Nat} {h : Hp} {Q : Pst} {l0 l1 l2 : Value} {x : Int32} {st : List Value} : T d 212 90 [l0, l1, l2, .int x] st h Q ↔ T d 212 93 [l0, l1, kil l2, .int (x + 1)] st h Q := T_iincV c212_90 rfl (Nat.le_of_ble_eq_true rfl) (by decide) rfl
theorem c212_93 : cod 212 93 = some (.goto (-60), 3) := cod_of b212 dX8_digest_93
theorem t212_93 {d : Nat} {h : Hp} {Q : Pst} {ls : List Value} {st : List Value} : T d 212 93 ls st h Q ↔ T d 212 33 ls st h Q := T_goto c212_93 (by decide)
theorem c212_96 : cod 212 96 = some (.iconst 0, 1) := cod_of b212 dX8_digest_96
theorem t212_96 {d : Nat} {h : Hp} {Q : Pst} {ls : List Value} {st : List Value} : T d 212 96 ls st h Q ↔ T d 212 97 ls (.int 0 :: st) h Q := T_iconstV c212_96 (by decide)
theorem c212_97 : cod 212 97 = some (.istore_n 3, 1) := cod_of b212 dX8_digest_97
theorem t212_97 {d : Nat} {h : Hp} {Q : Pst} {l0 l1 l2 l3 : Value} {x : Int32} {st : List Value} : T d 212 97 [l0, l1, l2, l3] (.int x :: st) h Q ↔ T d 212 98 [l0, l1, kil l2, .int x] st h Q := T_istore_n c212_97 (Nat.le_of_ble_eq_true rfl)
theorem c212_98 : cod 212 98 = some (.iload_n 3, 1) := cod_of b212 dX8_digest_98
theorem t212_98 {d : Nat} {h : Hp} {Q : Pst} {l0 l1 l2 : Value} {x : Int32} {st : List Value} : T d 212 98 [l0, l1, l2, .int x] st h Q ↔ T d 212 99 [l0, l1, l2, .int x] (.int x :: st) h Q := T_iload_n c212_98 rfl
theorem c212_99 : cod 212 99 = some (.aload_n 0, 1) := cod_of b212 dX8_digest_99
theorem t212_99 {d : Nat} {h : Hp} {Q : Pst} {l1 l2 l3 : Value} {x : Nat} {st : List Value} : T d 212 99 [.ref x, l1, l2, l3] st h Q ↔ T d 212 100 [.ref x, l1, l2, l3] (.ref x :: st) h Q := T_aload_n c212_99 rfl
theorem c212_100 : cod 212 100 = some (.getfield 7, 3) := cod_of b212 dX8_digest_100
theorem t212_100 {d : Nat} {h : Hp} {Q : Pst} {a : Nat} {ls : List Value} {st : List Value} : T d 212 100 ls (.ref a :: st) h Q ↔ gF (h.2.2 a) 7 0 (fun v => T d 212 103 ls (v :: st) h Q) := T_getfieldR m212 c212_100 f8_7
theorem c212_103 : cod 212 103 = some (.bipush 25, 2) := cod_of b212 dX8_digest_103
theorem t212_103 {d : Nat} {h : Hp} {Q : Pst} {ls : List Value} {st : List Value} : T d 212 103 ls st h Q ↔ T d 212 105 ls (.int 25 :: st) h Q := T_bipushV c212_103 (by decide)
theorem c212_105 : cod 212 105 = some (.iaload, 1) := cod_of b212 dX8_digest_105
theorem t212_105 {d : Nat} {h : Hp} {Q : Pst} {a : Nat} {i : Int32} {ls : List Value} {st : List Value} : T d 212 105 ls (.int i :: .ref a :: st) h Q ↔ aL (h.2.2 a) i (fun x => T d 212 106 ls (.int x :: st) h Q) := T_iaload c212_105
theorem c212_106 : cod 212 106 = some (.if_icmp .ge 56, 3) := cod_of b212 dX8_digest_106
theorem t212_106 {d : Nat} {h : Hp} {Q : Pst} {x y : Int32} {ls : List Value} {st : List Value} : T d 212 106 ls (.int y :: .int x :: st) h Q ↔ (if y ≤ x then T d 212 162 ls st h Q else T d 212 109 ls st h Q) := T_icmp_ge c212_106 (by decide)
theorem c212_109 : cod 212 109 = some (.ldc2_w 236, 3) := cod_of b212 dX8_digest_109
theorem t212_109 {d : Nat} {h : Hp} {Q : Pst} {ls : List Value} {st : List Value} : T d 212 109 ls st h Q ↔ T d 212 112 ls (.long 31 :: st) h Q := T_ldc2_wR m212 c212_109 (by decide +kernel)
theorem c212_112 : cod 212 112 = some (.ldc2_w 236, 3) := cod_of b212 dX8_digest_112
theorem t212_112 {d : Nat} {h : Hp} {Q : Pst} {ls : List Value} {st : List Value} : T d 212 112 ls st h Q ↔ T d 212 115 ls (.long 31 :: st) h Q := T_ldc2_wR m212 c212_112 (by decide +kernel)
theorem c212_115 : cod 212 115 = some (.ldc2_w 236, 3) := cod_of b212 dX8_digest_115
theorem t212_115 {d : Nat} {h : Hp} {Q : Pst} {ls : List Value} {st : List Value} : T d 212 115 ls st h Q ↔ T d 212 118 ls (.long 31 :: st) h Q := T_ldc2_wR m212 c212_115 (by decide +kernel)
theorem c212_118 : cod 212 118 = some (.lload_n 1, 1) := cod_of b212 dX8_digest_118
theorem t212_118 {d : Nat} {h : Hp} {Q : Pst} {l0 l2 l3 : Value} {x : Int64} {st : List Value} : T d 212 118 [l0, .long x, l2, l3] st h Q ↔ T d 212 119 [l0, .long x, l2, l3] (.long x :: st) h Q := T_lload_n c212_118 rfl
theorem c212_119 : cod 212 119 = some (.lmul, 1) := cod_of b212 dX8_digest_119
theorem t212_119 {d : Nat} {h : Hp} {Q : Pst} {x y : Int64} {ls : List Value} {st : List Value} : T d 212 119 ls (.long y :: .long x :: st) h Q ↔ T d 212 120 ls (.long (x * y) :: st) h Q := T_lmul c212_119
theorem c212_120 : cod 212 120 = some (.aload_n 0, 1) := cod_of b212 dX8_digest_120
theorem t212_120 {d : Nat} {h : Hp} {Q : Pst} {l1 l2 l3 : Value} {x : Nat} {st : List Value} : T d 212 120 [.ref x, l1, l2, l3] st h Q ↔ T d 212 121 [.ref x, l1, l2, l3] (.ref x :: st) h Q := T_aload_n c212_120 rfl
theorem c212_121 : cod 212 121 = some (.getfield 7, 3) := cod_of b212 dX8_digest_121
theorem t212_121 {d : Nat} {h : Hp} {Q : Pst} {a : Nat} {ls : List Value} {st : List Value} : T d 212 121 ls (.ref a :: st) h Q ↔ gF (h.2.2 a) 7 0 (fun v => T d 212 124 ls (v :: st) h Q) := T_getfieldR m212 c212_121 f8_7
theorem c212_124 : cod 212 124 = some (.bipush 26, 2) := cod_of b212 dX8_digest_124
theorem t212_124 {d : Nat} {h : Hp} {Q : Pst} {ls : List Value} {st : List Value} : T d 212 124 ls st h Q ↔ T d 212 126 ls (.int 26 :: st) h Q := T_bipushV c212_124 (by decide)
theorem c212_126 : cod 212 126 = some (.iload_n 3, 1) := cod_of b212 dX8_digest_126
theorem t212_126 {d : Nat} {h : Hp} {Q : Pst} {l0 l1 l2 : Value} {x : Int32} {st : List Value} : T d 212 126 [l0, l1, l2, .int x] st h Q ↔ T d 212 127 [l0, l1, l2, .int x] (.int x :: st) h Q := T_iload_n c212_126 rfl
theorem c212_127 : cod 212 127 = some (.iadd, 1) := cod_of b212 dX8_digest_127
theorem t212_127 {d : Nat} {h : Hp} {Q : Pst} {x y : Int32} {ls : List Value} {st : List Value} : T d 212 127 ls (.int y :: .int x :: st) h Q ↔ T d 212 128 ls (.int (x + y) :: st) h Q := T_iadd c212_127
theorem c212_128 : cod 212 128 = some (.iaload, 1) := cod_of b212 dX8_digest_128
theorem t212_128 {d : Nat} {h : Hp} {Q : Pst} {a : Nat} {i : Int32} {ls : List Value} {st : List Value} : T d 212 128 ls (.int i :: .ref a :: st) h Q ↔ aL (h.2.2 a) i (fun x => T d 212 129 ls (.int x :: st) h Q) := T_iaload c212_128
theorem c212_129 : cod 212 129 = some (.i2l, 1) := cod_of b212 dX8_digest_129
theorem t212_129 {d : Nat} {h : Hp} {Q : Pst} {x : Int32} {ls : List Value} {st : List Value} : T d 212 129 ls (.int x :: st) h Q ↔ T d 212 130 ls (.long x.toInt64 :: st) h Q := T_i2l c212_129
theorem c212_130 : cod 212 130 = some (.ladd, 1) := cod_of b212 dX8_digest_130
theorem t212_130 {d : Nat} {h : Hp} {Q : Pst} {x y : Int64} {ls : List Value} {st : List Value} : T d 212 130 ls (.long y :: .long x :: st) h Q ↔ T d 212 131 ls (.long (x + y) :: st) h Q := T_ladd c212_130
theorem c212_131 : cod 212 131 = some (.lmul, 1) := cod_of b212 dX8_digest_131
theorem t212_131 {d : Nat} {h : Hp} {Q : Pst} {x y : Int64} {ls : List Value} {st : List Value} : T d 212 131 ls (.long y :: .long x :: st) h Q ↔ T d 212 132 ls (.long (x * y) :: st) h Q := T_lmul c212_131
theorem c212_132 : cod 212 132 = some (.aload_n 0, 1) := cod_of b212 dX8_digest_132
theorem t212_132 {d : Nat} {h : Hp} {Q : Pst} {l1 l2 l3 : Value} {x : Nat} {st : List Value} : T d 212 132 [.ref x, l1, l2, l3] st h Q ↔ T d 212 133 [.ref x, l1, l2, l3] (.ref x :: st) h Q := T_aload_n c212_132 rfl
theorem c212_133 : cod 212 133 = some (.getfield 7, 3) := cod_of b212 dX8_digest_133
theorem t212_133 {d : Nat} {h : Hp} {Q : Pst} {a : Nat} {ls : List Value} {st : List Value} : T d 212 133 ls (.ref a :: st) h Q ↔ gF (h.2.2 a) 7 0 (fun v => T d 212 136 ls (v :: st) h Q) := T_getfieldR m212 c212_133 f8_7
theorem c212_136 : cod 212 136 = some (.bipush 30, 2) := cod_of b212 dX8_digest_136
theorem t212_136 {d : Nat} {h : Hp} {Q : Pst} {ls : List Value} {st : List Value} : T d 212 136 ls st h Q ↔ T d 212 138 ls (.int 30 :: st) h Q := T_bipushV c212_136 (by decide)
theorem c212_138 : cod 212 138 = some (.iload_n 3, 1) := cod_of b212 dX8_digest_138
theorem t212_138 {d : Nat} {h : Hp} {Q : Pst} {l0 l1 l2 : Value} {x : Int32} {st : List Value} : T d 212 138 [l0, l1, l2, .int x] st h Q ↔ T d 212 139 [l0, l1, l2, .int x] (.int x :: st) h Q := T_iload_n c212_138 rfl
theorem c212_139 : cod 212 139 = some (.iadd, 1) := cod_of b212 dX8_digest_139
theorem t212_139 {d : Nat} {h : Hp} {Q : Pst} {x y : Int32} {ls : List Value} {st : List Value} : T d 212 139 ls (.int y :: .int x :: st) h Q ↔ T d 212 140 ls (.int (x + y) :: st) h Q := T_iadd c212_139
theorem c212_140 : cod 212 140 = some (.iaload, 1) := cod_of b212 dX8_digest_140
theorem t212_140 {d : Nat} {h : Hp} {Q : Pst} {a : Nat} {i : Int32} {ls : List Value} {st : List Value} : T d 212 140 ls (.int i :: .ref a :: st) h Q ↔ aL (h.2.2 a) i (fun x => T d 212 141 ls (.int x :: st) h Q) := T_iaload c212_140
theorem c212_141 : cod 212 141 = some (.i2l, 1) := cod_of b212 dX8_digest_141
theorem t212_141 {d : Nat} {h : Hp} {Q : Pst} {x : Int32} {ls : List Value} {st : List Value} : T d 212 141 ls (.int x :: st) h Q ↔ T d 212 142 ls (.long x.toInt64 :: st) h Q := T_i2l c212_141
theorem c212_142 : cod 212 142 = some (.ladd, 1) := cod_of b212 dX8_digest_142
theorem t212_142 {d : Nat} {h : Hp} {Q : Pst} {x y : Int64} {ls : List Value} {st : List Value} : T d 212 142 ls (.long y :: .long x :: st) h Q ↔ T d 212 143 ls (.long (x + y) :: st) h Q := T_ladd c212_142
theorem c212_143 : cod 212 143 = some (.lmul, 1) := cod_of b212 dX8_digest_143
theorem t212_143 {d : Nat} {h : Hp} {Q : Pst} {x y : Int64} {ls : List Value} {st : List Value} : T d 212 143 ls (.long y :: .long x :: st) h Q ↔ T d 212 144 ls (.long (x * y) :: st) h Q := T_lmul c212_143
theorem c212_144 : cod 212 144 = some (.aload_n 0, 1) := cod_of b212 dX8_digest_144
theorem t212_144 {d : Nat} {h : Hp} {Q : Pst} {l1 l2 l3 : Value} {x : Nat} {st : List Value} : T d 212 144 [.ref x, l1, l2, l3] st h Q ↔ T d 212 145 [.ref x, l1, l2, l3] (.ref x :: st) h Q := T_aload_n c212_144 rfl
theorem c212_145 : cod 212 145 = some (.getfield 7, 3) := cod_of b212 dX8_digest_145
theorem t212_145 {d : Nat} {h : Hp} {Q : Pst} {a : Nat} {ls : List Value} {st : List Value} : T d 212 145 ls (.ref a :: st) h Q ↔ gF (h.2.2 a) 7 0 (fun v => T d 212 148 ls (v :: st) h Q) := T_getfieldR m212 c212_145 f8_7
theorem c212_148 : cod 212 148 = some (.bipush 6, 2) := cod_of b212 dX8_digest_148
theorem t212_148 {d : Nat} {h : Hp} {Q : Pst} {ls : List Value} {st : List Value} : T d 212 148 ls st h Q ↔ T d 212 150 ls (.int 6 :: st) h Q := T_bipushV c212_148 (by decide)
theorem c212_150 : cod 212 150 = some (.iload_n 3, 1) := cod_of b212 dX8_digest_150
theorem t212_150 {d : Nat} {h : Hp} {Q : Pst} {l0 l1 l2 : Value} {x : Int32} {st : List Value} : T d 212 150 [l0, l1, l2, .int x] st h Q ↔ T d 212 151 [l0, l1, l2, .int x] (.int x :: st) h Q := T_iload_n c212_150 rfl
theorem c212_151 : cod 212 151 = some (.iadd, 1) := cod_of b212 dX8_digest_151
theorem t212_151 {d : Nat} {h : Hp} {Q : Pst} {x y : Int32} {ls : List Value} {st : List Value} : T d 212 151 ls (.int y :: .int x :: st) h Q ↔ T d 212 152 ls (.int (x + y) :: st) h Q := T_iadd c212_151
theorem c212_152 : cod 212 152 = some (.iaload, 1) := cod_of b212 dX8_digest_152
theorem t212_152 {d : Nat} {h : Hp} {Q : Pst} {a : Nat} {i : Int32} {ls : List Value} {st : List Value} : T d 212 152 ls (.int i :: .ref a :: st) h Q ↔ aL (h.2.2 a) i (fun x => T d 212 153 ls (.int x :: st) h Q) := T_iaload c212_152
theorem c212_153 : cod 212 153 = some (.i2l, 1) := cod_of b212 dX8_digest_153
theorem t212_153 {d : Nat} {h : Hp} {Q : Pst} {x : Int32} {ls : List Value} {st : List Value} : T d 212 153 ls (.int x :: st) h Q ↔ T d 212 154 ls (.long x.toInt64 :: st) h Q := T_i2l c212_153
theorem c212_154 : cod 212 154 = some (.ladd, 1) := cod_of b212 dX8_digest_154
theorem t212_154 {d : Nat} {h : Hp} {Q : Pst} {x y : Int64} {ls : List Value} {st : List Value} : T d 212 154 ls (.long y :: .long x :: st) h Q ↔ T d 212 155 ls (.long (x + y) :: st) h Q := T_ladd c212_154
theorem c212_155 : cod 212 155 = some (.lstore_n 1, 1) := cod_of b212 dX8_digest_155
theorem t212_155 {d : Nat} {h : Hp} {Q : Pst} {l0 l1 l2 l3 : Value} {x : Int64} {st : List Value} : T d 212 155 [l0, l1, l2, l3] (.long x :: st) h Q ↔ T d 212 156 [kil l0, .long x, un, l3] st h Q := T_lstore_n c212_155 (Nat.le_of_ble_eq_true rfl)
theorem c212_156 : cod 212 156 = some (.iinc 3 1, 3) := cod_of b212 dX8_digest_156
theorem t212_156 {d : Nat} {h : Hp} {Q : Pst} {l0 l1 l2 : Value} {x : Int32} {st : List Value} : T d 212 156 [l0, l1, l2, .int x] st h Q ↔ T d 212 159 [l0, l1, kil l2, .int (x + 1)] st h Q := T_iincV c212_156 rfl (Nat.le_of_ble_eq_true rfl) (by decide) rfl
theorem c212_159 : cod 212 159 = some (.goto (-61), 3) := cod_of b212 dX8_digest_159
theorem t212_159 {d : Nat} {h : Hp} {Q : Pst} {ls : List Value} {st : List Value} : T d 212 159 ls st h Q ↔ T d 212 98 ls st h Q := T_goto c212_159 (by decide)
theorem c212_162 : cod 212 162 = some (.aload_n 0, 1) := cod_of b212 dX8_digest_162
theorem t212_162 {d : Nat} {h : Hp} {Q : Pst} {l1 l2 l3 : Value} {x : Nat} {st : List Value} : T d 212 162 [.ref x, l1, l2, l3] st h Q ↔ T d 212 163 [.ref x, l1, l2, l3] (.ref x :: st) h Q := T_aload_n c212_162 rfl
theorem c212_163 : cod 212 163 = some (.lload_n 1, 1) := cod_of b212 dX8_digest_163
theorem t212_163 {d : Nat} {h : Hp} {Q : Pst} {l0 l2 l3 : Value} {x : Int64} {st : List Value} : T d 212 163 [l0, .long x, l2, l3] st h Q ↔ T d 212 164 [l0, .long x, l2, l3] (.long x :: st) h Q := T_lload_n c212_163 rfl
theorem c212_164 : cod 212 164 = some (.bipush 35, 2) := cod_of b212 dX8_digest_164
theorem t212_164 {d : Nat} {h : Hp} {Q : Pst} {ls : List Value} {st : List Value} : T d 212 164 ls st h Q ↔ T d 212 166 ls (.int 35 :: st) h Q := T_bipushV c212_164 (by decide)
theorem c212_166 : cod 212 166 = some (.iconst 4, 1) := cod_of b212 dX8_digest_166
theorem t212_166 {d : Nat} {h : Hp} {Q : Pst} {ls : List Value} {st : List Value} : T d 212 166 ls st h Q ↔ T d 212 167 ls (.int 4 :: st) h Q := T_iconstV c212_166 (by decide)
theorem c212_167 : cod 212 167 = some (.aload_n 0, 1) := cod_of b212 dX8_digest_167
theorem t212_167 {d : Nat} {h : Hp} {Q : Pst} {l1 l2 l3 : Value} {x : Nat} {st : List Value} : T d 212 167 [.ref x, l1, l2, l3] st h Q ↔ T d 212 168 [.ref x, l1, l2, l3] (.ref x :: st) h Q := T_aload_n c212_167 rfl
theorem c212_168 : cod 212 168 = some (.getfield 7, 3) := cod_of b212 dX8_digest_168
theorem t212_168 {d : Nat} {h : Hp} {Q : Pst} {a : Nat} {ls : List Value} {st : List Value} : T d 212 168 ls (.ref a :: st) h Q ↔ gF (h.2.2 a) 7 0 (fun v => T d 212 171 ls (v :: st) h Q) := T_getfieldR m212 c212_168 f8_7
theorem c212_171 : cod 212 171 = some (.bipush 34, 2) := cod_of b212 dX8_digest_171
theorem t212_171 {d : Nat} {h : Hp} {Q : Pst} {ls : List Value} {st : List Value} : T d 212 171 ls st h Q ↔ T d 212 173 ls (.int 34 :: st) h Q := T_bipushV c212_171 (by decide)
theorem c212_173 : cod 212 173 = some (.iaload, 1) := cod_of b212 dX8_digest_173
theorem t212_173 {d : Nat} {h : Hp} {Q : Pst} {a : Nat} {i : Int32} {ls : List Value} {st : List Value} : T d 212 173 ls (.int i :: .ref a :: st) h Q ↔ aL (h.2.2 a) i (fun x => T d 212 174 ls (.int x :: st) h Q) := T_iaload c212_173
theorem c212_174 : cod 212 174 = some (.imul, 1) := cod_of b212 dX8_digest_174
theorem t212_174 {d : Nat} {h : Hp} {Q : Pst} {x y : Int32} {ls : List Value} {st : List Value} : T d 212 174 ls (.int y :: .int x :: st) h Q ↔ T d 212 175 ls (.int (x * y) :: st) h Q := T_imul c212_174
theorem c212_175 : cod 212 175 = some (.invokevirtual 240, 3) := cod_of b212 dX8_digest_175
theorem t212_175 {d : Nat} {h : Hp} {Q : Pst} {a0 : Int64} {a1 a2 : Int32} {a : Nat} {ls : List Value} (ho : isO (h.2.2 a) 7) : T (d + 1) 212 175 ls [.int a2, .int a1, .long a0, .ref a] h Q ↔ T d 211 0 [.ref a, .long a0, un, .int a1, .int a2, un, un, un] [] h (fun x h2 => T (d + 1) 212 178 ls (rl x []) h2 Q) := T_virtualR (as := [.long a0, .int a1, .int a2]) (r := []) m212 m211 c212_175 k8_240  rfl (by decide) rfl (by simp [wrd, Value.category]) (by simp [stk, Value.category]) rfl (by decide +kernel) ho
theorem c212_178 : cod 212 178 = some (.lstore_n 1, 1) := cod_of b212 dX8_digest_178
theorem t212_178 {d : Nat} {h : Hp} {Q : Pst} {l0 l1 l2 l3 : Value} {x : Int64} {st : List Value} : T d 212 178 [l0, l1, l2, l3] (.long x :: st) h Q ↔ T d 212 179 [kil l0, .long x, un, l3] st h Q := T_lstore_n c212_178 (Nat.le_of_ble_eq_true rfl)
theorem c212_179 : cod 212 179 = some (.aload_n 0, 1) := cod_of b212 dX8_digest_179
theorem t212_179 {d : Nat} {h : Hp} {Q : Pst} {l1 l2 l3 : Value} {x : Nat} {st : List Value} : T d 212 179 [.ref x, l1, l2, l3] st h Q ↔ T d 212 180 [.ref x, l1, l2, l3] (.ref x :: st) h Q := T_aload_n c212_179 rfl
theorem c212_180 : cod 212 180 = some (.lload_n 1, 1) := cod_of b212 dX8_digest_180
theorem t212_180 {d : Nat} {h : Hp} {Q : Pst} {l0 l2 l3 : Value} {x : Int64} {st : List Value} : T d 212 180 [l0, .long x, l2, l3] st h Q ↔ T d 212 181 [l0, .long x, l2, l3] (.long x :: st) h Q := T_lload_n c212_180 rfl
theorem c212_181 : cod 212 181 = some (.bipush 56, 2) := cod_of b212 dX8_digest_181
theorem t212_181 {d : Nat} {h : Hp} {Q : Pst} {ls : List Value} {st : List Value} : T d 212 181 ls st h Q ↔ T d 212 183 ls (.int 56 :: st) h Q := T_bipushV c212_181 (by decide)
theorem c212_183 : cod 212 183 = some (.iconst 4, 1) := cod_of b212 dX8_digest_183
theorem t212_183 {d : Nat} {h : Hp} {Q : Pst} {ls : List Value} {st : List Value} : T d 212 183 ls st h Q ↔ T d 212 184 ls (.int 4 :: st) h Q := T_iconstV c212_183 (by decide)
theorem c212_184 : cod 212 184 = some (.aload_n 0, 1) := cod_of b212 dX8_digest_184
theorem t212_184 {d : Nat} {h : Hp} {Q : Pst} {l1 l2 l3 : Value} {x : Nat} {st : List Value} : T d 212 184 [.ref x, l1, l2, l3] st h Q ↔ T d 212 185 [.ref x, l1, l2, l3] (.ref x :: st) h Q := T_aload_n c212_184 rfl
theorem c212_185 : cod 212 185 = some (.getfield 7, 3) := cod_of b212 dX8_digest_185
theorem t212_185 {d : Nat} {h : Hp} {Q : Pst} {a : Nat} {ls : List Value} {st : List Value} : T d 212 185 ls (.ref a :: st) h Q ↔ gF (h.2.2 a) 7 0 (fun v => T d 212 188 ls (v :: st) h Q) := T_getfieldR m212 c212_185 f8_7
theorem c212_188 : cod 212 188 = some (.bipush 55, 2) := cod_of b212 dX8_digest_188
theorem t212_188 {d : Nat} {h : Hp} {Q : Pst} {ls : List Value} {st : List Value} : T d 212 188 ls st h Q ↔ T d 212 190 ls (.int 55 :: st) h Q := T_bipushV c212_188 (by decide)
theorem c212_190 : cod 212 190 = some (.iaload, 1) := cod_of b212 dX8_digest_190
theorem t212_190 {d : Nat} {h : Hp} {Q : Pst} {a : Nat} {i : Int32} {ls : List Value} {st : List Value} : T d 212 190 ls (.int i :: .ref a :: st) h Q ↔ aL (h.2.2 a) i (fun x => T d 212 191 ls (.int x :: st) h Q) := T_iaload c212_190
theorem c212_191 : cod 212 191 = some (.imul, 1) := cod_of b212 dX8_digest_191
theorem t212_191 {d : Nat} {h : Hp} {Q : Pst} {x y : Int32} {ls : List Value} {st : List Value} : T d 212 191 ls (.int y :: .int x :: st) h Q ↔ T d 212 192 ls (.int (x * y) :: st) h Q := T_imul c212_191
theorem c212_192 : cod 212 192 = some (.invokevirtual 240, 3) := cod_of b212 dX8_digest_192
theorem t212_192 {d : Nat} {h : Hp} {Q : Pst} {a0 : Int64} {a1 a2 : Int32} {a : Nat} {ls : List Value} (ho : isO (h.2.2 a) 7) : T (d + 1) 212 192 ls [.int a2, .int a1, .long a0, .ref a] h Q ↔ T d 211 0 [.ref a, .long a0, un, .int a1, .int a2, un, un, un] [] h (fun x h2 => T (d + 1) 212 195 ls (rl x []) h2 Q) := T_virtualR (as := [.long a0, .int a1, .int a2]) (r := []) m212 m211 c212_192 k8_240  rfl (by decide) rfl (by simp [wrd, Value.category]) (by simp [stk, Value.category]) rfl (by decide +kernel) ho
theorem c212_195 : cod 212 195 = some (.lstore_n 1, 1) := cod_of b212 dX8_digest_195
theorem t212_195 {d : Nat} {h : Hp} {Q : Pst} {l0 l1 l2 l3 : Value} {x : Int64} {st : List Value} : T d 212 195 [l0, l1, l2, l3] (.long x :: st) h Q ↔ T d 212 196 [kil l0, .long x, un, l3] st h Q := T_lstore_n c212_195 (Nat.le_of_ble_eq_true rfl)
theorem c212_196 : cod 212 196 = some (.aload_n 0, 1) := cod_of b212 dX8_digest_196
theorem t212_196 {d : Nat} {h : Hp} {Q : Pst} {l1 l2 l3 : Value} {x : Nat} {st : List Value} : T d 212 196 [.ref x, l1, l2, l3] st h Q ↔ T d 212 197 [.ref x, l1, l2, l3] (.ref x :: st) h Q := T_aload_n c212_196 rfl
theorem c212_197 : cod 212 197 = some (.lload_n 1, 1) := cod_of b212 dX8_digest_197
theorem t212_197 {d : Nat} {h : Hp} {Q : Pst} {l0 l2 l3 : Value} {x : Int64} {st : List Value} : T d 212 197 [l0, .long x, l2, l3] st h Q ↔ T d 212 198 [l0, .long x, l2, l3] (.long x :: st) h Q := T_lload_n c212_197 rfl
theorem c212_198 : cod 212 198 = some (.bipush 81, 2) := cod_of b212 dX8_digest_198
theorem t212_198 {d : Nat} {h : Hp} {Q : Pst} {ls : List Value} {st : List Value} : T d 212 198 ls st h Q ↔ T d 212 200 ls (.int 81 :: st) h Q := T_bipushV c212_198 (by decide)
theorem c212_200 : cod 212 200 = some (.iconst 5, 1) := cod_of b212 dX8_digest_200
theorem t212_200 {d : Nat} {h : Hp} {Q : Pst} {ls : List Value} {st : List Value} : T d 212 200 ls st h Q ↔ T d 212 201 ls (.int 5 :: st) h Q := T_iconstV c212_200 (by decide)
theorem c212_201 : cod 212 201 = some (.aload_n 0, 1) := cod_of b212 dX8_digest_201
theorem t212_201 {d : Nat} {h : Hp} {Q : Pst} {l1 l2 l3 : Value} {x : Nat} {st : List Value} : T d 212 201 [.ref x, l1, l2, l3] st h Q ↔ T d 212 202 [.ref x, l1, l2, l3] (.ref x :: st) h Q := T_aload_n c212_201 rfl
theorem c212_202 : cod 212 202 = some (.getfield 7, 3) := cod_of b212 dX8_digest_202
theorem t212_202 {d : Nat} {h : Hp} {Q : Pst} {a : Nat} {ls : List Value} {st : List Value} : T d 212 202 ls (.ref a :: st) h Q ↔ gF (h.2.2 a) 7 0 (fun v => T d 212 205 ls (v :: st) h Q) := T_getfieldR m212 c212_202 f8_7
theorem c212_205 : cod 212 205 = some (.bipush 80, 2) := cod_of b212 dX8_digest_205
theorem t212_205 {d : Nat} {h : Hp} {Q : Pst} {ls : List Value} {st : List Value} : T d 212 205 ls st h Q ↔ T d 212 207 ls (.int 80 :: st) h Q := T_bipushV c212_205 (by decide)
theorem c212_207 : cod 212 207 = some (.iaload, 1) := cod_of b212 dX8_digest_207
theorem t212_207 {d : Nat} {h : Hp} {Q : Pst} {a : Nat} {i : Int32} {ls : List Value} {st : List Value} : T d 212 207 ls (.int i :: .ref a :: st) h Q ↔ aL (h.2.2 a) i (fun x => T d 212 208 ls (.int x :: st) h Q) := T_iaload c212_207
theorem c212_208 : cod 212 208 = some (.imul, 1) := cod_of b212 dX8_digest_208
theorem t212_208 {d : Nat} {h : Hp} {Q : Pst} {x y : Int32} {ls : List Value} {st : List Value} : T d 212 208 ls (.int y :: .int x :: st) h Q ↔ T d 212 209 ls (.int (x * y) :: st) h Q := T_imul c212_208
theorem c212_209 : cod 212 209 = some (.invokevirtual 240, 3) := cod_of b212 dX8_digest_209
theorem t212_209 {d : Nat} {h : Hp} {Q : Pst} {a0 : Int64} {a1 a2 : Int32} {a : Nat} {ls : List Value} (ho : isO (h.2.2 a) 7) : T (d + 1) 212 209 ls [.int a2, .int a1, .long a0, .ref a] h Q ↔ T d 211 0 [.ref a, .long a0, un, .int a1, .int a2, un, un, un] [] h (fun x h2 => T (d + 1) 212 212 ls (rl x []) h2 Q) := T_virtualR (as := [.long a0, .int a1, .int a2]) (r := []) m212 m211 c212_209 k8_240  rfl (by decide) rfl (by simp [wrd, Value.category]) (by simp [stk, Value.category]) rfl (by decide +kernel) ho
theorem c212_212 : cod 212 212 = some (.lstore_n 1, 1) := cod_of b212 dX8_digest_212
theorem t212_212 {d : Nat} {h : Hp} {Q : Pst} {l0 l1 l2 l3 : Value} {x : Int64} {st : List Value} : T d 212 212 [l0, l1, l2, l3] (.long x :: st) h Q ↔ T d 212 213 [kil l0, .long x, un, l3] st h Q := T_lstore_n c212_212 (Nat.le_of_ble_eq_true rfl)
theorem c212_213 : cod 212 213 = some (.ldc2_w 236, 3) := cod_of b212 dX8_digest_213
theorem t212_213 {d : Nat} {h : Hp} {Q : Pst} {ls : List Value} {st : List Value} : T d 212 213 ls st h Q ↔ T d 212 216 ls (.long 31 :: st) h Q := T_ldc2_wR m212 c212_213 (by decide +kernel)
theorem c212_216 : cod 212 216 = some (.ldc2_w 236, 3) := cod_of b212 dX8_digest_216
theorem t212_216 {d : Nat} {h : Hp} {Q : Pst} {ls : List Value} {st : List Value} : T d 212 216 ls st h Q ↔ T d 212 219 ls (.long 31 :: st) h Q := T_ldc2_wR m212 c212_216 (by decide +kernel)
theorem c212_219 : cod 212 219 = some (.lload_n 1, 1) := cod_of b212 dX8_digest_219
theorem t212_219 {d : Nat} {h : Hp} {Q : Pst} {l0 l2 l3 : Value} {x : Int64} {st : List Value} : T d 212 219 [l0, .long x, l2, l3] st h Q ↔ T d 212 220 [l0, .long x, l2, l3] (.long x :: st) h Q := T_lload_n c212_219 rfl
theorem c212_220 : cod 212 220 = some (.lmul, 1) := cod_of b212 dX8_digest_220
theorem t212_220 {d : Nat} {h : Hp} {Q : Pst} {x y : Int64} {ls : List Value} {st : List Value} : T d 212 220 ls (.long y :: .long x :: st) h Q ↔ T d 212 221 ls (.long (x * y) :: st) h Q := T_lmul c212_220
theorem c212_221 : cod 212 221 = some (.aload_n 0, 1) := cod_of b212 dX8_digest_221
theorem t212_221 {d : Nat} {h : Hp} {Q : Pst} {l1 l2 l3 : Value} {x : Nat} {st : List Value} : T d 212 221 [.ref x, l1, l2, l3] st h Q ↔ T d 212 222 [.ref x, l1, l2, l3] (.ref x :: st) h Q := T_aload_n c212_221 rfl
theorem c212_222 : cod 212 222 = some (.getfield 206, 3) := cod_of b212 dX8_digest_222
theorem t212_222 {d : Nat} {h : Hp} {Q : Pst} {a : Nat} {ls : List Value} {st : List Value} : T d 212 222 ls (.ref a :: st) h Q ↔ gF (h.2.2 a) 7 3 (fun v => T d 212 225 ls (v :: st) h Q) := T_getfieldR m212 c212_222 f8_206
theorem c212_225 : cod 212 225 = some (.ladd, 1) := cod_of b212 dX8_digest_225
theorem t212_225 {d : Nat} {h : Hp} {Q : Pst} {x y : Int64} {ls : List Value} {st : List Value} : T d 212 225 ls (.long y :: .long x :: st) h Q ↔ T d 212 226 ls (.long (x + y) :: st) h Q := T_ladd c212_225
theorem c212_226 : cod 212 226 = some (.lmul, 1) := cod_of b212 dX8_digest_226
theorem t212_226 {d : Nat} {h : Hp} {Q : Pst} {x y : Int64} {ls : List Value} {st : List Value} : T d 212 226 ls (.long y :: .long x :: st) h Q ↔ T d 212 227 ls (.long (x * y) :: st) h Q := T_lmul c212_226
theorem c212_227 : cod 212 227 = some (.aload_n 0, 1) := cod_of b212 dX8_digest_227
theorem t212_227 {d : Nat} {h : Hp} {Q : Pst} {l1 l2 l3 : Value} {x : Nat} {st : List Value} : T d 212 227 [.ref x, l1, l2, l3] st h Q ↔ T d 212 228 [.ref x, l1, l2, l3] (.ref x :: st) h Q := T_aload_n c212_227 rfl
theorem c212_228 : cod 212 228 = some (.getfield 20, 3) := cod_of b212 dX8_digest_228
theorem t212_228 {d : Nat} {h : Hp} {Q : Pst} {a : Nat} {ls : List Value} {st : List Value} : T d 212 228 ls (.ref a :: st) h Q ↔ gF (h.2.2 a) 7 4 (fun v => T d 212 231 ls (v :: st) h Q) := T_getfieldR m212 c212_228 f8_20
theorem c212_231 : cod 212 231 = some (.ladd, 1) := cod_of b212 dX8_digest_231
theorem t212_231 {d : Nat} {h : Hp} {Q : Pst} {x y : Int64} {ls : List Value} {st : List Value} : T d 212 231 ls (.long y :: .long x :: st) h Q ↔ T d 212 232 ls (.long (x + y) :: st) h Q := T_ladd c212_231
theorem c212_232 : cod 212 232 = some (.lreturn, 1) := cod_of b212 dX8_digest_232
theorem t212_232 {d : Nat} {h : Hp} {Q : Pst} {x : Int64} {ls : List Value} : T d 212 232 ls [.long x] h Q ↔ Q (some (.long x)) h := T_lretR m212 c212_232 rfl
theorem b213 : (mR 213).2.2.1 = cJ6_bitCount_0f7a4 := by rw [m213]
theorem c213_0 : cod 213 0 = some (.iload_n 0, 1) := cod_of b213 dJ6_bitCount_0f7a4_0
theorem t213_0 {d : Nat} {h : Hp} {Q : Pst} {x : Int32} {st : List Value} : T d 213 0 [.int x] st h Q ↔ T d 213 1 [.int x] (.int x :: st) h Q := T_iload_n c213_0 rfl
theorem c213_1 : cod 213 1 = some (.iload_n 0, 1) := cod_of b213 dJ6_bitCount_0f7a4_1
theorem t213_1 {d : Nat} {h : Hp} {Q : Pst} {x : Int32} {st : List Value} : T d 213 1 [.int x] st h Q ↔ T d 213 2 [.int x] (.int x :: st) h Q := T_iload_n c213_1 rfl
theorem c213_2 : cod 213 2 = some (.iconst 1, 1) := cod_of b213 dJ6_bitCount_0f7a4_2
theorem t213_2 {d : Nat} {h : Hp} {Q : Pst} {ls : List Value} {st : List Value} : T d 213 2 ls st h Q ↔ T d 213 3 ls (.int 1 :: st) h Q := T_iconstV c213_2 (by decide)
theorem c213_3 : cod 213 3 = some (.iushr, 1) := cod_of b213 dJ6_bitCount_0f7a4_3
theorem t213_3 {d : Nat} {h : Hp} {Q : Pst} {x y : Int32} {ls : List Value} {st : List Value} : T d 213 3 ls (.int y :: .int x :: st) h Q ↔ T d 213 4 ls (.int ((x.toUInt32 >>> (y.toUInt32 &&& Int32.toUInt32 31)).toInt32) :: st) h Q := T_iushr c213_3
theorem c213_4 : cod 213 4 = some (.ldc_w 265, 3) := cod_of b213 dJ6_bitCount_0f7a4_4
theorem t213_4 {d : Nat} {h : Hp} {Q : Pst} {ls : List Value} {st : List Value} : T d 213 4 ls st h Q ↔ T d 213 7 ls (.int 1431655765 :: st) h Q := T_ldc_wR m213 c213_4 (by decide +kernel)
theorem c213_7 : cod 213 7 = some (.iand, 1) := cod_of b213 dJ6_bitCount_0f7a4_7
theorem t213_7 {d : Nat} {h : Hp} {Q : Pst} {x y : Int32} {ls : List Value} {st : List Value} : T d 213 7 ls (.int y :: .int x :: st) h Q ↔ T d 213 8 ls (.int (x &&& y) :: st) h Q := T_iand c213_7
theorem c213_8 : cod 213 8 = some (.isub, 1) := cod_of b213 dJ6_bitCount_0f7a4_8
theorem t213_8 {d : Nat} {h : Hp} {Q : Pst} {x y : Int32} {ls : List Value} {st : List Value} : T d 213 8 ls (.int y :: .int x :: st) h Q ↔ T d 213 9 ls (.int (x - y) :: st) h Q := T_isub c213_8
theorem c213_9 : cod 213 9 = some (.istore_n 0, 1) := cod_of b213 dJ6_bitCount_0f7a4_9
theorem t213_9 {d : Nat} {h : Hp} {Q : Pst} {l0 : Value} {x : Int32} {st : List Value} : T d 213 9 [l0] (.int x :: st) h Q ↔ T d 213 10 [.int x] st h Q := T_istore_n c213_9 (Nat.le_of_ble_eq_true rfl)
theorem c213_10 : cod 213 10 = some (.iload_n 0, 1) := cod_of b213 dJ6_bitCount_0f7a4_10
theorem t213_10 {d : Nat} {h : Hp} {Q : Pst} {x : Int32} {st : List Value} : T d 213 10 [.int x] st h Q ↔ T d 213 11 [.int x] (.int x :: st) h Q := T_iload_n c213_10 rfl
theorem c213_11 : cod 213 11 = some (.ldc_w 266, 3) := cod_of b213 dJ6_bitCount_0f7a4_11
theorem t213_11 {d : Nat} {h : Hp} {Q : Pst} {ls : List Value} {st : List Value} : T d 213 11 ls st h Q ↔ T d 213 14 ls (.int 858993459 :: st) h Q := T_ldc_wR m213 c213_11 (by decide +kernel)
theorem c213_14 : cod 213 14 = some (.iand, 1) := cod_of b213 dJ6_bitCount_0f7a4_14
theorem t213_14 {d : Nat} {h : Hp} {Q : Pst} {x y : Int32} {ls : List Value} {st : List Value} : T d 213 14 ls (.int y :: .int x :: st) h Q ↔ T d 213 15 ls (.int (x &&& y) :: st) h Q := T_iand c213_14
theorem c213_15 : cod 213 15 = some (.iload_n 0, 1) := cod_of b213 dJ6_bitCount_0f7a4_15
theorem t213_15 {d : Nat} {h : Hp} {Q : Pst} {x : Int32} {st : List Value} : T d 213 15 [.int x] st h Q ↔ T d 213 16 [.int x] (.int x :: st) h Q := T_iload_n c213_15 rfl
theorem c213_16 : cod 213 16 = some (.iconst 2, 1) := cod_of b213 dJ6_bitCount_0f7a4_16
theorem t213_16 {d : Nat} {h : Hp} {Q : Pst} {ls : List Value} {st : List Value} : T d 213 16 ls st h Q ↔ T d 213 17 ls (.int 2 :: st) h Q := T_iconstV c213_16 (by decide)
theorem c213_17 : cod 213 17 = some (.iushr, 1) := cod_of b213 dJ6_bitCount_0f7a4_17
theorem t213_17 {d : Nat} {h : Hp} {Q : Pst} {x y : Int32} {ls : List Value} {st : List Value} : T d 213 17 ls (.int y :: .int x :: st) h Q ↔ T d 213 18 ls (.int ((x.toUInt32 >>> (y.toUInt32 &&& Int32.toUInt32 31)).toInt32) :: st) h Q := T_iushr c213_17
theorem c213_18 : cod 213 18 = some (.ldc_w 266, 3) := cod_of b213 dJ6_bitCount_0f7a4_18
theorem t213_18 {d : Nat} {h : Hp} {Q : Pst} {ls : List Value} {st : List Value} : T d 213 18 ls st h Q ↔ T d 213 21 ls (.int 858993459 :: st) h Q := T_ldc_wR m213 c213_18 (by decide +kernel)
theorem c213_21 : cod 213 21 = some (.iand, 1) := cod_of b213 dJ6_bitCount_0f7a4_21
theorem t213_21 {d : Nat} {h : Hp} {Q : Pst} {x y : Int32} {ls : List Value} {st : List Value} : T d 213 21 ls (.int y :: .int x :: st) h Q ↔ T d 213 22 ls (.int (x &&& y) :: st) h Q := T_iand c213_21
theorem c213_22 : cod 213 22 = some (.iadd, 1) := cod_of b213 dJ6_bitCount_0f7a4_22
theorem t213_22 {d : Nat} {h : Hp} {Q : Pst} {x y : Int32} {ls : List Value} {st : List Value} : T d 213 22 ls (.int y :: .int x :: st) h Q ↔ T d 213 23 ls (.int (x + y) :: st) h Q := T_iadd c213_22
theorem c213_23 : cod 213 23 = some (.istore_n 0, 1) := cod_of b213 dJ6_bitCount_0f7a4_23
theorem t213_23 {d : Nat} {h : Hp} {Q : Pst} {l0 : Value} {x : Int32} {st : List Value} : T d 213 23 [l0] (.int x :: st) h Q ↔ T d 213 24 [.int x] st h Q := T_istore_n c213_23 (Nat.le_of_ble_eq_true rfl)
theorem c213_24 : cod 213 24 = some (.iload_n 0, 1) := cod_of b213 dJ6_bitCount_0f7a4_24
theorem t213_24 {d : Nat} {h : Hp} {Q : Pst} {x : Int32} {st : List Value} : T d 213 24 [.int x] st h Q ↔ T d 213 25 [.int x] (.int x :: st) h Q := T_iload_n c213_24 rfl
theorem c213_25 : cod 213 25 = some (.iload_n 0, 1) := cod_of b213 dJ6_bitCount_0f7a4_25
theorem t213_25 {d : Nat} {h : Hp} {Q : Pst} {x : Int32} {st : List Value} : T d 213 25 [.int x] st h Q ↔ T d 213 26 [.int x] (.int x :: st) h Q := T_iload_n c213_25 rfl
theorem c213_26 : cod 213 26 = some (.iconst 4, 1) := cod_of b213 dJ6_bitCount_0f7a4_26
theorem t213_26 {d : Nat} {h : Hp} {Q : Pst} {ls : List Value} {st : List Value} : T d 213 26 ls st h Q ↔ T d 213 27 ls (.int 4 :: st) h Q := T_iconstV c213_26 (by decide)
theorem c213_27 : cod 213 27 = some (.iushr, 1) := cod_of b213 dJ6_bitCount_0f7a4_27
theorem t213_27 {d : Nat} {h : Hp} {Q : Pst} {x y : Int32} {ls : List Value} {st : List Value} : T d 213 27 ls (.int y :: .int x :: st) h Q ↔ T d 213 28 ls (.int ((x.toUInt32 >>> (y.toUInt32 &&& Int32.toUInt32 31)).toInt32) :: st) h Q := T_iushr c213_27
theorem c213_28 : cod 213 28 = some (.iadd, 1) := cod_of b213 dJ6_bitCount_0f7a4_28
theorem t213_28 {d : Nat} {h : Hp} {Q : Pst} {x y : Int32} {ls : List Value} {st : List Value} : T d 213 28 ls (.int y :: .int x :: st) h Q ↔ T d 213 29 ls (.int (x + y) :: st) h Q := T_iadd c213_28
theorem c213_29 : cod 213 29 = some (.ldc_w 267, 3) := cod_of b213 dJ6_bitCount_0f7a4_29
theorem t213_29 {d : Nat} {h : Hp} {Q : Pst} {ls : List Value} {st : List Value} : T d 213 29 ls st h Q ↔ T d 213 32 ls (.int 252645135 :: st) h Q := T_ldc_wR m213 c213_29 (by decide +kernel)
theorem c213_32 : cod 213 32 = some (.iand, 1) := cod_of b213 dJ6_bitCount_0f7a4_32
theorem t213_32 {d : Nat} {h : Hp} {Q : Pst} {x y : Int32} {ls : List Value} {st : List Value} : T d 213 32 ls (.int y :: .int x :: st) h Q ↔ T d 213 33 ls (.int (x &&& y) :: st) h Q := T_iand c213_32
theorem c213_33 : cod 213 33 = some (.istore_n 0, 1) := cod_of b213 dJ6_bitCount_0f7a4_33
theorem t213_33 {d : Nat} {h : Hp} {Q : Pst} {l0 : Value} {x : Int32} {st : List Value} : T d 213 33 [l0] (.int x :: st) h Q ↔ T d 213 34 [.int x] st h Q := T_istore_n c213_33 (Nat.le_of_ble_eq_true rfl)
theorem c213_34 : cod 213 34 = some (.iload_n 0, 1) := cod_of b213 dJ6_bitCount_0f7a4_34
theorem t213_34 {d : Nat} {h : Hp} {Q : Pst} {x : Int32} {st : List Value} : T d 213 34 [.int x] st h Q ↔ T d 213 35 [.int x] (.int x :: st) h Q := T_iload_n c213_34 rfl
theorem c213_35 : cod 213 35 = some (.iload_n 0, 1) := cod_of b213 dJ6_bitCount_0f7a4_35
theorem t213_35 {d : Nat} {h : Hp} {Q : Pst} {x : Int32} {st : List Value} : T d 213 35 [.int x] st h Q ↔ T d 213 36 [.int x] (.int x :: st) h Q := T_iload_n c213_35 rfl
theorem c213_36 : cod 213 36 = some (.bipush 8, 2) := cod_of b213 dJ6_bitCount_0f7a4_36
theorem t213_36 {d : Nat} {h : Hp} {Q : Pst} {ls : List Value} {st : List Value} : T d 213 36 ls st h Q ↔ T d 213 38 ls (.int 8 :: st) h Q := T_bipushV c213_36 (by decide)
theorem c213_38 : cod 213 38 = some (.iushr, 1) := cod_of b213 dJ6_bitCount_0f7a4_38
theorem t213_38 {d : Nat} {h : Hp} {Q : Pst} {x y : Int32} {ls : List Value} {st : List Value} : T d 213 38 ls (.int y :: .int x :: st) h Q ↔ T d 213 39 ls (.int ((x.toUInt32 >>> (y.toUInt32 &&& Int32.toUInt32 31)).toInt32) :: st) h Q := T_iushr c213_38
theorem c213_39 : cod 213 39 = some (.iadd, 1) := cod_of b213 dJ6_bitCount_0f7a4_39
theorem t213_39 {d : Nat} {h : Hp} {Q : Pst} {x y : Int32} {ls : List Value} {st : List Value} : T d 213 39 ls (.int y :: .int x :: st) h Q ↔ T d 213 40 ls (.int (x + y) :: st) h Q := T_iadd c213_39
theorem c213_40 : cod 213 40 = some (.istore_n 0, 1) := cod_of b213 dJ6_bitCount_0f7a4_40
theorem t213_40 {d : Nat} {h : Hp} {Q : Pst} {l0 : Value} {x : Int32} {st : List Value} : T d 213 40 [l0] (.int x :: st) h Q ↔ T d 213 41 [.int x] st h Q := T_istore_n c213_40 (Nat.le_of_ble_eq_true rfl)
theorem c213_41 : cod 213 41 = some (.iload_n 0, 1) := cod_of b213 dJ6_bitCount_0f7a4_41
theorem t213_41 {d : Nat} {h : Hp} {Q : Pst} {x : Int32} {st : List Value} : T d 213 41 [.int x] st h Q ↔ T d 213 42 [.int x] (.int x :: st) h Q := T_iload_n c213_41 rfl
theorem c213_42 : cod 213 42 = some (.iload_n 0, 1) := cod_of b213 dJ6_bitCount_0f7a4_42
theorem t213_42 {d : Nat} {h : Hp} {Q : Pst} {x : Int32} {st : List Value} : T d 213 42 [.int x] st h Q ↔ T d 213 43 [.int x] (.int x :: st) h Q := T_iload_n c213_42 rfl
theorem c213_43 : cod 213 43 = some (.bipush 16, 2) := cod_of b213 dJ6_bitCount_0f7a4_43
theorem t213_43 {d : Nat} {h : Hp} {Q : Pst} {ls : List Value} {st : List Value} : T d 213 43 ls st h Q ↔ T d 213 45 ls (.int 16 :: st) h Q := T_bipushV c213_43 (by decide)
theorem c213_45 : cod 213 45 = some (.iushr, 1) := cod_of b213 dJ6_bitCount_0f7a4_45
theorem t213_45 {d : Nat} {h : Hp} {Q : Pst} {x y : Int32} {ls : List Value} {st : List Value} : T d 213 45 ls (.int y :: .int x :: st) h Q ↔ T d 213 46 ls (.int ((x.toUInt32 >>> (y.toUInt32 &&& Int32.toUInt32 31)).toInt32) :: st) h Q := T_iushr c213_45
theorem c213_46 : cod 213 46 = some (.iadd, 1) := cod_of b213 dJ6_bitCount_0f7a4_46
theorem t213_46 {d : Nat} {h : Hp} {Q : Pst} {x y : Int32} {ls : List Value} {st : List Value} : T d 213 46 ls (.int y :: .int x :: st) h Q ↔ T d 213 47 ls (.int (x + y) :: st) h Q := T_iadd c213_46
theorem c213_47 : cod 213 47 = some (.istore_n 0, 1) := cod_of b213 dJ6_bitCount_0f7a4_47
theorem t213_47 {d : Nat} {h : Hp} {Q : Pst} {l0 : Value} {x : Int32} {st : List Value} : T d 213 47 [l0] (.int x :: st) h Q ↔ T d 213 48 [.int x] st h Q := T_istore_n c213_47 (Nat.le_of_ble_eq_true rfl)
theorem c213_48 : cod 213 48 = some (.iload_n 0, 1) := cod_of b213 dJ6_bitCount_0f7a4_48
theorem t213_48 {d : Nat} {h : Hp} {Q : Pst} {x : Int32} {st : List Value} : T d 213 48 [.int x] st h Q ↔ T d 213 49 [.int x] (.int x :: st) h Q := T_iload_n c213_48 rfl
theorem c213_49 : cod 213 49 = some (.bipush 63, 2) := cod_of b213 dJ6_bitCount_0f7a4_49
theorem t213_49 {d : Nat} {h : Hp} {Q : Pst} {ls : List Value} {st : List Value} : T d 213 49 ls st h Q ↔ T d 213 51 ls (.int 63 :: st) h Q := T_bipushV c213_49 (by decide)
theorem c213_51 : cod 213 51 = some (.iand, 1) := cod_of b213 dJ6_bitCount_0f7a4_51
theorem t213_51 {d : Nat} {h : Hp} {Q : Pst} {x y : Int32} {ls : List Value} {st : List Value} : T d 213 51 ls (.int y :: .int x :: st) h Q ↔ T d 213 52 ls (.int (x &&& y) :: st) h Q := T_iand c213_51
theorem c213_52 : cod 213 52 = some (.ireturn, 1) := cod_of b213 dJ6_bitCount_0f7a4_52
theorem t213_52 {d : Nat} {h : Hp} {Q : Pst} {x : Int32} {ls : List Value} : T d 213 52 ls [.int x] h Q ↔ Q (some (.int x)) h := T_iretR m213 c213_52 rfl
theorem b214 : (mR 214).2.2.1 = cJ0_length_8abf5 := by rw [m214]
theorem c214_0 : cod 214 0 = some (.aload_n 0, 1) := cod_of b214 dJ0_length_8abf5_0
theorem t214_0 {d : Nat} {h : Hp} {Q : Pst} {x : Nat} {st : List Value} : T d 214 0 [.ref x] st h Q ↔ T d 214 1 [.ref x] (.ref x :: st) h Q := T_aload_n c214_0 rfl
theorem c214_1 : cod 214 1 = some (.getfield 9, 3) := cod_of b214 dJ0_length_8abf5_1
theorem c214_4 : cod 214 4 = some (.arraylength, 1) := cod_of b214 dJ0_length_8abf5_4
theorem t214_4 {d : Nat} {h : Hp} {Q : Pst} {a : Nat} {ls : List Value} {st : List Value} : T d 214 4 ls (.ref a :: st) h Q ↔ cN (h.2.2 a) (fun n => T d 214 5 ls (.int (Int32.ofNat n) :: st) h Q) := T_alen c214_4
theorem c214_5 : cod 214 5 = some (.aload_n 0, 1) := cod_of b214 dJ0_length_8abf5_5
theorem t214_5 {d : Nat} {h : Hp} {Q : Pst} {x : Nat} {st : List Value} : T d 214 5 [.ref x] st h Q ↔ T d 214 6 [.ref x] (.ref x :: st) h Q := T_aload_n c214_5 rfl
theorem c214_6 : cod 214 6 = some (.invokevirtual 335, 3) := cod_of b214 dJ0_length_8abf5_6
theorem t214_6 {d : Nat} {h : Hp} {Q : Pst} {s0 : Int32} {a : Nat} {ls : List Value} (ho : isO (h.2.2 a) 100) : T (d + 1) 214 6 ls [.ref a, .int s0] h Q ↔ T d 216 0 [.ref a] [] h (fun x h2 => T (d + 1) 214 9 ls (rl x [.int s0]) h2 Q) := T_virtualR (as := []) (r := [.int s0]) m214 m216 c214_6 k10_335  rfl (by decide) rfl (by simp [wrd, Value.category]) (by simp [stk, Value.category]) rfl (by decide +kernel) ho
theorem c214_9 : cod 214 9 = some (.ishr, 1) := cod_of b214 dJ0_length_8abf5_9
theorem t214_9 {d : Nat} {h : Hp} {Q : Pst} {x y : Int32} {ls : List Value} {st : List Value} : T d 214 9 ls (.int y :: .int x :: st) h Q ↔ T d 214 10 ls (.int (x >>> (y &&& 31)) :: st) h Q := T_ishr c214_9
theorem c214_10 : cod 214 10 = some (.ireturn, 1) := cod_of b214 dJ0_length_8abf5_10
theorem t214_10 {d : Nat} {h : Hp} {Q : Pst} {x : Int32} {ls : List Value} : T d 214 10 ls [.int x] h Q ↔ Q (some (.int x)) h := T_iretR m214 c214_10 rfl
theorem b215 : (mR 215).2.2.1 = cJ0_charAt_5068e := by rw [m215]
theorem c215_0 : cod 215 0 = some (.aload_n 0, 1) := cod_of b215 dJ0_charAt_5068e_0
theorem t215_0 {d : Nat} {h : Hp} {Q : Pst} {l1 : Value} {x : Nat} {st : List Value} : T d 215 0 [.ref x, l1] st h Q ↔ T d 215 1 [.ref x, l1] (.ref x :: st) h Q := T_aload_n c215_0 rfl
theorem c215_1 : cod 215 1 = some (.invokevirtual 492, 3) := cod_of b215 dJ0_charAt_5068e_1
theorem t215_1 {d : Nat} {h : Hp} {Q : Pst} {a : Nat} {ls : List Value} (ho : isO (h.2.2 a) 100) : T (d + 1) 215 1 ls [.ref a] h Q ↔ T d 217 0 [.ref a] [] h (fun x h2 => T (d + 1) 215 4 ls (rl x []) h2 Q) := T_virtualR (as := []) (r := []) m215 m217 c215_1 k10_492  rfl (by decide) rfl (by simp [wrd, Value.category]) (by simp [stk, Value.category]) rfl (by decide +kernel) ho
theorem c215_4 : cod 215 4 = some (.ifCond .eq 12, 3) := cod_of b215 dJ0_charAt_5068e_4
theorem t215_4 {d : Nat} {h : Hp} {Q : Pst} {x : Int32} {ls : List Value} {st : List Value} : T d 215 4 ls (.int x :: st) h Q ↔ (if x = 0 then T d 215 16 ls st h Q else T d 215 7 ls st h Q) := T_if_eq c215_4 (by decide)
theorem c215_7 : cod 215 7 = some (.aload_n 0, 1) := cod_of b215 dJ0_charAt_5068e_7
theorem t215_7 {d : Nat} {h : Hp} {Q : Pst} {l1 : Value} {x : Nat} {st : List Value} : T d 215 7 [.ref x, l1] st h Q ↔ T d 215 8 [.ref x, l1] (.ref x :: st) h Q := T_aload_n c215_7 rfl
theorem c215_8 : cod 215 8 = some (.getfield 9, 3) := cod_of b215 dJ0_charAt_5068e_8
theorem c215_11 : cod 215 11 = some (.iload_n 1, 1) := cod_of b215 dJ0_charAt_5068e_11
theorem t215_11 {d : Nat} {h : Hp} {Q : Pst} {l0 : Value} {x : Int32} {st : List Value} : T d 215 11 [l0, .int x] st h Q ↔ T d 215 12 [l0, .int x] (.int x :: st) h Q := T_iload_n c215_11 rfl
theorem c215_12 : cod 215 12 = some (.invokestatic 495, 3) := cod_of b215 dJ0_charAt_5068e_12
theorem t215_12 {d : Nat} {h : Hp} {Q : Pst} {a0 : Nat} {a1 : Int32} {ls : List Value} : T (d + 1) 215 12 ls [.int a1, .ref a0] h Q ↔ T d 219 0 [.ref a0, .int a1] [] h (fun x h2 => T (d + 1) 215 15 ls (rl x []) h2 Q) := T_staticR (as := [.ref a0, .int a1]) (r := []) m215 m219 c215_12 k10_495 (Or.inl rfl) rfl (by decide) rfl (by simp [wrd, Value.category]) (by simp [stk, Value.category]) rfl
theorem c215_15 : cod 215 15 = some (.ireturn, 1) := cod_of b215 dJ0_charAt_5068e_15
theorem t215_15 {d : Nat} {h : Hp} {Q : Pst} {x : Int32} {ls : List Value} : T d 215 15 ls [.int x] h Q ↔ (narrow .char (.int x) = .int x ∧ Q (some (.int x)) h) := T_zretR m215 c215_15 rfl
theorem c215_16 : cod 215 16 = some (.aload_n 0, 1) := cod_of b215 dJ0_charAt_5068e_16
theorem t215_16 {d : Nat} {h : Hp} {Q : Pst} {l1 : Value} {x : Nat} {st : List Value} : T d 215 16 [.ref x, l1] st h Q ↔ T d 215 17 [.ref x, l1] (.ref x :: st) h Q := T_aload_n c215_16 rfl
theorem c215_17 : cod 215 17 = some (.getfield 9, 3) := cod_of b215 dJ0_charAt_5068e_17
theorem c215_20 : cod 215 20 = some (.iload_n 1, 1) := cod_of b215 dJ0_charAt_5068e_20
theorem t215_20 {d : Nat} {h : Hp} {Q : Pst} {l0 : Value} {x : Int32} {st : List Value} : T d 215 20 [l0, .int x] st h Q ↔ T d 215 21 [l0, .int x] (.int x :: st) h Q := T_iload_n c215_20 rfl
theorem c215_21 : cod 215 21 = some (.invokestatic 498, 3) := cod_of b215 dJ0_charAt_5068e_21
theorem b216 : (mR 216).2.2.1 = cJ0_coder_7d493 := by rw [m216]
theorem c216_0 : cod 216 0 = some (.getstatic 38, 3) := cod_of b216 dJ0_coder_7d493_0
theorem c216_3 : cod 216 3 = some (.ifCond .eq 10, 3) := cod_of b216 dJ0_coder_7d493_3
theorem t216_3 {d : Nat} {h : Hp} {Q : Pst} {x : Int32} {ls : List Value} {st : List Value} : T d 216 3 ls (.int x :: st) h Q ↔ (if x = 0 then T d 216 13 ls st h Q else T d 216 6 ls st h Q) := T_if_eq c216_3 (by decide)
theorem c216_6 : cod 216 6 = some (.aload_n 0, 1) := cod_of b216 dJ0_coder_7d493_6
theorem t216_6 {d : Nat} {h : Hp} {Q : Pst} {x : Nat} {st : List Value} : T d 216 6 [.ref x] st h Q ↔ T d 216 7 [.ref x] (.ref x :: st) h Q := T_aload_n c216_6 rfl
theorem c216_7 : cod 216 7 = some (.getfield 15, 3) := cod_of b216 dJ0_coder_7d493_7
theorem c216_10 : cod 216 10 = some (.goto 4, 3) := cod_of b216 dJ0_coder_7d493_10
theorem t216_10 {d : Nat} {h : Hp} {Q : Pst} {ls : List Value} {st : List Value} : T d 216 10 ls st h Q ↔ T d 216 14 ls st h Q := T_goto c216_10 (by decide)
theorem c216_14 : cod 216 14 = some (.ireturn, 1) := cod_of b216 dJ0_coder_7d493_14
theorem t216_14 {d : Nat} {h : Hp} {Q : Pst} {x : Int32} {ls : List Value} : T d 216 14 ls [.int x] h Q ↔ (narrow .byte (.int x) = .int x ∧ Q (some (.int x)) h) := T_zretR m216 c216_14 rfl
theorem c216_13 : cod 216 13 = some (.iconst 1, 1) := cod_of b216 dJ0_coder_7d493_13
theorem t216_13 {d : Nat} {h : Hp} {Q : Pst} {ls : List Value} {st : List Value} : T d 216 13 ls st h Q ↔ T d 216 14 ls (.int 1 :: st) h Q := T_iconstV c216_13 (by decide)
theorem b217 : (mR 217).2.2.1 = cJ0_isLatin1_aae02 := by rw [m217]
theorem c217_0 : cod 217 0 = some (.getstatic 38, 3) := cod_of b217 dJ0_isLatin1_aae02_0
theorem c217_3 : cod 217 3 = some (.ifCond .eq 14, 3) := cod_of b217 dJ0_isLatin1_aae02_3
theorem t217_3 {d : Nat} {h : Hp} {Q : Pst} {x : Int32} {ls : List Value} {st : List Value} : T d 217 3 ls (.int x :: st) h Q ↔ (if x = 0 then T d 217 17 ls st h Q else T d 217 6 ls st h Q) := T_if_eq c217_3 (by decide)
theorem c217_6 : cod 217 6 = some (.aload_n 0, 1) := cod_of b217 dJ0_isLatin1_aae02_6
theorem t217_6 {d : Nat} {h : Hp} {Q : Pst} {x : Nat} {st : List Value} : T d 217 6 [.ref x] st h Q ↔ T d 217 7 [.ref x] (.ref x :: st) h Q := T_aload_n c217_6 rfl
theorem c217_7 : cod 217 7 = some (.getfield 15, 3) := cod_of b217 dJ0_isLatin1_aae02_7
theorem c217_10 : cod 217 10 = some (.ifCond .ne 7, 3) := cod_of b217 dJ0_isLatin1_aae02_10
theorem t217_10 {d : Nat} {h : Hp} {Q : Pst} {x : Int32} {ls : List Value} {st : List Value} : T d 217 10 ls (.int x :: st) h Q ↔ (if ¬ x = 0 then T d 217 17 ls st h Q else T d 217 13 ls st h Q) := T_if_ne c217_10 (by decide)
theorem c217_13 : cod 217 13 = some (.iconst 1, 1) := cod_of b217 dJ0_isLatin1_aae02_13
theorem t217_13 {d : Nat} {h : Hp} {Q : Pst} {ls : List Value} {st : List Value} : T d 217 13 ls st h Q ↔ T d 217 14 ls (.int 1 :: st) h Q := T_iconstV c217_13 (by decide)
theorem c217_14 : cod 217 14 = some (.goto 4, 3) := cod_of b217 dJ0_isLatin1_aae02_14
theorem t217_14 {d : Nat} {h : Hp} {Q : Pst} {ls : List Value} {st : List Value} : T d 217 14 ls st h Q ↔ T d 217 18 ls st h Q := T_goto c217_14 (by decide)
theorem c217_18 : cod 217 18 = some (.ireturn, 1) := cod_of b217 dJ0_isLatin1_aae02_18
theorem t217_18 {d : Nat} {h : Hp} {Q : Pst} {x : Int32} {ls : List Value} : T d 217 18 ls [.int x] h Q ↔ (narrow .boolean (.int x) = .int x ∧ Q (some (.int x)) h) := T_zretR m217 c217_18 rfl
theorem c217_17 : cod 217 17 = some (.iconst 0, 1) := cod_of b217 dJ0_isLatin1_aae02_17
theorem t217_17 {d : Nat} {h : Hp} {Q : Pst} {ls : List Value} {st : List Value} : T d 217 17 ls st h Q ↔ T d 217 18 ls (.int 0 :: st) h Q := T_iconstV c217_17 (by decide)
theorem b218 : (mR 218).2.2.1 = cJ0_checkIndex_df160 := by rw [m218]
theorem c218_0 : cod 218 0 = some (.iload_n 0, 1) := cod_of b218 dJ0_checkIndex_df160_0
theorem t218_0 {d : Nat} {h : Hp} {Q : Pst} {l1 : Value} {x : Int32} {st : List Value} : T d 218 0 [.int x, l1] st h Q ↔ T d 218 1 [.int x, l1] (.int x :: st) h Q := T_iload_n c218_0 rfl
theorem c218_1 : cod 218 1 = some (.iload_n 1, 1) := cod_of b218 dJ0_checkIndex_df160_1
theorem t218_1 {d : Nat} {h : Hp} {Q : Pst} {l0 : Value} {x : Int32} {st : List Value} : T d 218 1 [l0, .int x] st h Q ↔ T d 218 2 [l0, .int x] (.int x :: st) h Q := T_iload_n c218_1 rfl
theorem c218_2 : cod 218 2 = some (.getstatic 1053, 3) := cod_of b218 dJ0_checkIndex_df160_2
theorem c218_5 : cod 218 5 = some (.invokestatic 1059, 3) := cod_of b218 dJ0_checkIndex_df160_5
theorem t218_5 {d : Nat} {h : Hp} {Q : Pst} {a0 a1 : Int32} {a2 : Nat} {ls : List Value} : T (d + 1) 218 5 ls [.ref a2, .int a1, .int a0] h Q ↔ T d 220 0 [.int a0, .int a1, .ref a2] [] h (fun x h2 => T (d + 1) 218 8 ls (rl x []) h2 Q) := T_staticR (as := [.int a0, .int a1, .ref a2]) (r := []) m218 m220 c218_5 k10_1059 (Or.inl rfl) rfl (by decide) rfl (by simp [wrd, Value.category]) (by simp [stk, Value.category]) rfl
theorem c218_8 : cod 218 8 = some (.pop, 1) := cod_of b218 dJ0_checkIndex_df160_8
theorem t218_8 {d : Nat} {h : Hp} {Q : Pst} {x : Int32} {ls : List Value} {st : List Value} : T d 218 8 ls (.int x :: st) h Q ↔ T d 218 9 ls st h Q := T_pop c218_8 rfl
theorem c218_9 : cod 218 9 = some (.return_, 1) := cod_of b218 dJ0_checkIndex_df160_9
theorem t218_9 {d : Nat} {h : Hp} {Q : Pst} {ls : List Value} : T d 218 9 ls [] h Q ↔ Q none h := T_retR m218 c218_9 rfl
theorem b219 : (mR 219).2.2.1 = cJ1_charAt_3b067 := by rw [m219]
theorem c219_0 : cod 219 0 = some (.iload_n 1, 1) := cod_of b219 dJ1_charAt_3b067_0
theorem t219_0 {d : Nat} {h : Hp} {Q : Pst} {l0 : Value} {x : Int32} {st : List Value} : T d 219 0 [l0, .int x] st h Q ↔ T d 219 1 [l0, .int x] (.int x :: st) h Q := T_iload_n c219_0 rfl
theorem c219_1 : cod 219 1 = some (.aload_n 0, 1) := cod_of b219 dJ1_charAt_3b067_1
theorem t219_1 {d : Nat} {h : Hp} {Q : Pst} {l1 : Value} {x : Nat} {st : List Value} : T d 219 1 [.ref x, l1] st h Q ↔ T d 219 2 [.ref x, l1] (.ref x :: st) h Q := T_aload_n c219_1 rfl
theorem c219_2 : cod 219 2 = some (.arraylength, 1) := cod_of b219 dJ1_charAt_3b067_2
theorem t219_2 {d : Nat} {h : Hp} {Q : Pst} {a : Nat} {ls : List Value} {st : List Value} : T d 219 2 ls (.ref a :: st) h Q ↔ cN (h.2.2 a) (fun n => T d 219 3 ls (.int (Int32.ofNat n) :: st) h Q) := T_alen c219_2
theorem c219_3 : cod 219 3 = some (.invokestatic 9, 3) := cod_of b219 dJ1_charAt_3b067_3
theorem t219_3 {d : Nat} {h : Hp} {Q : Pst} {a0 a1 : Int32} {ls : List Value} : T (d + 1) 219 3 ls [.int a1, .int a0] h Q ↔ T d 218 0 [.int a0, .int a1] [] h (fun x h2 => T (d + 1) 219 6 ls (rl x []) h2 Q) := T_staticR (as := [.int a0, .int a1]) (r := []) m219 m218 c219_3 k11_9 (Or.inl rfl) rfl (by decide) rfl (by simp [wrd, Value.category]) (by simp [stk, Value.category]) rfl
theorem c219_6 : cod 219 6 = some (.aload_n 0, 1) := cod_of b219 dJ1_charAt_3b067_6
theorem t219_6 {d : Nat} {h : Hp} {Q : Pst} {l1 : Value} {x : Nat} {st : List Value} : T d 219 6 [.ref x, l1] st h Q ↔ T d 219 7 [.ref x, l1] (.ref x :: st) h Q := T_aload_n c219_6 rfl
theorem c219_7 : cod 219 7 = some (.iload_n 1, 1) := cod_of b219 dJ1_charAt_3b067_7
theorem t219_7 {d : Nat} {h : Hp} {Q : Pst} {l0 : Value} {x : Int32} {st : List Value} : T d 219 7 [l0, .int x] st h Q ↔ T d 219 8 [l0, .int x] (.int x :: st) h Q := T_iload_n c219_7 rfl
theorem c219_8 : cod 219 8 = some (.baload, 1) := cod_of b219 dJ1_charAt_3b067_8
theorem t219_8 {d : Nat} {h : Hp} {Q : Pst} {a : Nat} {i : Int32} {ls : List Value} {st : List Value} : T d 219 8 ls (.int i :: .ref a :: st) h Q ↔ bL (h.2.2 a) i (fun x => T d 219 9 ls (.int x :: st) h Q) := T_baload c219_8
theorem c219_9 : cod 219 9 = some (.sipush 255, 3) := cod_of b219 dJ1_charAt_3b067_9
theorem t219_9 {d : Nat} {h : Hp} {Q : Pst} {ls : List Value} {st : List Value} : T d 219 9 ls st h Q ↔ T d 219 12 ls (.int 255 :: st) h Q := T_sipushV c219_9 (by decide)
theorem c219_12 : cod 219 12 = some (.iand, 1) := cod_of b219 dJ1_charAt_3b067_12
theorem t219_12 {d : Nat} {h : Hp} {Q : Pst} {x y : Int32} {ls : List Value} {st : List Value} : T d 219 12 ls (.int y :: .int x :: st) h Q ↔ T d 219 13 ls (.int (x &&& y) :: st) h Q := T_iand c219_12
theorem c219_13 : cod 219 13 = some (.i2c, 1) := cod_of b219 dJ1_charAt_3b067_13
theorem t219_13 {d : Nat} {h : Hp} {Q : Pst} {x : Int32} {ls : List Value} {st : List Value} : T d 219 13 ls (.int x :: st) h Q ↔ T d 219 14 ls (.int (x.toUInt32 % 65536).toInt32 :: st) h Q := T_i2c c219_13
theorem c219_14 : cod 219 14 = some (.ireturn, 1) := cod_of b219 dJ1_charAt_3b067_14
theorem t219_14 {d : Nat} {h : Hp} {Q : Pst} {x : Int32} {ls : List Value} : T d 219 14 ls [.int x] h Q ↔ (narrow .char (.int x) = .int x ∧ Q (some (.int x)) h) := T_zretR m219 c219_14 rfl
theorem b220 : (mR 220).2.2.1 = cJ3_checkIndex_8e157 := by rw [m220]
theorem c220_0 : cod 220 0 = some (.iload_n 0, 1) := cod_of b220 dJ3_checkIndex_8e157_0
theorem t220_0 {d : Nat} {h : Hp} {Q : Pst} {l1 l2 : Value} {x : Int32} {st : List Value} : T d 220 0 [.int x, l1, l2] st h Q ↔ T d 220 1 [.int x, l1, l2] (.int x :: st) h Q := T_iload_n c220_0 rfl
theorem c220_1 : cod 220 1 = some (.ifCond .lt 8, 3) := cod_of b220 dJ3_checkIndex_8e157_1
theorem t220_1 {d : Nat} {h : Hp} {Q : Pst} {x : Int32} {ls : List Value} {st : List Value} : T d 220 1 ls (.int x :: st) h Q ↔ (if x < 0 then T d 220 9 ls st h Q else T d 220 4 ls st h Q) := T_if_lt c220_1 (by decide)
theorem c220_4 : cod 220 4 = some (.iload_n 0, 1) := cod_of b220 dJ3_checkIndex_8e157_4
theorem t220_4 {d : Nat} {h : Hp} {Q : Pst} {l1 l2 : Value} {x : Int32} {st : List Value} : T d 220 4 [.int x, l1, l2] st h Q ↔ T d 220 5 [.int x, l1, l2] (.int x :: st) h Q := T_iload_n c220_4 rfl
theorem c220_5 : cod 220 5 = some (.iload_n 1, 1) := cod_of b220 dJ3_checkIndex_8e157_5
theorem t220_5 {d : Nat} {h : Hp} {Q : Pst} {l0 l2 : Value} {x : Int32} {st : List Value} : T d 220 5 [l0, .int x, l2] st h Q ↔ T d 220 6 [l0, .int x, l2] (.int x :: st) h Q := T_iload_n c220_5 rfl
theorem c220_6 : cod 220 6 = some (.if_icmp .lt 10, 3) := cod_of b220 dJ3_checkIndex_8e157_6
theorem t220_6 {d : Nat} {h : Hp} {Q : Pst} {x y : Int32} {ls : List Value} {st : List Value} : T d 220 6 ls (.int y :: .int x :: st) h Q ↔ (if x < y then T d 220 16 ls st h Q else T d 220 9 ls st h Q) := T_icmp_lt c220_6 (by decide)
theorem c220_16 : cod 220 16 = some (.iload_n 0, 1) := cod_of b220 dJ3_checkIndex_8e157_16
theorem t220_16 {d : Nat} {h : Hp} {Q : Pst} {l1 l2 : Value} {x : Int32} {st : List Value} : T d 220 16 [.int x, l1, l2] st h Q ↔ T d 220 17 [.int x, l1, l2] (.int x :: st) h Q := T_iload_n c220_16 rfl
theorem c220_17 : cod 220 17 = some (.ireturn, 1) := cod_of b220 dJ3_checkIndex_8e157_17
theorem t220_17 {d : Nat} {h : Hp} {Q : Pst} {x : Int32} {ls : List Value} : T d 220 17 ls [.int x] h Q ↔ Q (some (.int x)) h := T_iretR m220 c220_17 rfl
theorem c220_9 : cod 220 9 = some (.aload_n 2, 1) := cod_of b220 dJ3_checkIndex_8e157_9
theorem t220_9 {d : Nat} {h : Hp} {Q : Pst} {l0 l1 : Value} {x : Nat} {st : List Value} : T d 220 9 [l0, l1, .ref x] st h Q ↔ T d 220 10 [l0, l1, .ref x] (.ref x :: st) h Q := T_aload_n c220_9 rfl
theorem c220_10 : cod 220 10 = some (.iload_n 0, 1) := cod_of b220 dJ3_checkIndex_8e157_10
theorem t220_10 {d : Nat} {h : Hp} {Q : Pst} {l1 l2 : Value} {x : Int32} {st : List Value} : T d 220 10 [.int x, l1, l2] st h Q ↔ T d 220 11 [.int x, l1, l2] (.int x :: st) h Q := T_iload_n c220_10 rfl
theorem c220_11 : cod 220 11 = some (.iload_n 1, 1) := cod_of b220 dJ3_checkIndex_8e157_11
theorem t220_11 {d : Nat} {h : Hp} {Q : Pst} {l0 l2 : Value} {x : Int32} {st : List Value} : T d 220 11 [l0, .int x, l2] st h Q ↔ T d 220 12 [l0, .int x, l2] (.int x :: st) h Q := T_iload_n c220_11 rfl
theorem c220_12 : cod 220 12 = some (.invokestatic 95, 3) := cod_of b220 dJ3_checkIndex_8e157_12
