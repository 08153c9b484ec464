theorem b125 : (mR 125).2.2.1 = cX8_init := by rw [m125]
theorem c125_0 : cod 125 0 = some (.aload_n 0, 1) := cod_of b125 dX8_init_0
theorem t125_0 {d : Nat} {h : Hp} {Q : Pst} {x : Nat} {st : List Value} : T d 125 0 [.ref x] st h Q ↔ T d 125 1 [.ref x] (.ref x :: st) h Q := T_aload_n c125_0 rfl
theorem c125_1 : cod 125 1 = some (.invokespecial 1, 3) := cod_of b125 dX8_init_1
theorem t125_1 {d : Nat} {h : Hp} {Q : Pst} {a : Nat} {ls : List Value} : T (d + 1) 125 1 ls [.ref a] h Q ↔ T (d + 1) 125 4 ls [] h Q := T_objinitR m125 c125_1 k8_1 (by simp [stk, Value.category])
theorem c125_4 : cod 125 4 = some (.aload_n 0, 1) := cod_of b125 dX8_init_4
theorem t125_4 {d : Nat} {h : Hp} {Q : Pst} {x : Nat} {st : List Value} : T d 125 4 [.ref x] st h Q ↔ T d 125 5 [.ref x] (.ref x :: st) h Q := T_aload_n c125_4 rfl
theorem c125_5 : cod 125 5 = some (.sipush 636, 3) := cod_of b125 dX8_init_5
theorem t125_5 {d : Nat} {h : Hp} {Q : Pst} {ls : List Value} {st : List Value} : T d 125 5 ls st h Q ↔ T d 125 8 ls (.int 636 :: st) h Q := T_sipushV c125_5 (by decide)
theorem c125_8 : cod 125 8 = some (.newarray .int, 2) := cod_of b125 dX8_init_8
theorem t125_8 {d : Nat} {h : Hp} {Q : Pst} {x : Int32} {ls : List Value} {st : List Value} : T d 125 8 ls (.int x :: st) h Q ↔ ((0 ≤ x.toInt ∧ x.toInt ≤ 100000) ∧ T d 125 10 ls (.ref h.1 :: st) (hnew h x.toNatClampNeg (oI x.toNatClampNeg fun _ => 0)) Q) := T_newi c125_8
theorem c125_10 : cod 125 10 = some (.putfield 7, 3) := cod_of b125 dX8_init_10
theorem t125_10 {d : Nat} {h : Hp} {Q : Pst} {a x : Nat} {ls : List Value} {st : List Value} : T d 125 10 ls (.ref x :: .ref a :: st) h Q ↔ pF (h.2.2 a) 7 0 (.ref x) (fun cell => T d 125 13 ls st (hup h a cell) Q) := T_putfieldR m125 c125_10 f8_7 (by decide +kernel)
theorem c125_13 : cod 125 13 = some (.aload_n 0, 1) := cod_of b125 dX8_init_13
theorem t125_13 {d : Nat} {h : Hp} {Q : Pst} {x : Nat} {st : List Value} : T d 125 13 [.ref x] st h Q ↔ T d 125 14 [.ref x] (.ref x :: st) h Q := T_aload_n c125_13 rfl
theorem c125_14 : cod 125 14 = some (.iconst 2, 1) := cod_of b125 dX8_init_14
theorem t125_14 {d : Nat} {h : Hp} {Q : Pst} {ls : List Value} {st : List Value} : T d 125 14 ls st h Q ↔ T d 125 15 ls (.int 2 :: st) h Q := T_iconstV c125_14 (by decide)
theorem c125_15 : cod 125 15 = some (.newarray .boolean, 2) := cod_of b125 dX8_init_15
theorem t125_15 {d : Nat} {h : Hp} {Q : Pst} {x : Int32} {ls : List Value} {st : List Value} : T d 125 15 ls (.int x :: st) h Q ↔ ((0 ≤ x.toInt ∧ x.toInt ≤ 100000) ∧ T d 125 17 ls (.ref h.1 :: st) (hnew h x.toNatClampNeg (oZ x.toNatClampNeg fun _ => 0)) Q) := T_newz c125_15
theorem c125_17 : cod 125 17 = some (.putfield 13, 3) := cod_of b125 dX8_init_17
theorem t125_17 {d : Nat} {h : Hp} {Q : Pst} {a x : Nat} {ls : List Value} {st : List Value} : T d 125 17 ls (.ref x :: .ref a :: st) h Q ↔ pF (h.2.2 a) 7 1 (.ref x) (fun cell => T d 125 20 ls st (hup h a cell) Q) := T_putfieldR m125 c125_17 f8_13 (by decide +kernel)
theorem c125_20 : cod 125 20 = some (.aload_n 0, 1) := cod_of b125 dX8_init_20
theorem t125_20 {d : Nat} {h : Hp} {Q : Pst} {x : Nat} {st : List Value} : T d 125 20 [.ref x] st h Q ↔ T d 125 21 [.ref x] (.ref x :: st) h Q := T_aload_n c125_20 rfl
theorem c125_21 : cod 125 21 = some (.iconst 3, 1) := cod_of b125 dX8_init_21
theorem t125_21 {d : Nat} {h : Hp} {Q : Pst} {ls : List Value} {st : List Value} : T d 125 21 ls st h Q ↔ T d 125 22 ls (.int 3 :: st) h Q := T_iconstV c125_21 (by decide)
theorem c125_22 : cod 125 22 = some (.newarray .int, 2) := cod_of b125 dX8_init_22
theorem t125_22 {d : Nat} {h : Hp} {Q : Pst} {x : Int32} {ls : List Value} {st : List Value} : T d 125 22 ls (.int x :: st) h Q ↔ ((0 ≤ x.toInt ∧ x.toInt ≤ 100000) ∧ T d 125 24 ls (.ref h.1 :: st) (hnew h x.toNatClampNeg (oI x.toNatClampNeg fun _ => 0)) Q) := T_newi c125_22
theorem c125_24 : cod 125 24 = some (.putfield 17, 3) := cod_of b125 dX8_init_24
theorem t125_24 {d : Nat} {h : Hp} {Q : Pst} {a x : Nat} {ls : List Value} {st : List Value} : T d 125 24 ls (.ref x :: .ref a :: st) h Q ↔ pF (h.2.2 a) 7 2 (.ref x) (fun cell => T d 125 27 ls st (hup h a cell) Q) := T_putfieldR m125 c125_24 f8_17 (by decide +kernel)
theorem c125_27 : cod 125 27 = some (.aload_n 0, 1) := cod_of b125 dX8_init_27
theorem t125_27 {d : Nat} {h : Hp} {Q : Pst} {x : Nat} {st : List Value} : T d 125 27 [.ref x] st h Q ↔ T d 125 28 [.ref x] (.ref x :: st) h Q := T_aload_n c125_27 rfl
theorem c125_28 : cod 125 28 = some (.lconst 1, 1) := cod_of b125 dX8_init_28
theorem t125_28 {d : Nat} {h : Hp} {Q : Pst} {ls : List Value} {st : List Value} : T d 125 28 ls st h Q ↔ T d 125 29 ls (.long 1 :: st) h Q := T_lconstV c125_28 (by decide)
theorem c125_29 : cod 125 29 = some (.putfield 20, 3) := cod_of b125 dX8_init_29
theorem t125_29 {d : Nat} {h : Hp} {Q : Pst} {a : Nat} {x : Int64} {ls : List Value} {st : List Value} : T d 125 29 ls (.long x :: .ref a :: st) h Q ↔ pF (h.2.2 a) 7 4 (.long x) (fun cell => T d 125 32 ls st (hup h a cell) Q) := T_putfieldR m125 c125_29 f8_20 (by decide +kernel)
theorem c125_32 : cod 125 32 = some (.aload_n 0, 1) := cod_of b125 dX8_init_32
theorem t125_32 {d : Nat} {h : Hp} {Q : Pst} {x : Nat} {st : List Value} : T d 125 32 [.ref x] st h Q ↔ T d 125 33 [.ref x] (.ref x :: st) h Q := T_aload_n c125_32 rfl
theorem c125_33 : cod 125 33 = some (.sipush 150, 3) := cod_of b125 dX8_init_33
theorem t125_33 {d : Nat} {h : Hp} {Q : Pst} {ls : List Value} {st : List Value} : T d 125 33 ls st h Q ↔ T d 125 36 ls (.int 150 :: st) h Q := T_sipushV c125_33 (by decide)
theorem c125_36 : cod 125 36 = some (.newarray .int, 2) := cod_of b125 dX8_init_36
theorem t125_36 {d : Nat} {h : Hp} {Q : Pst} {x : Int32} {ls : List Value} {st : List Value} : T d 125 36 ls (.int x :: st) h Q ↔ ((0 ≤ x.toInt ∧ x.toInt ≤ 100000) ∧ T d 125 38 ls (.ref h.1 :: st) (hnew h x.toNatClampNeg (oI x.toNatClampNeg fun _ => 0)) Q) := T_newi c125_36
theorem c125_38 : cod 125 38 = some (.putfield 24, 3) := cod_of b125 dX8_init_38
theorem t125_38 {d : Nat} {h : Hp} {Q : Pst} {a x : Nat} {ls : List Value} {st : List Value} : T d 125 38 ls (.ref x :: .ref a :: st) h Q ↔ pF (h.2.2 a) 7 5 (.ref x) (fun cell => T d 125 41 ls st (hup h a cell) Q) := T_putfieldR m125 c125_38 f8_24 (by decide +kernel)
theorem c125_41 : cod 125 41 = some (.aload_n 0, 1) := cod_of b125 dX8_init_41
theorem t125_41 {d : Nat} {h : Hp} {Q : Pst} {x : Nat} {st : List Value} : T d 125 41 [.ref x] st h Q ↔ T d 125 42 [.ref x] (.ref x :: st) h Q := T_aload_n c125_41 rfl
theorem c125_42 : cod 125 42 = some (.bipush 48, 2) := cod_of b125 dX8_init_42
theorem t125_42 {d : Nat} {h : Hp} {Q : Pst} {ls : List Value} {st : List Value} : T d 125 42 ls st h Q ↔ T d 125 44 ls (.int 48 :: st) h Q := T_bipushV c125_42 (by decide)
theorem c125_44 : cod 125 44 = some (.newarray .int, 2) := cod_of b125 dX8_init_44
theorem t125_44 {d : Nat} {h : Hp} {Q : Pst} {x : Int32} {ls : List Value} {st : List Value} : T d 125 44 ls (.int x :: st) h Q ↔ ((0 ≤ x.toInt ∧ x.toInt ≤ 100000) ∧ T d 125 46 ls (.ref h.1 :: st) (hnew h x.toNatClampNeg (oI x.toNatClampNeg fun _ => 0)) Q) := T_newi c125_44
theorem c125_46 : cod 125 46 = some (.dup, 1) := cod_of b125 dX8_init_46
theorem t125_46 {d : Nat} {h : Hp} {Q : Pst} {x : Nat} {ls : List Value} {st : List Value} : T d 125 46 ls (.ref x :: st) h Q ↔ T d 125 47 ls (.ref x :: .ref x :: st) h Q := T_dup c125_46 rfl
theorem c125_47 : cod 125 47 = some (.iconst 0, 1) := cod_of b125 dX8_init_47
theorem t125_47 {d : Nat} {h : Hp} {Q : Pst} {ls : List Value} {st : List Value} : T d 125 47 ls st h Q ↔ T d 125 48 ls (.int 0 :: st) h Q := T_iconstV c125_47 (by decide)
theorem c125_48 : cod 125 48 = some (.bipush 117, 2) := cod_of b125 dX8_init_48
theorem t125_48 {d : Nat} {h : Hp} {Q : Pst} {ls : List Value} {st : List Value} : T d 125 48 ls st h Q ↔ T d 125 50 ls (.int 117 :: st) h Q := T_bipushV c125_48 (by decide)
theorem c125_50 : cod 125 50 = some (.iastore, 1) := cod_of b125 dX8_init_50
theorem t125_50 {d : Nat} {h : Hp} {Q : Pst} {a : Nat} {i x : Int32} {ls : List Value} {st : List Value} : T d 125 50 ls (.int x :: .int i :: .ref a :: st) h Q ↔ aS (h.2.2 a) i x (fun cell => T d 125 51 ls st (hup h a cell) Q) := T_iastore c125_50
theorem c125_51 : cod 125 51 = some (.dup, 1) := cod_of b125 dX8_init_51
theorem t125_51 {d : Nat} {h : Hp} {Q : Pst} {x : Nat} {ls : List Value} {st : List Value} : T d 125 51 ls (.ref x :: st) h Q ↔ T d 125 52 ls (.ref x :: .ref x :: st) h Q := T_dup c125_51 rfl
theorem c125_52 : cod 125 52 = some (.iconst 1, 1) := cod_of b125 dX8_init_52
theorem t125_52 {d : Nat} {h : Hp} {Q : Pst} {ls : List Value} {st : List Value} : T d 125 52 ls st h Q ↔ T d 125 53 ls (.int 1 :: st) h Q := T_iconstV c125_52 (by decide)
theorem c125_53 : cod 125 53 = some (.bipush 112, 2) := cod_of b125 dX8_init_53
theorem t125_53 {d : Nat} {h : Hp} {Q : Pst} {ls : List Value} {st : List Value} : T d 125 53 ls st h Q ↔ T d 125 55 ls (.int 112 :: st) h Q := T_bipushV c125_53 (by decide)
theorem c125_55 : cod 125 55 = some (.iastore, 1) := cod_of b125 dX8_init_55
theorem t125_55 {d : Nat} {h : Hp} {Q : Pst} {a : Nat} {i x : Int32} {ls : List Value} {st : List Value} : T d 125 55 ls (.int x :: .int i :: .ref a :: st) h Q ↔ aS (h.2.2 a) i x (fun cell => T d 125 56 ls st (hup h a cell) Q) := T_iastore c125_55
theorem c125_56 : cod 125 56 = some (.dup, 1) := cod_of b125 dX8_init_56
theorem t125_56 {d : Nat} {h : Hp} {Q : Pst} {x : Nat} {ls : List Value} {st : List Value} : T d 125 56 ls (.ref x :: st) h Q ↔ T d 125 57 ls (.ref x :: .ref x :: st) h Q := T_dup c125_56 rfl
theorem c125_57 : cod 125 57 = some (.iconst 2, 1) := cod_of b125 dX8_init_57
theorem t125_57 {d : Nat} {h : Hp} {Q : Pst} {ls : List Value} {st : List Value} : T d 125 57 ls st h Q ↔ T d 125 58 ls (.int 2 :: st) h Q := T_iconstV c125_57 (by decide)
theorem c125_58 : cod 125 58 = some (.bipush 108, 2) := cod_of b125 dX8_init_58
theorem t125_58 {d : Nat} {h : Hp} {Q : Pst} {ls : List Value} {st : List Value} : T d 125 58 ls st h Q ↔ T d 125 60 ls (.int 108 :: st) h Q := T_bipushV c125_58 (by decide)
theorem c125_60 : cod 125 60 = some (.iastore, 1) := cod_of b125 dX8_init_60
theorem t125_60 {d : Nat} {h : Hp} {Q : Pst} {a : Nat} {i x : Int32} {ls : List Value} {st : List Value} : T d 125 60 ls (.int x :: .int i :: .ref a :: st) h Q ↔ aS (h.2.2 a) i x (fun cell => T d 125 61 ls st (hup h a cell) Q) := T_iastore c125_60
theorem c125_61 : cod 125 61 = some (.dup, 1) := cod_of b125 dX8_init_61
theorem t125_61 {d : Nat} {h : Hp} {Q : Pst} {x : Nat} {ls : List Value} {st : List Value} : T d 125 61 ls (.ref x :: st) h Q ↔ T d 125 62 ls (.ref x :: .ref x :: st) h Q := T_dup c125_61 rfl
theorem c125_62 : cod 125 62 = some (.iconst 3, 1) := cod_of b125 dX8_init_62
theorem t125_62 {d : Nat} {h : Hp} {Q : Pst} {ls : List Value} {st : List Value} : T d 125 62 ls st h Q ↔ T d 125 63 ls (.int 3 :: st) h Q := T_iconstV c125_62 (by decide)
theorem c125_63 : cod 125 63 = some (.bipush 97, 2) := cod_of b125 dX8_init_63
theorem t125_63 {d : Nat} {h : Hp} {Q : Pst} {ls : List Value} {st : List Value} : T d 125 63 ls st h Q ↔ T d 125 65 ls (.int 97 :: st) h Q := T_bipushV c125_63 (by decide)
theorem c125_65 : cod 125 65 = some (.iastore, 1) := cod_of b125 dX8_init_65
theorem t125_65 {d : Nat} {h : Hp} {Q : Pst} {a : Nat} {i x : Int32} {ls : List Value} {st : List Value} : T d 125 65 ls (.int x :: .int i :: .ref a :: st) h Q ↔ aS (h.2.2 a) i x (fun cell => T d 125 66 ls st (hup h a cell) Q) := T_iastore c125_65
theorem c125_66 : cod 125 66 = some (.dup, 1) := cod_of b125 dX8_init_66
theorem t125_66 {d : Nat} {h : Hp} {Q : Pst} {x : Nat} {ls : List Value} {st : List Value} : T d 125 66 ls (.ref x :: st) h Q ↔ T d 125 67 ls (.ref x :: .ref x :: st) h Q := T_dup c125_66 rfl
theorem c125_67 : cod 125 67 = some (.iconst 4, 1) := cod_of b125 dX8_init_67
theorem t125_67 {d : Nat} {h : Hp} {Q : Pst} {ls : List Value} {st : List Value} : T d 125 67 ls st h Q ↔ T d 125 68 ls (.int 4 :: st) h Q := T_iconstV c125_67 (by decide)
theorem c125_68 : cod 125 68 = some (.bipush 110, 2) := cod_of b125 dX8_init_68
theorem t125_68 {d : Nat} {h : Hp} {Q : Pst} {ls : List Value} {st : List Value} : T d 125 68 ls st h Q ↔ T d 125 70 ls (.int 110 :: st) h Q := T_bipushV c125_68 (by decide)
theorem c125_70 : cod 125 70 = some (.iastore, 1) := cod_of b125 dX8_init_70
theorem t125_70 {d : Nat} {h : Hp} {Q : Pst} {a : Nat} {i x : Int32} {ls : List Value} {st : List Value} : T d 125 70 ls (.int x :: .int i :: .ref a :: st) h Q ↔ aS (h.2.2 a) i x (fun cell => T d 125 71 ls st (hup h a cell) Q) := T_iastore c125_70
theorem c125_71 : cod 125 71 = some (.dup, 1) := cod_of b125 dX8_init_71
theorem t125_71 {d : Nat} {h : Hp} {Q : Pst} {x : Nat} {ls : List Value} {st : List Value} : T d 125 71 ls (.ref x :: st) h Q ↔ T d 125 72 ls (.ref x :: .ref x :: st) h Q := T_dup c125_71 rfl
theorem c125_72 : cod 125 72 = some (.iconst 5, 1) := cod_of b125 dX8_init_72
theorem t125_72 {d : Nat} {h : Hp} {Q : Pst} {ls : List Value} {st : List Value} : T d 125 72 ls st h Q ↔ T d 125 73 ls (.int 5 :: st) h Q := T_iconstV c125_72 (by decide)
theorem c125_73 : cod 125 73 = some (.bipush 100, 2) := cod_of b125 dX8_init_73
theorem t125_73 {d : Nat} {h : Hp} {Q : Pst} {ls : List Value} {st : List Value} : T d 125 73 ls st h Q ↔ T d 125 75 ls (.int 100 :: st) h Q := T_bipushV c125_73 (by decide)
theorem c125_75 : cod 125 75 = some (.iastore, 1) := cod_of b125 dX8_init_75
theorem t125_75 {d : Nat} {h : Hp} {Q : Pst} {a : Nat} {i x : Int32} {ls : List Value} {st : List Value} : T d 125 75 ls (.int x :: .int i :: .ref a :: st) h Q ↔ aS (h.2.2 a) i x (fun cell => T d 125 76 ls st (hup h a cell) Q) := T_iastore c125_75
theorem c125_76 : cod 125 76 = some (.dup, 1) := cod_of b125 dX8_init_76
theorem t125_76 {d : Nat} {h : Hp} {Q : Pst} {x : Nat} {ls : List Value} {st : List Value} : T d 125 76 ls (.ref x :: st) h Q ↔ T d 125 77 ls (.ref x :: .ref x :: st) h Q := T_dup c125_76 rfl
theorem c125_77 : cod 125 77 = some (.bipush 6, 2) := cod_of b125 dX8_init_77
theorem t125_77 {d : Nat} {h : Hp} {Q : Pst} {ls : List Value} {st : List Value} : T d 125 77 ls st h Q ↔ T d 125 79 ls (.int 6 :: st) h Q := T_bipushV c125_77 (by decide)
theorem c125_79 : cod 125 79 = some (.bipush 115, 2) := cod_of b125 dX8_init_79
theorem t125_79 {d : Nat} {h : Hp} {Q : Pst} {ls : List Value} {st : List Value} : T d 125 79 ls st h Q ↔ T d 125 81 ls (.int 115 :: st) h Q := T_bipushV c125_79 (by decide)
theorem c125_81 : cod 125 81 = some (.iastore, 1) := cod_of b125 dX8_init_81
theorem t125_81 {d : Nat} {h : Hp} {Q : Pst} {a : Nat} {i x : Int32} {ls : List Value} {st : List Value} : T d 125 81 ls (.int x :: .int i :: .ref a :: st) h Q ↔ aS (h.2.2 a) i x (fun cell => T d 125 82 ls st (hup h a cell) Q) := T_iastore c125_81
theorem c125_82 : cod 125 82 = some (.dup, 1) := cod_of b125 dX8_init_82
theorem t125_82 {d : Nat} {h : Hp} {Q : Pst} {x : Nat} {ls : List Value} {st : List Value} : T d 125 82 ls (.ref x :: st) h Q ↔ T d 125 83 ls (.ref x :: .ref x :: st) h Q := T_dup c125_82 rfl
theorem c125_83 : cod 125 83 = some (.bipush 7, 2) := cod_of b125 dX8_init_83
theorem t125_83 {d : Nat} {h : Hp} {Q : Pst} {ls : List Value} {st : List Value} : T d 125 83 ls st h Q ↔ T d 125 85 ls (.int 7 :: st) h Q := T_bipushV c125_83 (by decide)
theorem c125_85 : cod 125 85 = some (.iconst 0, 1) := cod_of b125 dX8_init_85
theorem t125_85 {d : Nat} {h : Hp} {Q : Pst} {ls : List Value} {st : List Value} : T d 125 85 ls st h Q ↔ T d 125 86 ls (.int 0 :: st) h Q := T_iconstV c125_85 (by decide)
theorem c125_86 : cod 125 86 = some (.iastore, 1) := cod_of b125 dX8_init_86
theorem t125_86 {d : Nat} {h : Hp} {Q : Pst} {a : Nat} {i x : Int32} {ls : List Value} {st : List Value} : T d 125 86 ls (.int x :: .int i :: .ref a :: st) h Q ↔ aS (h.2.2 a) i x (fun cell => T d 125 87 ls st (hup h a cell) Q) := T_iastore c125_86
theorem c125_87 : cod 125 87 = some (.dup, 1) := cod_of b125 dX8_init_87
theorem t125_87 {d : Nat} {h : Hp} {Q : Pst} {x : Nat} {ls : List Value} {st : List Value} : T d 125 87 ls (.ref x :: st) h Q ↔ T d 125 88 ls (.ref x :: .ref x :: st) h Q := T_dup c125_87 rfl
theorem c125_88 : cod 125 88 = some (.bipush 8, 2) := cod_of b125 dX8_init_88
theorem t125_88 {d : Nat} {h : Hp} {Q : Pst} {ls : List Value} {st : List Value} : T d 125 88 ls st h Q ↔ T d 125 90 ls (.int 8 :: st) h Q := T_bipushV c125_88 (by decide)
theorem c125_90 : cod 125 90 = some (.bipush 103, 2) := cod_of b125 dX8_init_90
theorem t125_90 {d : Nat} {h : Hp} {Q : Pst} {ls : List Value} {st : List Value} : T d 125 90 ls st h Q ↔ T d 125 92 ls (.int 103 :: st) h Q := T_bipushV c125_90 (by decide)
theorem c125_92 : cod 125 92 = some (.iastore, 1) := cod_of b125 dX8_init_92
theorem t125_92 {d : Nat} {h : Hp} {Q : Pst} {a : Nat} {i x : Int32} {ls : List Value} {st : List Value} : T d 125 92 ls (.int x :: .int i :: .ref a :: st) h Q ↔ aS (h.2.2 a) i x (fun cell => T d 125 93 ls st (hup h a cell) Q) := T_iastore c125_92
theorem c125_93 : cod 125 93 = some (.dup, 1) := cod_of b125 dX8_init_93
theorem t125_93 {d : Nat} {h : Hp} {Q : Pst} {x : Nat} {ls : List Value} {st : List Value} : T d 125 93 ls (.ref x :: st) h Q ↔ T d 125 94 ls (.ref x :: .ref x :: st) h Q := T_dup c125_93 rfl
theorem c125_94 : cod 125 94 = some (.bipush 9, 2) := cod_of b125 dX8_init_94
theorem t125_94 {d : Nat} {h : Hp} {Q : Pst} {ls : List Value} {st : List Value} : T d 125 94 ls st h Q ↔ T d 125 96 ls (.int 9 :: st) h Q := T_bipushV c125_94 (by decide)
theorem c125_96 : cod 125 96 = some (.bipush 117, 2) := cod_of b125 dX8_init_96
theorem t125_96 {d : Nat} {h : Hp} {Q : Pst} {ls : List Value} {st : List Value} : T d 125 96 ls st h Q ↔ T d 125 98 ls (.int 117 :: st) h Q := T_bipushV c125_96 (by decide)
theorem c125_98 : cod 125 98 = some (.iastore, 1) := cod_of b125 dX8_init_98
theorem t125_98 {d : Nat} {h : Hp} {Q : Pst} {a : Nat} {i x : Int32} {ls : List Value} {st : List Value} : T d 125 98 ls (.int x :: .int i :: .ref a :: st) h Q ↔ aS (h.2.2 a) i x (fun cell => T d 125 99 ls st (hup h a cell) Q) := T_iastore c125_98
theorem c125_99 : cod 125 99 = some (.dup, 1) := cod_of b125 dX8_init_99
theorem t125_99 {d : Nat} {h : Hp} {Q : Pst} {x : Nat} {ls : List Value} {st : List Value} : T d 125 99 ls (.ref x :: st) h Q ↔ T d 125 100 ls (.ref x :: .ref x :: st) h Q := T_dup c125_99 rfl
theorem c125_100 : cod 125 100 = some (.bipush 10, 2) := cod_of b125 dX8_init_100
theorem t125_100 {d : Nat} {h : Hp} {Q : Pst} {ls : List Value} {st : List Value} : T d 125 100 ls st h Q ↔ T d 125 102 ls (.int 10 :: st) h Q := T_bipushV c125_100 (by decide)
theorem c125_102 : cod 125 102 = some (.bipush 101, 2) := cod_of b125 dX8_init_102
theorem t125_102 {d : Nat} {h : Hp} {Q : Pst} {ls : List Value} {st : List Value} : T d 125 102 ls st h Q ↔ T d 125 104 ls (.int 101 :: st) h Q := T_bipushV c125_102 (by decide)
theorem c125_104 : cod 125 104 = some (.iastore, 1) := cod_of b125 dX8_init_104
theorem t125_104 {d : Nat} {h : Hp} {Q : Pst} {a : Nat} {i x : Int32} {ls : List Value} {st : List Value} : T d 125 104 ls (.int x :: .int i :: .ref a :: st) h Q ↔ aS (h.2.2 a) i x (fun cell => T d 125 105 ls st (hup h a cell) Q) := T_iastore c125_104
theorem c125_105 : cod 125 105 = some (.dup, 1) := cod_of b125 dX8_init_105
theorem t125_105 {d : Nat} {h : Hp} {Q : Pst} {x : Nat} {ls : List Value} {st : List Value} : T d 125 105 ls (.ref x :: st) h Q ↔ T d 125 106 ls (.ref x :: .ref x :: st) h Q := T_dup c125_105 rfl
theorem c125_106 : cod 125 106 = some (.bipush 11, 2) := cod_of b125 dX8_init_106
theorem t125_106 {d : Nat} {h : Hp} {Q : Pst} {ls : List Value} {st : List Value} : T d 125 106 ls st h Q ↔ T d 125 108 ls (.int 11 :: st) h Q := T_bipushV c125_106 (by decide)
theorem c125_108 : cod 125 108 = some (.bipush 115, 2) := cod_of b125 dX8_init_108
theorem t125_108 {d : Nat} {h : Hp} {Q : Pst} {ls : List Value} {st : List Value} : T d 125 108 ls st h Q ↔ T d 125 110 ls (.int 115 :: st) h Q := T_bipushV c125_108 (by decide)
theorem c125_110 : cod 125 110 = some (.iastore, 1) := cod_of b125 dX8_init_110
theorem t125_110 {d : Nat} {h : Hp} {Q : Pst} {a : Nat} {i x : Int32} {ls : List Value} {st : List Value} : T d 125 110 ls (.int x :: .int i :: .ref a :: st) h Q ↔ aS (h.2.2 a) i x (fun cell => T d 125 111 ls st (hup h a cell) Q) := T_iastore c125_110
theorem c125_111 : cod 125 111 = some (.dup, 1) := cod_of b125 dX8_init_111
theorem t125_111 {d : Nat} {h : Hp} {Q : Pst} {x : Nat} {ls : List Value} {st : List Value} : T d 125 111 ls (.ref x :: st) h Q ↔ T d 125 112 ls (.ref x :: .ref x :: st) h Q := T_dup c125_111 rfl
theorem c125_112 : cod 125 112 = some (.bipush 12, 2) := cod_of b125 dX8_init_112
theorem t125_112 {d : Nat} {h : Hp} {Q : Pst} {ls : List Value} {st : List Value} : T d 125 112 ls st h Q ↔ T d 125 114 ls (.int 12 :: st) h Q := T_bipushV c125_112 (by decide)
theorem c125_114 : cod 125 114 = some (.bipush 116, 2) := cod_of b125 dX8_init_114
theorem t125_114 {d : Nat} {h : Hp} {Q : Pst} {ls : List Value} {st : List Value} : T d 125 114 ls st h Q ↔ T d 125 116 ls (.int 116 :: st) h Q := T_bipushV c125_114 (by decide)
theorem c125_116 : cod 125 116 = some (.iastore, 1) := cod_of b125 dX8_init_116
theorem t125_116 {d : Nat} {h : Hp} {Q : Pst} {a : Nat} {i x : Int32} {ls : List Value} {st : List Value} : T d 125 116 ls (.int x :: .int i :: .ref a :: st) h Q ↔ aS (h.2.2 a) i x (fun cell => T d 125 117 ls st (hup h a cell) Q) := T_iastore c125_116
theorem c125_117 : cod 125 117 = some (.dup, 1) := cod_of b125 dX8_init_117
theorem t125_117 {d : Nat} {h : Hp} {Q : Pst} {x : Nat} {ls : List Value} {st : List Value} : T d 125 117 ls (.ref x :: st) h Q ↔ T d 125 118 ls (.ref x :: .ref x :: st) h Q := T_dup c125_117 rfl
theorem c125_118 : cod 125 118 = some (.bipush 13, 2) := cod_of b125 dX8_init_118
theorem t125_118 {d : Nat} {h : Hp} {Q : Pst} {ls : List Value} {st : List Value} : T d 125 118 ls st h Q ↔ T d 125 120 ls (.int 13 :: st) h Q := T_bipushV c125_118 (by decide)
theorem c125_120 : cod 125 120 = some (.iconst 0, 1) := cod_of b125 dX8_init_120
theorem t125_120 {d : Nat} {h : Hp} {Q : Pst} {ls : List Value} {st : List Value} : T d 125 120 ls st h Q ↔ T d 125 121 ls (.int 0 :: st) h Q := T_iconstV c125_120 (by decide)
theorem c125_121 : cod 125 121 = some (.iastore, 1) := cod_of b125 dX8_init_121
theorem t125_121 {d : Nat} {h : Hp} {Q : Pst} {a : Nat} {i x : Int32} {ls : List Value} {st : List Value} : T d 125 121 ls (.int x :: .int i :: .ref a :: st) h Q ↔ aS (h.2.2 a) i x (fun cell => T d 125 122 ls st (hup h a cell) Q) := T_iastore c125_121
theorem c125_122 : cod 125 122 = some (.dup, 1) := cod_of b125 dX8_init_122
theorem t125_122 {d : Nat} {h : Hp} {Q : Pst} {x : Nat} {ls : List Value} {st : List Value} : T d 125 122 ls (.ref x :: st) h Q ↔ T d 125 123 ls (.ref x :: .ref x :: st) h Q := T_dup c125_122 rfl
theorem c125_123 : cod 125 123 = some (.bipush 14, 2) := cod_of b125 dX8_init_123
theorem t125_123 {d : Nat} {h : Hp} {Q : Pst} {ls : List Value} {st : List Value} : T d 125 123 ls st h Q ↔ T d 125 125 ls (.int 14 :: st) h Q := T_bipushV c125_123 (by decide)
theorem c125_125 : cod 125 125 = some (.iconst 0, 1) := cod_of b125 dX8_init_125
theorem t125_125 {d : Nat} {h : Hp} {Q : Pst} {ls : List Value} {st : List Value} : T d 125 125 ls st h Q ↔ T d 125 126 ls (.int 0 :: st) h Q := T_iconstV c125_125 (by decide)
theorem c125_126 : cod 125 126 = some (.iastore, 1) := cod_of b125 dX8_init_126
theorem t125_126 {d : Nat} {h : Hp} {Q : Pst} {a : Nat} {i x : Int32} {ls : List Value} {st : List Value} : T d 125 126 ls (.int x :: .int i :: .ref a :: st) h Q ↔ aS (h.2.2 a) i x (fun cell => T d 125 127 ls st (hup h a cell) Q) := T_iastore c125_126
theorem c125_127 : cod 125 127 = some (.dup, 1) := cod_of b125 dX8_init_127
theorem t125_127 {d : Nat} {h : Hp} {Q : Pst} {x : Nat} {ls : List Value} {st : List Value} : T d 125 127 ls (.ref x :: st) h Q ↔ T d 125 128 ls (.ref x :: .ref x :: st) h Q := T_dup c125_127 rfl
theorem c125_128 : cod 125 128 = some (.bipush 15, 2) := cod_of b125 dX8_init_128
theorem t125_128 {d : Nat} {h : Hp} {Q : Pst} {ls : List Value} {st : List Value} : T d 125 128 ls st h Q ↔ T d 125 130 ls (.int 15 :: st) h Q := T_bipushV c125_128 (by decide)
theorem c125_130 : cod 125 130 = some (.iconst 0, 1) := cod_of b125 dX8_init_130
theorem t125_130 {d : Nat} {h : Hp} {Q : Pst} {ls : List Value} {st : List Value} : T d 125 130 ls st h Q ↔ T d 125 131 ls (.int 0 :: st) h Q := T_iconstV c125_130 (by decide)
theorem c125_131 : cod 125 131 = some (.iastore, 1) := cod_of b125 dX8_init_131
theorem t125_131 {d : Nat} {h : Hp} {Q : Pst} {a : Nat} {i x : Int32} {ls : List Value} {st : List Value} : T d 125 131 ls (.int x :: .int i :: .ref a :: st) h Q ↔ aS (h.2.2 a) i x (fun cell => T d 125 132 ls st (hup h a cell) Q) := T_iastore c125_131
theorem c125_132 : cod 125 132 = some (.dup, 1) := cod_of b125 dX8_init_132
theorem t125_132 {d : Nat} {h : Hp} {Q : Pst} {x : Nat} {ls : List Value} {st : List Value} : T d 125 132 ls (.ref x :: st) h Q ↔ T d 125 133 ls (.ref x :: .ref x :: st) h Q := T_dup c125_132 rfl
theorem c125_133 : cod 125 133 = some (.bipush 16, 2) := cod_of b125 dX8_init_133
theorem t125_133 {d : Nat} {h : Hp} {Q : Pst} {ls : List Value} {st : List Value} : T d 125 133 ls st h Q ↔ T d 125 135 ls (.int 16 :: st) h Q := T_bipushV c125_133 (by decide)
theorem c125_135 : cod 125 135 = some (.bipush 104, 2) := cod_of b125 dX8_init_135
theorem t125_135 {d : Nat} {h : Hp} {Q : Pst} {ls : List Value} {st : List Value} : T d 125 135 ls st h Q ↔ T d 125 137 ls (.int 104 :: st) h Q := T_bipushV c125_135 (by decide)
theorem c125_137 : cod 125 137 = some (.iastore, 1) := cod_of b125 dX8_init_137
theorem t125_137 {d : Nat} {h : Hp} {Q : Pst} {a : Nat} {i x : Int32} {ls : List Value} {st : List Value} : T d 125 137 ls (.int x :: .int i :: .ref a :: st) h Q ↔ aS (h.2.2 a) i x (fun cell => T d 125 138 ls st (hup h a cell) Q) := T_iastore c125_137
theorem c125_138 : cod 125 138 = some (.dup, 1) := cod_of b125 dX8_init_138
theorem t125_138 {d : Nat} {h : Hp} {Q : Pst} {x : Nat} {ls : List Value} {st : List Value} : T d 125 138 ls (.ref x :: st) h Q ↔ T d 125 139 ls (.ref x :: .ref x :: st) h Q := T_dup c125_138 rfl
theorem c125_139 : cod 125 139 = some (.bipush 17, 2) := cod_of b125 dX8_init_139
theorem t125_139 {d : Nat} {h : Hp} {Q : Pst} {ls : List Value} {st : List Value} : T d 125 139 ls st h Q ↔ T d 125 141 ls (.int 17 :: st) h Q := T_bipushV c125_139 (by decide)
theorem c125_141 : cod 125 141 = some (.bipush 111, 2) := cod_of b125 dX8_init_141
theorem t125_141 {d : Nat} {h : Hp} {Q : Pst} {ls : List Value} {st : List Value} : T d 125 141 ls st h Q ↔ T d 125 143 ls (.int 111 :: st) h Q := T_bipushV c125_141 (by decide)
theorem c125_143 : cod 125 143 = some (.iastore, 1) := cod_of b125 dX8_init_143
theorem t125_143 {d : Nat} {h : Hp} {Q : Pst} {a : Nat} {i x : Int32} {ls : List Value} {st : List Value} : T d 125 143 ls (.int x :: .int i :: .ref a :: st) h Q ↔ aS (h.2.2 a) i x (fun cell => T d 125 144 ls st (hup h a cell) Q) := T_iastore c125_143
theorem c125_144 : cod 125 144 = some (.dup, 1) := cod_of b125 dX8_init_144
theorem t125_144 {d : Nat} {h : Hp} {Q : Pst} {x : Nat} {ls : List Value} {st : List Value} : T d 125 144 ls (.ref x :: st) h Q ↔ T d 125 145 ls (.ref x :: .ref x :: st) h Q := T_dup c125_144 rfl
theorem c125_145 : cod 125 145 = some (.bipush 18, 2) := cod_of b125 dX8_init_145
theorem t125_145 {d : Nat} {h : Hp} {Q : Pst} {ls : List Value} {st : List Value} : T d 125 145 ls st h Q ↔ T d 125 147 ls (.int 18 :: st) h Q := T_bipushV c125_145 (by decide)
theorem c125_147 : cod 125 147 = some (.bipush 117, 2) := cod_of b125 dX8_init_147
theorem t125_147 {d : Nat} {h : Hp} {Q : Pst} {ls : List Value} {st : List Value} : T d 125 147 ls st h Q ↔ T d 125 149 ls (.int 117 :: st) h Q := T_bipushV c125_147 (by decide)
theorem c125_149 : cod 125 149 = some (.iastore, 1) := cod_of b125 dX8_init_149
theorem t125_149 {d : Nat} {h : Hp} {Q : Pst} {a : Nat} {i x : Int32} {ls : List Value} {st : List Value} : T d 125 149 ls (.int x :: .int i :: .ref a :: st) h Q ↔ aS (h.2.2 a) i x (fun cell => T d 125 150 ls st (hup h a cell) Q) := T_iastore c125_149
theorem c125_150 : cod 125 150 = some (.dup, 1) := cod_of b125 dX8_init_150
theorem t125_150 {d : Nat} {h : Hp} {Q : Pst} {x : Nat} {ls : List Value} {st : List Value} : T d 125 150 ls (.ref x :: st) h Q ↔ T d 125 151 ls (.ref x :: .ref x :: st) h Q := T_dup c125_150 rfl
theorem c125_151 : cod 125 151 = some (.bipush 19, 2) := cod_of b125 dX8_init_151
theorem t125_151 {d : Nat} {h : Hp} {Q : Pst} {ls : List Value} {st : List Value} : T d 125 151 ls st h Q ↔ T d 125 153 ls (.int 19 :: st) h Q := T_bipushV c125_151 (by decide)
theorem c125_153 : cod 125 153 = some (.bipush 115, 2) := cod_of b125 dX8_init_153
theorem t125_153 {d : Nat} {h : Hp} {Q : Pst} {ls : List Value} {st : List Value} : T d 125 153 ls st h Q ↔ T d 125 155 ls (.int 115 :: st) h Q := T_bipushV c125_153 (by decide)
theorem c125_155 : cod 125 155 = some (.iastore, 1) := cod_of b125 dX8_init_155
theorem t125_155 {d : Nat} {h : Hp} {Q : Pst} {a : Nat} {i x : Int32} {ls : List Value} {st : List Value} : T d 125 155 ls (.int x :: .int i :: .ref a :: st) h Q ↔ aS (h.2.2 a) i x (fun cell => T d 125 156 ls st (hup h a cell) Q) := T_iastore c125_155
theorem c125_156 : cod 125 156 = some (.dup, 1) := cod_of b125 dX8_init_156
theorem t125_156 {d : Nat} {h : Hp} {Q : Pst} {x : Nat} {ls : List Value} {st : List Value} : T d 125 156 ls (.ref x :: st) h Q ↔ T d 125 157 ls (.ref x :: .ref x :: st) h Q := T_dup c125_156 rfl
theorem c125_157 : cod 125 157 = some (.bipush 20, 2) := cod_of b125 dX8_init_157
theorem t125_157 {d : Nat} {h : Hp} {Q : Pst} {ls : List Value} {st : List Value} : T d 125 157 ls st h Q ↔ T d 125 159 ls (.int 20 :: st) h Q := T_bipushV c125_157 (by decide)
theorem c125_159 : cod 125 159 = some (.bipush 101, 2) := cod_of b125 dX8_init_159
theorem t125_159 {d : Nat} {h : Hp} {Q : Pst} {ls : List Value} {st : List Value} : T d 125 159 ls st h Q ↔ T d 125 161 ls (.int 101 :: st) h Q := T_bipushV c125_159 (by decide)
theorem c125_161 : cod 125 161 = some (.iastore, 1) := cod_of b125 dX8_init_161
theorem t125_161 {d : Nat} {h : Hp} {Q : Pst} {a : Nat} {i x : Int32} {ls : List Value} {st : List Value} : T d 125 161 ls (.int x :: .int i :: .ref a :: st) h Q ↔ aS (h.2.2 a) i x (fun cell => T d 125 162 ls st (hup h a cell) Q) := T_iastore c125_161
theorem c125_162 : cod 125 162 = some (.dup, 1) := cod_of b125 dX8_init_162
theorem t125_162 {d : Nat} {h : Hp} {Q : Pst} {x : Nat} {ls : List Value} {st : List Value} : T d 125 162 ls (.ref x :: st) h Q ↔ T d 125 163 ls (.ref x :: .ref x :: st) h Q := T_dup c125_162 rfl
theorem c125_163 : cod 125 163 = some (.bipush 21, 2) := cod_of b125 dX8_init_163
theorem t125_163 {d : Nat} {h : Hp} {Q : Pst} {ls : List Value} {st : List Value} : T d 125 163 ls st h Q ↔ T d 125 165 ls (.int 21 :: st) h Q := T_bipushV c125_163 (by decide)
theorem c125_165 : cod 125 165 = some (.iconst 0, 1) := cod_of b125 dX8_init_165
theorem t125_165 {d : Nat} {h : Hp} {Q : Pst} {ls : List Value} {st : List Value} : T d 125 165 ls st h Q ↔ T d 125 166 ls (.int 0 :: st) h Q := T_iconstV c125_165 (by decide)
theorem c125_166 : cod 125 166 = some (.iastore, 1) := cod_of b125 dX8_init_166
theorem t125_166 {d : Nat} {h : Hp} {Q : Pst} {a : Nat} {i x : Int32} {ls : List Value} {st : List Value} : T d 125 166 ls (.int x :: .int i :: .ref a :: st) h Q ↔ aS (h.2.2 a) i x (fun cell => T d 125 167 ls st (hup h a cell) Q) := T_iastore c125_166
theorem c125_167 : cod 125 167 = some (.dup, 1) := cod_of b125 dX8_init_167
theorem t125_167 {d : Nat} {h : Hp} {Q : Pst} {x : Nat} {ls : List Value} {st : List Value} : T d 125 167 ls (.ref x :: st) h Q ↔ T d 125 168 ls (.ref x :: .ref x :: st) h Q := T_dup c125_167 rfl
theorem c125_168 : cod 125 168 = some (.bipush 22, 2) := cod_of b125 dX8_init_168
theorem t125_168 {d : Nat} {h : Hp} {Q : Pst} {ls : List Value} {st : List Value} : T d 125 168 ls st h Q ↔ T d 125 170 ls (.int 22 :: st) h Q := T_bipushV c125_168 (by decide)
theorem c125_170 : cod 125 170 = some (.iconst 0, 1) := cod_of b125 dX8_init_170
theorem t125_170 {d : Nat} {h : Hp} {Q : Pst} {ls : List Value} {st : List Value} : T d 125 170 ls st h Q ↔ T d 125 171 ls (.int 0 :: st) h Q := T_iconstV c125_170 (by decide)
theorem c125_171 : cod 125 171 = some (.iastore, 1) := cod_of b125 dX8_init_171
theorem t125_171 {d : Nat} {h : Hp} {Q : Pst} {a : Nat} {i x : Int32} {ls : List Value} {st : List Value} : T d 125 171 ls (.int x :: .int i :: .ref a :: st) h Q ↔ aS (h.2.2 a) i x (fun cell => T d 125 172 ls st (hup h a cell) Q) := T_iastore c125_171
theorem c125_172 : cod 125 172 = some (.dup, 1) := cod_of b125 dX8_init_172
theorem t125_172 {d : Nat} {h : Hp} {Q : Pst} {x : Nat} {ls : List Value} {st : List Value} : T d 125 172 ls (.ref x :: st) h Q ↔ T d 125 173 ls (.ref x :: .ref x :: st) h Q := T_dup c125_172 rfl
theorem c125_173 : cod 125 173 = some (.bipush 23, 2) := cod_of b125 dX8_init_173
theorem t125_173 {d : Nat} {h : Hp} {Q : Pst} {ls : List Value} {st : List Value} : T d 125 173 ls st h Q ↔ T d 125 175 ls (.int 23 :: st) h Q := T_bipushV c125_173 (by decide)
theorem c125_175 : cod 125 175 = some (.iconst 0, 1) := cod_of b125 dX8_init_175
theorem t125_175 {d : Nat} {h : Hp} {Q : Pst} {ls : List Value} {st : List Value} : T d 125 175 ls st h Q ↔ T d 125 176 ls (.int 0 :: st) h Q := T_iconstV c125_175 (by decide)
theorem c125_176 : cod 125 176 = some (.iastore, 1) := cod_of b125 dX8_init_176
theorem t125_176 {d : Nat} {h : Hp} {Q : Pst} {a : Nat} {i x : Int32} {ls : List Value} {st : List Value} : T d 125 176 ls (.int x :: .int i :: .ref a :: st) h Q ↔ aS (h.2.2 a) i x (fun cell => T d 125 177 ls st (hup h a cell) Q) := T_iastore c125_176
theorem c125_177 : cod 125 177 = some (.dup, 1) := cod_of b125 dX8_init_177
theorem t125_177 {d : Nat} {h : Hp} {Q : Pst} {x : Nat} {ls : List Value} {st : List Value} : T d 125 177 ls (.ref x :: st) h Q ↔ T d 125 178 ls (.ref x :: .ref x :: st) h Q := T_dup c125_177 rfl
theorem c125_178 : cod 125 178 = some (.bipush 24, 2) := cod_of b125 dX8_init_178
theorem t125_178 {d : Nat} {h : Hp} {Q : Pst} {ls : List Value} {st : List Value} : T d 125 178 ls st h Q ↔ T d 125 180 ls (.int 24 :: st) h Q := T_bipushV c125_178 (by decide)
theorem c125_180 : cod 125 180 = some (.bipush 99, 2) := cod_of b125 dX8_init_180
theorem t125_180 {d : Nat} {h : Hp} {Q : Pst} {ls : List Value} {st : List Value} : T d 125 180 ls st h Q ↔ T d 125 182 ls (.int 99 :: st) h Q := T_bipushV c125_180 (by decide)
theorem c125_182 : cod 125 182 = some (.iastore, 1) := cod_of b125 dX8_init_182
theorem t125_182 {d : Nat} {h : Hp} {Q : Pst} {a : Nat} {i x : Int32} {ls : List Value} {st : List Value} : T d 125 182 ls (.int x :: .int i :: .ref a :: st) h Q ↔ aS (h.2.2 a) i x (fun cell => T d 125 183 ls st (hup h a cell) Q) := T_iastore c125_182
theorem c125_183 : cod 125 183 = some (.dup, 1) := cod_of b125 dX8_init_183
theorem t125_183 {d : Nat} {h : Hp} {Q : Pst} {x : Nat} {ls : List Value} {st : List Value} : T d 125 183 ls (.ref x :: st) h Q ↔ T d 125 184 ls (.ref x :: .ref x :: st) h Q := T_dup c125_183 rfl
theorem c125_184 : cod 125 184 = some (.bipush 25, 2) := cod_of b125 dX8_init_184
theorem t125_184 {d : Nat} {h : Hp} {Q : Pst} {ls : List Value} {st : List Value} : T d 125 184 ls st h Q ↔ T d 125 186 ls (.int 25 :: st) h Q := T_bipushV c125_184 (by decide)
theorem c125_186 : cod 125 186 = some (.bipush 97, 2) := cod_of b125 dX8_init_186
theorem t125_186 {d : Nat} {h : Hp} {Q : Pst} {ls : List Value} {st : List Value} : T d 125 186 ls st h Q ↔ T d 125 188 ls (.int 97 :: st) h Q := T_bipushV c125_186 (by decide)
theorem c125_188 : cod 125 188 = some (.iastore, 1) := cod_of b125 dX8_init_188
theorem t125_188 {d : Nat} {h : Hp} {Q : Pst} {a : Nat} {i x : Int32} {ls : List Value} {st : List Value} : T d 125 188 ls (.int x :: .int i :: .ref a :: st) h Q ↔ aS (h.2.2 a) i x (fun cell => T d 125 189 ls st (hup h a cell) Q) := T_iastore c125_188
theorem c125_189 : cod 125 189 = some (.dup, 1) := cod_of b125 dX8_init_189
theorem t125_189 {d : Nat} {h : Hp} {Q : Pst} {x : Nat} {ls : List Value} {st : List Value} : T d 125 189 ls (.ref x :: st) h Q ↔ T d 125 190 ls (.ref x :: .ref x :: st) h Q := T_dup c125_189 rfl
theorem c125_190 : cod 125 190 = some (.bipush 26, 2) := cod_of b125 dX8_init_190
theorem t125_190 {d : Nat} {h : Hp} {Q : Pst} {ls : List Value} {st : List Value} : T d 125 190 ls st h Q ↔ T d 125 192 ls (.int 26 :: st) h Q := T_bipushV c125_190 (by decide)
theorem c125_192 : cod 125 192 = some (.bipush 108, 2) := cod_of b125 dX8_init_192
theorem t125_192 {d : Nat} {h : Hp} {Q : Pst} {ls : List Value} {st : List Value} : T d 125 192 ls st h Q ↔ T d 125 194 ls (.int 108 :: st) h Q := T_bipushV c125_192 (by decide)
theorem c125_194 : cod 125 194 = some (.iastore, 1) := cod_of b125 dX8_init_194
theorem t125_194 {d : Nat} {h : Hp} {Q : Pst} {a : Nat} {i x : Int32} {ls : List Value} {st : List Value} : T d 125 194 ls (.int x :: .int i :: .ref a :: st) h Q ↔ aS (h.2.2 a) i x (fun cell => T d 125 195 ls st (hup h a cell) Q) := T_iastore c125_194
theorem c125_195 : cod 125 195 = some (.dup, 1) := cod_of b125 dX8_init_195
theorem t125_195 {d : Nat} {h : Hp} {Q : Pst} {x : Nat} {ls : List Value} {st : List Value} : T d 125 195 ls (.ref x :: st) h Q ↔ T d 125 196 ls (.ref x :: .ref x :: st) h Q := T_dup c125_195 rfl
theorem c125_196 : cod 125 196 = some (.bipush 27, 2) := cod_of b125 dX8_init_196
theorem t125_196 {d : Nat} {h : Hp} {Q : Pst} {ls : List Value} {st : List Value} : T d 125 196 ls st h Q ↔ T d 125 198 ls (.int 27 :: st) h Q := T_bipushV c125_196 (by decide)
theorem c125_198 : cod 125 198 = some (.bipush 108, 2) := cod_of b125 dX8_init_198
theorem t125_198 {d : Nat} {h : Hp} {Q : Pst} {ls : List Value} {st : List Value} : T d 125 198 ls st h Q ↔ T d 125 200 ls (.int 108 :: st) h Q := T_bipushV c125_198 (by decide)
theorem c125_200 : cod 125 200 = some (.iastore, 1) := cod_of b125 dX8_init_200
theorem t125_200 {d : Nat} {h : Hp} {Q : Pst} {a : Nat} {i x : Int32} {ls : List Value} {st : List Value} : T d 125 200 ls (.int x :: .int i :: .ref a :: st) h Q ↔ aS (h.2.2 a) i x (fun cell => T d 125 201 ls st (hup h a cell) Q) := T_iastore c125_200
theorem c125_201 : cod 125 201 = some (.dup, 1) := cod_of b125 dX8_init_201
theorem t125_201 {d : Nat} {h : Hp} {Q : Pst} {x : Nat} {ls : List Value} {st : List Value} : T d 125 201 ls (.ref x :: st) h Q ↔ T d 125 202 ls (.ref x :: .ref x :: st) h Q := T_dup c125_201 rfl
theorem c125_202 : cod 125 202 = some (.bipush 28, 2) := cod_of b125 dX8_init_202
theorem t125_202 {d : Nat} {h : Hp} {Q : Pst} {ls : List Value} {st : List Value} : T d 125 202 ls st h Q ↔ T d 125 204 ls (.int 28 :: st) h Q := T_bipushV c125_202 (by decide)
theorem c125_204 : cod 125 204 = some (.iconst 0, 1) := cod_of b125 dX8_init_204
theorem t125_204 {d : Nat} {h : Hp} {Q : Pst} {ls : List Value} {st : List Value} : T d 125 204 ls st h Q ↔ T d 125 205 ls (.int 0 :: st) h Q := T_iconstV c125_204 (by decide)
theorem c125_205 : cod 125 205 = some (.iastore, 1) := cod_of b125 dX8_init_205
theorem t125_205 {d : Nat} {h : Hp} {Q : Pst} {a : Nat} {i x : Int32} {ls : List Value} {st : List Value} : T d 125 205 ls (.int x :: .int i :: .ref a :: st) h Q ↔ aS (h.2.2 a) i x (fun cell => T d 125 206 ls st (hup h a cell) Q) := T_iastore c125_205
theorem c125_206 : cod 125 206 = some (.dup, 1) := cod_of b125 dX8_init_206
theorem t125_206 {d : Nat} {h : Hp} {Q : Pst} {x : Nat} {ls : List Value} {st : List Value} : T d 125 206 ls (.ref x :: st) h Q ↔ T d 125 207 ls (.ref x :: .ref x :: st) h Q := T_dup c125_206 rfl
theorem c125_207 : cod 125 207 = some (.bipush 29, 2) := cod_of b125 dX8_init_207
theorem t125_207 {d : Nat} {h : Hp} {Q : Pst} {ls : List Value} {st : List Value} : T d 125 207 ls st h Q ↔ T d 125 209 ls (.int 29 :: st) h Q := T_bipushV c125_207 (by decide)
theorem c125_209 : cod 125 209 = some (.iconst 0, 1) := cod_of b125 dX8_init_209
theorem t125_209 {d : Nat} {h : Hp} {Q : Pst} {ls : List Value} {st : List Value} : T d 125 209 ls st h Q ↔ T d 125 210 ls (.int 0 :: st) h Q := T_iconstV c125_209 (by decide)
theorem c125_210 : cod 125 210 = some (.iastore, 1) := cod_of b125 dX8_init_210
theorem t125_210 {d : Nat} {h : Hp} {Q : Pst} {a : Nat} {i x : Int32} {ls : List Value} {st : List Value} : T d 125 210 ls (.int x :: .int i :: .ref a :: st) h Q ↔ aS (h.2.2 a) i x (fun cell => T d 125 211 ls st (hup h a cell) Q) := T_iastore c125_210
theorem c125_211 : cod 125 211 = some (.dup, 1) := cod_of b125 dX8_init_211
theorem t125_211 {d : Nat} {h : Hp} {Q : Pst} {x : Nat} {ls : List Value} {st : List Value} : T d 125 211 ls (.ref x :: st) h Q ↔ T d 125 212 ls (.ref x :: .ref x :: st) h Q := T_dup c125_211 rfl
theorem c125_212 : cod 125 212 = some (.bipush 30, 2) := cod_of b125 dX8_init_212
theorem t125_212 {d : Nat} {h : Hp} {Q : Pst} {ls : List Value} {st : List Value} : T d 125 212 ls st h Q ↔ T d 125 214 ls (.int 30 :: st) h Q := T_bipushV c125_212 (by decide)
theorem c125_214 : cod 125 214 = some (.iconst 0, 1) := cod_of b125 dX8_init_214
theorem t125_214 {d : Nat} {h : Hp} {Q : Pst} {ls : List Value} {st : List Value} : T d 125 214 ls st h Q ↔ T d 125 215 ls (.int 0 :: st) h Q := T_iconstV c125_214 (by decide)
theorem c125_215 : cod 125 215 = some (.iastore, 1) := cod_of b125 dX8_init_215
theorem t125_215 {d : Nat} {h : Hp} {Q : Pst} {a : Nat} {i x : Int32} {ls : List Value} {st : List Value} : T d 125 215 ls (.int x :: .int i :: .ref a :: st) h Q ↔ aS (h.2.2 a) i x (fun cell => T d 125 216 ls st (hup h a cell) Q) := T_iastore c125_215
theorem c125_216 : cod 125 216 = some (.dup, 1) := cod_of b125 dX8_init_216
theorem t125_216 {d : Nat} {h : Hp} {Q : Pst} {x : Nat} {ls : List Value} {st : List Value} : T d 125 216 ls (.ref x :: st) h Q ↔ T d 125 217 ls (.ref x :: .ref x :: st) h Q := T_dup c125_216 rfl
theorem c125_217 : cod 125 217 = some (.bipush 31, 2) := cod_of b125 dX8_init_217
theorem t125_217 {d : Nat} {h : Hp} {Q : Pst} {ls : List Value} {st : List Value} : T d 125 217 ls st h Q ↔ T d 125 219 ls (.int 31 :: st) h Q := T_bipushV c125_217 (by decide)
theorem c125_219 : cod 125 219 = some (.iconst 0, 1) := cod_of b125 dX8_init_219
theorem t125_219 {d : Nat} {h : Hp} {Q : Pst} {ls : List Value} {st : List Value} : T d 125 219 ls st h Q ↔ T d 125 220 ls (.int 0 :: st) h Q := T_iconstV c125_219 (by decide)
theorem c125_220 : cod 125 220 = some (.iastore, 1) := cod_of b125 dX8_init_220
theorem t125_220 {d : Nat} {h : Hp} {Q : Pst} {a : Nat} {i x : Int32} {ls : List Value} {st : List Value} : T d 125 220 ls (.int x :: .int i :: .ref a :: st) h Q ↔ aS (h.2.2 a) i x (fun cell => T d 125 221 ls st (hup h a cell) Q) := T_iastore c125_220
theorem c125_221 : cod 125 221 = some (.dup, 1) := cod_of b125 dX8_init_221
theorem t125_221 {d : Nat} {h : Hp} {Q : Pst} {x : Nat} {ls : List Value} {st : List Value} : T d 125 221 ls (.ref x :: st) h Q ↔ T d 125 222 ls (.ref x :: .ref x :: st) h Q := T_dup c125_221 rfl
theorem c125_222 : cod 125 222 = some (.bipush 32, 2) := cod_of b125 dX8_init_222
theorem t125_222 {d : Nat} {h : Hp} {Q : Pst} {ls : List Value} {st : List Value} : T d 125 222 ls st h Q ↔ T d 125 224 ls (.int 32 :: st) h Q := T_bipushV c125_222 (by decide)
theorem c125_224 : cod 125 224 = some (.bipush 104, 2) := cod_of b125 dX8_init_224
theorem t125_224 {d : Nat} {h : Hp} {Q : Pst} {ls : List Value} {st : List Value} : T d 125 224 ls st h Q ↔ T d 125 226 ls (.int 104 :: st) h Q := T_bipushV c125_224 (by decide)
theorem c125_226 : cod 125 226 = some (.iastore, 1) := cod_of b125 dX8_init_226
theorem t125_226 {d : Nat} {h : Hp} {Q : Pst} {a : Nat} {i x : Int32} {ls : List Value} {st : List Value} : T d 125 226 ls (.int x :: .int i :: .ref a :: st) h Q ↔ aS (h.2.2 a) i x (fun cell => T d 125 227 ls st (hup h a cell) Q) := T_iastore c125_226
theorem c125_227 : cod 125 227 = some (.dup, 1) := cod_of b125 dX8_init_227
theorem t125_227 {d : Nat} {h : Hp} {Q : Pst} {x : Nat} {ls : List Value} {st : List Value} : T d 125 227 ls (.ref x :: st) h Q ↔ T d 125 228 ls (.ref x :: .ref x :: st) h Q := T_dup c125_227 rfl
theorem c125_228 : cod 125 228 = some (.bipush 33, 2) := cod_of b125 dX8_init_228
theorem t125_228 {d : Nat} {h : Hp} {Q : Pst} {ls : List Value} {st : List Value} : T d 125 228 ls st h Q ↔ T d 125 230 ls (.int 33 :: st) h Q := T_bipushV c125_228 (by decide)
theorem c125_230 : cod 125 230 = some (.bipush 111, 2) := cod_of b125 dX8_init_230
theorem t125_230 {d : Nat} {h : Hp} {Q : Pst} {ls : List Value} {st : List Value} : T d 125 230 ls st h Q ↔ T d 125 232 ls (.int 111 :: st) h Q := T_bipushV c125_230 (by decide)
theorem c125_232 : cod 125 232 = some (.iastore, 1) := cod_of b125 dX8_init_232
theorem t125_232 {d : Nat} {h : Hp} {Q : Pst} {a : Nat} {i x : Int32} {ls : List Value} {st : List Value} : T d 125 232 ls (.int x :: .int i :: .ref a :: st) h Q ↔ aS (h.2.2 a) i x (fun cell => T d 125 233 ls st (hup h a cell) Q) := T_iastore c125_232
theorem c125_233 : cod 125 233 = some (.dup, 1) := cod_of b125 dX8_init_233
theorem t125_233 {d : Nat} {h : Hp} {Q : Pst} {x : Nat} {ls : List Value} {st : List Value} : T d 125 233 ls (.ref x :: st) h Q ↔ T d 125 234 ls (.ref x :: .ref x :: st) h Q := T_dup c125_233 rfl
theorem c125_234 : cod 125 234 = some (.bipush 34, 2) := cod_of b125 dX8_init_234
theorem t125_234 {d : Nat} {h : Hp} {Q : Pst} {ls : List Value} {st : List Value} : T d 125 234 ls st h Q ↔ T d 125 236 ls (.int 34 :: st) h Q := T_bipushV c125_234 (by decide)
theorem c125_236 : cod 125 236 = some (.bipush 109, 2) := cod_of b125 dX8_init_236
theorem t125_236 {d : Nat} {h : Hp} {Q : Pst} {ls : List Value} {st : List Value} : T d 125 236 ls st h Q ↔ T d 125 238 ls (.int 109 :: st) h Q := T_bipushV c125_236 (by decide)
theorem c125_238 : cod 125 238 = some (.iastore, 1) := cod_of b125 dX8_init_238
theorem t125_238 {d : Nat} {h : Hp} {Q : Pst} {a : Nat} {i x : Int32} {ls : List Value} {st : List Value} : T d 125 238 ls (.int x :: .int i :: .ref a :: st) h Q ↔ aS (h.2.2 a) i x (fun cell => T d 125 239 ls st (hup h a cell) Q) := T_iastore c125_238
theorem c125_239 : cod 125 239 = some (.dup, 1) := cod_of b125 dX8_init_239
theorem t125_239 {d : Nat} {h : Hp} {Q : Pst} {x : Nat} {ls : List Value} {st : List Value} : T d 125 239 ls (.ref x :: st) h Q ↔ T d 125 240 ls (.ref x :: .ref x :: st) h Q := T_dup c125_239 rfl
theorem c125_240 : cod 125 240 = some (.bipush 35, 2) := cod_of b125 dX8_init_240
theorem t125_240 {d : Nat} {h : Hp} {Q : Pst} {ls : List Value} {st : List Value} : T d 125 240 ls st h Q ↔ T d 125 242 ls (.int 35 :: st) h Q := T_bipushV c125_240 (by decide)
theorem c125_242 : cod 125 242 = some (.bipush 101, 2) := cod_of b125 dX8_init_242
theorem t125_242 {d : Nat} {h : Hp} {Q : Pst} {ls : List Value} {st : List Value} : T d 125 242 ls st h Q ↔ T d 125 244 ls (.int 101 :: st) h Q := T_bipushV c125_242 (by decide)
theorem c125_244 : cod 125 244 = some (.iastore, 1) := cod_of b125 dX8_init_244
theorem t125_244 {d : Nat} {h : Hp} {Q : Pst} {a : Nat} {i x : Int32} {ls : List Value} {st : List Value} : T d 125 244 ls (.int x :: .int i :: .ref a :: st) h Q ↔ aS (h.2.2 a) i x (fun cell => T d 125 245 ls st (hup h a cell) Q) := T_iastore c125_244
theorem c125_245 : cod 125 245 = some (.dup, 1) := cod_of b125 dX8_init_245
theorem t125_245 {d : Nat} {h : Hp} {Q : Pst} {x : Nat} {ls : List Value} {st : List Value} : T d 125 245 ls (.ref x :: st) h Q ↔ T d 125 246 ls (.ref x :: .ref x :: st) h Q := T_dup c125_245 rfl
theorem c125_246 : cod 125 246 = some (.bipush 36, 2) := cod_of b125 dX8_init_246
theorem t125_246 {d : Nat} {h : Hp} {Q : Pst} {ls : List Value} {st : List Value} : T d 125 246 ls st h Q ↔ T d 125 248 ls (.int 36 :: st) h Q := T_bipushV c125_246 (by decide)
theorem c125_248 : cod 125 248 = some (.iconst 0, 1) := cod_of b125 dX8_init_248
theorem t125_248 {d : Nat} {h : Hp} {Q : Pst} {ls : List Value} {st : List Value} : T d 125 248 ls st h Q ↔ T d 125 249 ls (.int 0 :: st) h Q := T_iconstV c125_248 (by decide)
theorem c125_249 : cod 125 249 = some (.iastore, 1) := cod_of b125 dX8_init_249
theorem t125_249 {d : Nat} {h : Hp} {Q : Pst} {a : Nat} {i x : Int32} {ls : List Value} {st : List Value} : T d 125 249 ls (.int x :: .int i :: .ref a :: st) h Q ↔ aS (h.2.2 a) i x (fun cell => T d 125 250 ls st (hup h a cell) Q) := T_iastore c125_249
theorem c125_250 : cod 125 250 = some (.dup, 1) := cod_of b125 dX8_init_250
theorem t125_250 {d : Nat} {h : Hp} {Q : Pst} {x : Nat} {ls : List Value} {st : List Value} : T d 125 250 ls (.ref x :: st) h Q ↔ T d 125 251 ls (.ref x :: .ref x :: st) h Q := T_dup c125_250 rfl
theorem c125_251 : cod 125 251 = some (.bipush 37, 2) := cod_of b125 dX8_init_251
theorem t125_251 {d : Nat} {h : Hp} {Q : Pst} {ls : List Value} {st : List Value} : T d 125 251 ls st h Q ↔ T d 125 253 ls (.int 37 :: st) h Q := T_bipushV c125_251 (by decide)
theorem c125_253 : cod 125 253 = some (.iconst 0, 1) := cod_of b125 dX8_init_253
theorem t125_253 {d : Nat} {h : Hp} {Q : Pst} {ls : List Value} {st : List Value} : T d 125 253 ls st h Q ↔ T d 125 254 ls (.int 0 :: st) h Q := T_iconstV c125_253 (by decide)
theorem c125_254 : cod 125 254 = some (.iastore, 1) := cod_of b125 dX8_init_254
theorem t125_254 {d : Nat} {h : Hp} {Q : Pst} {a : Nat} {i x : Int32} {ls : List Value} {st : List Value} : T d 125 254 ls (.int x :: .int i :: .ref a :: st) h Q ↔ aS (h.2.2 a) i x (fun cell => T d 125 255 ls st (hup h a cell) Q) := T_iastore c125_254
theorem c125_255 : cod 125 255 = some (.dup, 1) := cod_of b125 dX8_init_255
theorem t125_255 {d : Nat} {h : Hp} {Q : Pst} {x : Nat} {ls : List Value} {st : List Value} : T d 125 255 ls (.ref x :: st) h Q ↔ T d 125 256 ls (.ref x :: .ref x :: st) h Q := T_dup c125_255 rfl
theorem c125_256 : cod 125 256 = some (.bipush 38, 2) := cod_of b125 dX8_init_256
theorem t125_256 {d : Nat} {h : Hp} {Q : Pst} {ls : List Value} {st : List Value} : T d 125 256 ls st h Q ↔ T d 125 258 ls (.int 38 :: st) h Q := T_bipushV c125_256 (by decide)
theorem c125_258 : cod 125 258 = some (.iconst 0, 1) := cod_of b125 dX8_init_258
theorem t125_258 {d : Nat} {h : Hp} {Q : Pst} {ls : List Value} {st : List Value} : T d 125 258 ls st h Q ↔ T d 125 259 ls (.int 0 :: st) h Q := T_iconstV c125_258 (by decide)
theorem c125_259 : cod 125 259 = some (.iastore, 1) := cod_of b125 dX8_init_259
theorem t125_259 {d : Nat} {h : Hp} {Q : Pst} {a : Nat} {i x : Int32} {ls : List Value} {st : List Value} : T d 125 259 ls (.int x :: .int i :: .ref a :: st) h Q ↔ aS (h.2.2 a) i x (fun cell => T d 125 260 ls st (hup h a cell) Q) := T_iastore c125_259
theorem c125_260 : cod 125 260 = some (.dup, 1) := cod_of b125 dX8_init_260
theorem t125_260 {d : Nat} {h : Hp} {Q : Pst} {x : Nat} {ls : List Value} {st : List Value} : T d 125 260 ls (.ref x :: st) h Q ↔ T d 125 261 ls (.ref x :: .ref x :: st) h Q := T_dup c125_260 rfl
theorem c125_261 : cod 125 261 = some (.bipush 39, 2) := cod_of b125 dX8_init_261
theorem t125_261 {d : Nat} {h : Hp} {Q : Pst} {ls : List Value} {st : List Value} : T d 125 261 ls st h Q ↔ T d 125 263 ls (.int 39 :: st) h Q := T_bipushV c125_261 (by decide)
theorem c125_263 : cod 125 263 = some (.iconst 0, 1) := cod_of b125 dX8_init_263
theorem t125_263 {d : Nat} {h : Hp} {Q : Pst} {ls : List Value} {st : List Value} : T d 125 263 ls st h Q ↔ T d 125 264 ls (.int 0 :: st) h Q := T_iconstV c125_263 (by decide)
theorem c125_264 : cod 125 264 = some (.iastore, 1) := cod_of b125 dX8_init_264
theorem t125_264 {d : Nat} {h : Hp} {Q : Pst} {a : Nat} {i x : Int32} {ls : List Value} {st : List Value} : T d 125 264 ls (.int x :: .int i :: .ref a :: st) h Q ↔ aS (h.2.2 a) i x (fun cell => T d 125 265 ls st (hup h a cell) Q) := T_iastore c125_264
theorem c125_265 : cod 125 265 = some (.dup, 1) := cod_of b125 dX8_init_265
theorem t125_265 {d : Nat} {h : Hp} {Q : Pst} {x : Nat} {ls : List Value} {st : List Value} : T d 125 265 ls (.ref x :: st) h Q ↔ T d 125 266 ls (.ref x :: .ref x :: st) h Q := T_dup c125_265 rfl
theorem c125_266 : cod 125 266 = some (.bipush 40, 2) := cod_of b125 dX8_init_266
theorem t125_266 {d : Nat} {h : Hp} {Q : Pst} {ls : List Value} {st : List Value} : T d 125 266 ls st h Q ↔ T d 125 268 ls (.int 40 :: st) h Q := T_bipushV c125_266 (by decide)
theorem c125_268 : cod 125 268 = some (.bipush 101, 2) := cod_of b125 dX8_init_268
theorem t125_268 {d : Nat} {h : Hp} {Q : Pst} {ls : List Value} {st : List Value} : T d 125 268 ls st h Q ↔ T d 125 270 ls (.int 101 :: st) h Q := T_bipushV c125_268 (by decide)
theorem c125_270 : cod 125 270 = some (.iastore, 1) := cod_of b125 dX8_init_270
theorem t125_270 {d : Nat} {h : Hp} {Q : Pst} {a : Nat} {i x : Int32} {ls : List Value} {st : List Value} : T d 125 270 ls (.int x :: .int i :: .ref a :: st) h Q ↔ aS (h.2.2 a) i x (fun cell => T d 125 271 ls st (hup h a cell) Q) := T_iastore c125_270
theorem c125_271 : cod 125 271 = some (.dup, 1) := cod_of b125 dX8_init_271
theorem t125_271 {d : Nat} {h : Hp} {Q : Pst} {x : Nat} {ls : List Value} {st : List Value} : T d 125 271 ls (.ref x :: st) h Q ↔ T d 125 272 ls (.ref x :: .ref x :: st) h Q := T_dup c125_271 rfl
theorem c125_272 : cod 125 272 = some (.bipush 41, 2) := cod_of b125 dX8_init_272
theorem t125_272 {d : Nat} {h : Hp} {Q : Pst} {ls : List Value} {st : List Value} : T d 125 272 ls st h Q ↔ T d 125 274 ls (.int 41 :: st) h Q := T_bipushV c125_272 (by decide)
theorem c125_274 : cod 125 274 = some (.bipush 118, 2) := cod_of b125 dX8_init_274
theorem t125_274 {d : Nat} {h : Hp} {Q : Pst} {ls : List Value} {st : List Value} : T d 125 274 ls st h Q ↔ T d 125 276 ls (.int 118 :: st) h Q := T_bipushV c125_274 (by decide)
theorem c125_276 : cod 125 276 = some (.iastore, 1) := cod_of b125 dX8_init_276
theorem t125_276 {d : Nat} {h : Hp} {Q : Pst} {a : Nat} {i x : Int32} {ls : List Value} {st : List Value} : T d 125 276 ls (.int x :: .int i :: .ref a :: st) h Q ↔ aS (h.2.2 a) i x (fun cell => T d 125 277 ls st (hup h a cell) Q) := T_iastore c125_276
theorem c125_277 : cod 125 277 = some (.dup, 1) := cod_of b125 dX8_init_277
theorem t125_277 {d : Nat} {h : Hp} {Q : Pst} {x : Nat} {ls : List Value} {st : List Value} : T d 125 277 ls (.ref x :: st) h Q ↔ T d 125 278 ls (.ref x :: .ref x :: st) h Q := T_dup c125_277 rfl
theorem c125_278 : cod 125 278 = some (.bipush 42, 2) := cod_of b125 dX8_init_278
theorem t125_278 {d : Nat} {h : Hp} {Q : Pst} {ls : List Value} {st : List Value} : T d 125 278 ls st h Q ↔ T d 125 280 ls (.int 42 :: st) h Q := T_bipushV c125_278 (by decide)
theorem c125_280 : cod 125 280 = some (.bipush 101, 2) := cod_of b125 dX8_init_280
theorem t125_280 {d : Nat} {h : Hp} {Q : Pst} {ls : List Value} {st : List Value} : T d 125 280 ls st h Q ↔ T d 125 282 ls (.int 101 :: st) h Q := T_bipushV c125_280 (by decide)
theorem c125_282 : cod 125 282 = some (.iastore, 1) := cod_of b125 dX8_init_282
theorem t125_282 {d : Nat} {h : Hp} {Q : Pst} {a : Nat} {i x : Int32} {ls : List Value} {st : List Value} : T d 125 282 ls (.int x :: .int i :: .ref a :: st) h Q ↔ aS (h.2.2 a) i x (fun cell => T d 125 283 ls st (hup h a cell) Q) := T_iastore c125_282
theorem c125_283 : cod 125 283 = some (.dup, 1) := cod_of b125 dX8_init_283
theorem t125_283 {d : Nat} {h : Hp} {Q : Pst} {x : Nat} {ls : List Value} {st : List Value} : T d 125 283 ls (.ref x :: st) h Q ↔ T d 125 284 ls (.ref x :: .ref x :: st) h Q := T_dup c125_283 rfl
theorem c125_284 : cod 125 284 = some (.bipush 43, 2) := cod_of b125 dX8_init_284
theorem t125_284 {d : Nat} {h : Hp} {Q : Pst} {ls : List Value} {st : List Value} : T d 125 284 ls st h Q ↔ T d 125 286 ls (.int 43 :: st) h Q := T_bipushV c125_284 (by decide)
theorem c125_286 : cod 125 286 = some (.bipush 110, 2) := cod_of b125 dX8_init_286
theorem t125_286 {d : Nat} {h : Hp} {Q : Pst} {ls : List Value} {st : List Value} : T d 125 286 ls st h Q ↔ T d 125 288 ls (.int 110 :: st) h Q := T_bipushV c125_286 (by decide)
theorem c125_288 : cod 125 288 = some (.iastore, 1) := cod_of b125 dX8_init_288
theorem t125_288 {d : Nat} {h : Hp} {Q : Pst} {a : Nat} {i x : Int32} {ls : List Value} {st : List Value} : T d 125 288 ls (.int x :: .int i :: .ref a :: st) h Q ↔ aS (h.2.2 a) i x (fun cell => T d 125 289 ls st (hup h a cell) Q) := T_iastore c125_288
theorem c125_289 : cod 125 289 = some (.dup, 1) := cod_of b125 dX8_init_289
theorem t125_289 {d : Nat} {h : Hp} {Q : Pst} {x : Nat} {ls : List Value} {st : List Value} : T d 125 289 ls (.ref x :: st) h Q ↔ T d 125 290 ls (.ref x :: .ref x :: st) h Q := T_dup c125_289 rfl
theorem c125_290 : cod 125 290 = some (.bipush 44, 2) := cod_of b125 dX8_init_290
theorem t125_290 {d : Nat} {h : Hp} {Q : Pst} {ls : List Value} {st : List Value} : T d 125 290 ls st h Q ↔ T d 125 292 ls (.int 44 :: st) h Q := T_bipushV c125_290 (by decide)
theorem c125_292 : cod 125 292 = some (.bipush 105, 2) := cod_of b125 dX8_init_292
theorem t125_292 {d : Nat} {h : Hp} {Q : Pst} {ls : List Value} {st : List Value} : T d 125 292 ls st h Q ↔ T d 125 294 ls (.int 105 :: st) h Q := T_bipushV c125_292 (by decide)
theorem c125_294 : cod 125 294 = some (.iastore, 1) := cod_of b125 dX8_init_294
theorem t125_294 {d : Nat} {h : Hp} {Q : Pst} {a : Nat} {i x : Int32} {ls : List Value} {st : List Value} : T d 125 294 ls (.int x :: .int i :: .ref a :: st) h Q ↔ aS (h.2.2 a) i x (fun cell => T d 125 295 ls st (hup h a cell) Q) := T_iastore c125_294
theorem c125_295 : cod 125 295 = some (.dup, 1) := cod_of b125 dX8_init_295
theorem t125_295 {d : Nat} {h : Hp} {Q : Pst} {x : Nat} {ls : List Value} {st : List Value} : T d 125 295 ls (.ref x :: st) h Q ↔ T d 125 296 ls (.ref x :: .ref x :: st) h Q := T_dup c125_295 rfl
theorem c125_296 : cod 125 296 = some (.bipush 45, 2) := cod_of b125 dX8_init_296
theorem t125_296 {d : Nat} {h : Hp} {Q : Pst} {ls : List Value} {st : List Value} : T d 125 296 ls st h Q ↔ T d 125 298 ls (.int 45 :: st) h Q := T_bipushV c125_296 (by decide)
theorem c125_298 : cod 125 298 = some (.bipush 110, 2) := cod_of b125 dX8_init_298
theorem t125_298 {d : Nat} {h : Hp} {Q : Pst} {ls : List Value} {st : List Value} : T d 125 298 ls st h Q ↔ T d 125 300 ls (.int 110 :: st) h Q := T_bipushV c125_298 (by decide)
theorem c125_300 : cod 125 300 = some (.iastore, 1) := cod_of b125 dX8_init_300
theorem t125_300 {d : Nat} {h : Hp} {Q : Pst} {a : Nat} {i x : Int32} {ls : List Value} {st : List Value} : T d 125 300 ls (.int x :: .int i :: .ref a :: st) h Q ↔ aS (h.2.2 a) i x (fun cell => T d 125 301 ls st (hup h a cell) Q) := T_iastore c125_300
theorem c125_301 : cod 125 301 = some (.dup, 1) := cod_of b125 dX8_init_301
theorem t125_301 {d : Nat} {h : Hp} {Q : Pst} {x : Nat} {ls : List Value} {st : List Value} : T d 125 301 ls (.ref x :: st) h Q ↔ T d 125 302 ls (.ref x :: .ref x :: st) h Q := T_dup c125_301 rfl
theorem c125_302 : cod 125 302 = some (.bipush 46, 2) := cod_of b125 dX8_init_302
theorem t125_302 {d : Nat} {h : Hp} {Q : Pst} {ls : List Value} {st : List Value} : T d 125 302 ls st h Q ↔ T d 125 304 ls (.int 46 :: st) h Q := T_bipushV c125_302 (by decide)
theorem c125_304 : cod 125 304 = some (.bipush 103, 2) := cod_of b125 dX8_init_304
theorem t125_304 {d : Nat} {h : Hp} {Q : Pst} {ls : List Value} {st : List Value} : T d 125 304 ls st h Q ↔ T d 125 306 ls (.int 103 :: st) h Q := T_bipushV c125_304 (by decide)
theorem c125_306 : cod 125 306 = some (.iastore, 1) := cod_of b125 dX8_init_306
theorem t125_306 {d : Nat} {h : Hp} {Q : Pst} {a : Nat} {i x : Int32} {ls : List Value} {st : List Value} : T d 125 306 ls (.int x :: .int i :: .ref a :: st) h Q ↔ aS (h.2.2 a) i x (fun cell => T d 125 307 ls st (hup h a cell) Q) := T_iastore c125_306
theorem c125_307 : cod 125 307 = some (.dup, 1) := cod_of b125 dX8_init_307
theorem t125_307 {d : Nat} {h : Hp} {Q : Pst} {x : Nat} {ls : List Value} {st : List Value} : T d 125 307 ls (.ref x :: st) h Q ↔ T d 125 308 ls (.ref x :: .ref x :: st) h Q := T_dup c125_307 rfl
theorem c125_308 : cod 125 308 = some (.bipush 47, 2) := cod_of b125 dX8_init_308
theorem t125_308 {d : Nat} {h : Hp} {Q : Pst} {ls : List Value} {st : List Value} : T d 125 308 ls st h Q ↔ T d 125 310 ls (.int 47 :: st) h Q := T_bipushV c125_308 (by decide)
theorem c125_310 : cod 125 310 = some (.bipush 115, 2) := cod_of b125 dX8_init_310
theorem t125_310 {d : Nat} {h : Hp} {Q : Pst} {ls : List Value} {st : List Value} : T d 125 310 ls st h Q ↔ T d 125 312 ls (.int 115 :: st) h Q := T_bipushV c125_310 (by decide)
theorem c125_312 : cod 125 312 = some (.iastore, 1) := cod_of b125 dX8_init_312
theorem t125_312 {d : Nat} {h : Hp} {Q : Pst} {a : Nat} {i x : Int32} {ls : List Value} {st : List Value} : T d 125 312 ls (.int x :: .int i :: .ref a :: st) h Q ↔ aS (h.2.2 a) i x (fun cell => T d 125 313 ls st (hup h a cell) Q) := T_iastore c125_312
theorem c125_313 : cod 125 313 = some (.putfield 27, 3) := cod_of b125 dX8_init_313
theorem t125_313 {d : Nat} {h : Hp} {Q : Pst} {a x : Nat} {ls : List Value} {st : List Value} : T d 125 313 ls (.ref x :: .ref a :: st) h Q ↔ pF (h.2.2 a) 7 7 (.ref x) (fun cell => T d 125 316 ls st (hup h a cell) Q) := T_putfieldR m125 c125_313 f8_27 (by decide +kernel)
theorem c125_316 : cod 125 316 = some (.aload_n 0, 1) := cod_of b125 dX8_init_316
theorem t125_316 {d : Nat} {h : Hp} {Q : Pst} {x : Nat} {st : List Value} : T d 125 316 [.ref x] st h Q ↔ T d 125 317 [.ref x] (.ref x :: st) h Q := T_aload_n c125_316 rfl
theorem c125_317 : cod 125 317 = some (.bipush 6, 2) := cod_of b125 dX8_init_317
theorem t125_317 {d : Nat} {h : Hp} {Q : Pst} {ls : List Value} {st : List Value} : T d 125 317 ls st h Q ↔ T d 125 319 ls (.int 6 :: st) h Q := T_bipushV c125_317 (by decide)
theorem c125_319 : cod 125 319 = some (.newarray .int, 2) := cod_of b125 dX8_init_319
theorem t125_319 {d : Nat} {h : Hp} {Q : Pst} {x : Int32} {ls : List Value} {st : List Value} : T d 125 319 ls (.int x :: st) h Q ↔ ((0 ≤ x.toInt ∧ x.toInt ≤ 100000) ∧ T d 125 321 ls (.ref h.1 :: st) (hnew h x.toNatClampNeg (oI x.toNatClampNeg fun _ => 0)) Q) := T_newi c125_319
theorem c125_321 : cod 125 321 = some (.putfield 30, 3) := cod_of b125 dX8_init_321
theorem t125_321 {d : Nat} {h : Hp} {Q : Pst} {a x : Nat} {ls : List Value} {st : List Value} : T d 125 321 ls (.ref x :: .ref a :: st) h Q ↔ pF (h.2.2 a) 7 13 (.ref x) (fun cell => T d 125 324 ls st (hup h a cell) Q) := T_putfieldR m125 c125_321 f8_30 (by decide +kernel)
theorem c125_324 : cod 125 324 = some (.aload_n 0, 1) := cod_of b125 dX8_init_324
theorem t125_324 {d : Nat} {h : Hp} {Q : Pst} {x : Nat} {st : List Value} : T d 125 324 [.ref x] st h Q ↔ T d 125 325 [.ref x] (.ref x :: st) h Q := T_aload_n c125_324 rfl
theorem c125_325 : cod 125 325 = some (.bipush 6, 2) := cod_of b125 dX8_init_325
theorem t125_325 {d : Nat} {h : Hp} {Q : Pst} {ls : List Value} {st : List Value} : T d 125 325 ls st h Q ↔ T d 125 327 ls (.int 6 :: st) h Q := T_bipushV c125_325 (by decide)
theorem c125_327 : cod 125 327 = some (.newarray .int, 2) := cod_of b125 dX8_init_327
theorem t125_327 {d : Nat} {h : Hp} {Q : Pst} {x : Int32} {ls : List Value} {st : List Value} : T d 125 327 ls (.int x :: st) h Q ↔ ((0 ≤ x.toInt ∧ x.toInt ≤ 100000) ∧ T d 125 329 ls (.ref h.1 :: st) (hnew h x.toNatClampNeg (oI x.toNatClampNeg fun _ => 0)) Q) := T_newi c125_327
theorem c125_329 : cod 125 329 = some (.putfield 33, 3) := cod_of b125 dX8_init_329
theorem t125_329 {d : Nat} {h : Hp} {Q : Pst} {a x : Nat} {ls : List Value} {st : List Value} : T d 125 329 ls (.ref x :: .ref a :: st) h Q ↔ pF (h.2.2 a) 7 14 (.ref x) (fun cell => T d 125 332 ls st (hup h a cell) Q) := T_putfieldR m125 c125_329 f8_33 (by decide +kernel)
theorem c125_332 : cod 125 332 = some (.aload_n 0, 1) := cod_of b125 dX8_init_332
theorem t125_332 {d : Nat} {h : Hp} {Q : Pst} {x : Nat} {st : List Value} : T d 125 332 [.ref x] st h Q ↔ T d 125 333 [.ref x] (.ref x :: st) h Q := T_aload_n c125_332 rfl
theorem c125_333 : cod 125 333 = some (.bipush 6, 2) := cod_of b125 dX8_init_333
theorem t125_333 {d : Nat} {h : Hp} {Q : Pst} {ls : List Value} {st : List Value} : T d 125 333 ls st h Q ↔ T d 125 335 ls (.int 6 :: st) h Q := T_bipushV c125_333 (by decide)
theorem c125_335 : cod 125 335 = some (.newarray .int, 2) := cod_of b125 dX8_init_335
theorem t125_335 {d : Nat} {h : Hp} {Q : Pst} {x : Int32} {ls : List Value} {st : List Value} : T d 125 335 ls (.int x :: st) h Q ↔ ((0 ≤ x.toInt ∧ x.toInt ≤ 100000) ∧ T d 125 337 ls (.ref h.1 :: st) (hnew h x.toNatClampNeg (oI x.toNatClampNeg fun _ => 0)) Q) := T_newi c125_335
theorem c125_337 : cod 125 337 = some (.putfield 36, 3) := cod_of b125 dX8_init_337
theorem t125_337 {d : Nat} {h : Hp} {Q : Pst} {a x : Nat} {ls : List Value} {st : List Value} : T d 125 337 ls (.ref x :: .ref a :: st) h Q ↔ pF (h.2.2 a) 7 15 (.ref x) (fun cell => T d 125 340 ls st (hup h a cell) Q) := T_putfieldR m125 c125_337 f8_36 (by decide +kernel)
theorem c125_340 : cod 125 340 = some (.aload_n 0, 1) := cod_of b125 dX8_init_340
theorem t125_340 {d : Nat} {h : Hp} {Q : Pst} {x : Nat} {st : List Value} : T d 125 340 [.ref x] st h Q ↔ T d 125 341 [.ref x] (.ref x :: st) h Q := T_aload_n c125_340 rfl
theorem c125_341 : cod 125 341 = some (.bipush 10, 2) := cod_of b125 dX8_init_341
theorem t125_341 {d : Nat} {h : Hp} {Q : Pst} {ls : List Value} {st : List Value} : T d 125 341 ls st h Q ↔ T d 125 343 ls (.int 10 :: st) h Q := T_bipushV c125_341 (by decide)
theorem c125_343 : cod 125 343 = some (.newarray .int, 2) := cod_of b125 dX8_init_343
theorem t125_343 {d : Nat} {h : Hp} {Q : Pst} {x : Int32} {ls : List Value} {st : List Value} : T d 125 343 ls (.int x :: st) h Q ↔ ((0 ≤ x.toInt ∧ x.toInt ≤ 100000) ∧ T d 125 345 ls (.ref h.1 :: st) (hnew h x.toNatClampNeg (oI x.toNatClampNeg fun _ => 0)) Q) := T_newi c125_343
theorem c125_345 : cod 125 345 = some (.putfield 39, 3) := cod_of b125 dX8_init_345
theorem t125_345 {d : Nat} {h : Hp} {Q : Pst} {a x : Nat} {ls : List Value} {st : List Value} : T d 125 345 ls (.ref x :: .ref a :: st) h Q ↔ pF (h.2.2 a) 7 16 (.ref x) (fun cell => T d 125 348 ls st (hup h a cell) Q) := T_putfieldR m125 c125_345 f8_39 (by decide +kernel)
theorem c125_348 : cod 125 348 = some (.aload_n 0, 1) := cod_of b125 dX8_init_348
theorem t125_348 {d : Nat} {h : Hp} {Q : Pst} {x : Nat} {st : List Value} : T d 125 348 [.ref x] st h Q ↔ T d 125 349 [.ref x] (.ref x :: st) h Q := T_aload_n c125_348 rfl
theorem c125_349 : cod 125 349 = some (.bipush 10, 2) := cod_of b125 dX8_init_349
theorem t125_349 {d : Nat} {h : Hp} {Q : Pst} {ls : List Value} {st : List Value} : T d 125 349 ls st h Q ↔ T d 125 351 ls (.int 10 :: st) h Q := T_bipushV c125_349 (by decide)
theorem c125_351 : cod 125 351 = some (.newarray .int, 2) := cod_of b125 dX8_init_351
theorem t125_351 {d : Nat} {h : Hp} {Q : Pst} {x : Int32} {ls : List Value} {st : List Value} : T d 125 351 ls (.int x :: st) h Q ↔ ((0 ≤ x.toInt ∧ x.toInt ≤ 100000) ∧ T d 125 353 ls (.ref h.1 :: st) (hnew h x.toNatClampNeg (oI x.toNatClampNeg fun _ => 0)) Q) := T_newi c125_351
theorem c125_353 : cod 125 353 = some (.putfield 42, 3) := cod_of b125 dX8_init_353
theorem t125_353 {d : Nat} {h : Hp} {Q : Pst} {a x : Nat} {ls : List Value} {st : List Value} : T d 125 353 ls (.ref x :: .ref a :: st) h Q ↔ pF (h.2.2 a) 7 17 (.ref x) (fun cell => T d 125 356 ls st (hup h a cell) Q) := T_putfieldR m125 c125_353 f8_42 (by decide +kernel)
theorem c125_356 : cod 125 356 = some (.return_, 1) := cod_of b125 dX8_init_356
theorem t125_356 {d : Nat} {h : Hp} {Q : Pst} {ls : List Value} : T d 125 356 ls [] h Q ↔ Q none h := T_retR m125 c125_356 rfl
theorem b126 : (mR 126).2.2.1 = cX8_in := by rw [m126]
theorem c126_0 : cod 126 0 = some (.iload_n 0, 1) := cod_of b126 dX8_in_0
theorem t126_0 {d : Nat} {h : Hp} {Q : Pst} {l1 l2 : Value} {x : Int32} {st : List Value} : T d 126 0 [.int x, l1, l2] st h Q ↔ T d 126 1 [.int x, l1, l2] (.int x :: st) h Q := T_iload_n c126_0 rfl
theorem c126_1 : cod 126 1 = some (.iload_n 1, 1) := cod_of b126 dX8_in_1
theorem t126_1 {d : Nat} {h : Hp} {Q : Pst} {l0 l2 : Value} {x : Int32} {st : List Value} : T d 126 1 [l0, .int x, l2] st h Q ↔ T d 126 2 [l0, .int x, l2] (.int x :: st) h Q := T_iload_n c126_1 rfl
theorem c126_2 : cod 126 2 = some (.if_icmp .lt 12, 3) := cod_of b126 dX8_in_2
theorem t126_2 {d : Nat} {h : Hp} {Q : Pst} {x y : Int32} {ls : List Value} {st : List Value} : T d 126 2 ls (.int y :: .int x :: st) h Q ↔ (if x < y then T d 126 14 ls st h Q else T d 126 5 ls st h Q) := T_icmp_lt c126_2 (by decide)
theorem c126_5 : cod 126 5 = some (.iload_n 0, 1) := cod_of b126 dX8_in_5
theorem t126_5 {d : Nat} {h : Hp} {Q : Pst} {l1 l2 : Value} {x : Int32} {st : List Value} : T d 126 5 [.int x, l1, l2] st h Q ↔ T d 126 6 [.int x, l1, l2] (.int x :: st) h Q := T_iload_n c126_5 rfl
theorem c126_6 : cod 126 6 = some (.iload_n 2, 1) := cod_of b126 dX8_in_6
theorem t126_6 {d : Nat} {h : Hp} {Q : Pst} {l0 l1 : Value} {x : Int32} {st : List Value} : T d 126 6 [l0, l1, .int x] st h Q ↔ T d 126 7 [l0, l1, .int x] (.int x :: st) h Q := T_iload_n c126_6 rfl
theorem c126_7 : cod 126 7 = some (.if_icmp .gt 7, 3) := cod_of b126 dX8_in_7
theorem t126_7 {d : Nat} {h : Hp} {Q : Pst} {x y : Int32} {ls : List Value} {st : List Value} : T d 126 7 ls (.int y :: .int x :: st) h Q ↔ (if y < x then T d 126 14 ls st h Q else T d 126 10 ls st h Q) := T_icmp_gt c126_7 (by decide)
theorem c126_10 : cod 126 10 = some (.iconst 1, 1) := cod_of b126 dX8_in_10
theorem t126_10 {d : Nat} {h : Hp} {Q : Pst} {ls : List Value} {st : List Value} : T d 126 10 ls st h Q ↔ T d 126 11 ls (.int 1 :: st) h Q := T_iconstV c126_10 (by decide)
theorem c126_11 : cod 126 11 = some (.goto 4, 3) := cod_of b126 dX8_in_11
theorem t126_11 {d : Nat} {h : Hp} {Q : Pst} {ls : List Value} {st : List Value} : T d 126 11 ls st h Q ↔ T d 126 15 ls st h Q := T_goto c126_11 (by decide)
theorem c126_15 : cod 126 15 = some (.ireturn, 1) := cod_of b126 dX8_in_15
theorem t126_15 {d : Nat} {h : Hp} {Q : Pst} {x : Int32} {ls : List Value} : T d 126 15 ls [.int x] h Q ↔ (narrow .boolean (.int x) = .int x ∧ Q (some (.int x)) h) := T_zretR m126 c126_15 rfl
theorem c126_14 : cod 126 14 = some (.iconst 0, 1) := cod_of b126 dX8_in_14
theorem t126_14 {d : Nat} {h : Hp} {Q : Pst} {ls : List Value} {st : List Value} : T d 126 14 ls st h Q ↔ T d 126 15 ls (.int 0 :: st) h Q := T_iconstV c126_14 (by decide)
theorem b127 : (mR 127).2.2.1 = cX8_has := by rw [m127]
theorem c127_0 : cod 127 0 = some (.iload_n 0, 1) := cod_of b127 dX8_has_0
theorem t127_0 {d : Nat} {h : Hp} {Q : Pst} {l1 : Value} {x : Int32} {st : List Value} : T d 127 0 [.int x, l1] st h Q ↔ T d 127 1 [.int x, l1] (.int x :: st) h Q := T_iload_n c127_0 rfl
theorem c127_1 : cod 127 1 = some (.iload_n 1, 1) := cod_of b127 dX8_has_1
theorem t127_1 {d : Nat} {h : Hp} {Q : Pst} {l0 : Value} {x : Int32} {st : List Value} : T d 127 1 [l0, .int x] st h Q ↔ T d 127 2 [l0, .int x] (.int x :: st) h Q := T_iload_n c127_1 rfl
theorem c127_2 : cod 127 2 = some (.ishr, 1) := cod_of b127 dX8_has_2
theorem t127_2 {d : Nat} {h : Hp} {Q : Pst} {x y : Int32} {ls : List Value} {st : List Value} : T d 127 2 ls (.int y :: .int x :: st) h Q ↔ T d 127 3 ls (.int (x >>> (y &&& 31)) :: st) h Q := T_ishr c127_2
theorem c127_3 : cod 127 3 = some (.iconst 1, 1) := cod_of b127 dX8_has_3
theorem t127_3 {d : Nat} {h : Hp} {Q : Pst} {ls : List Value} {st : List Value} : T d 127 3 ls st h Q ↔ T d 127 4 ls (.int 1 :: st) h Q := T_iconstV c127_3 (by decide)
theorem c127_4 : cod 127 4 = some (.iand, 1) := cod_of b127 dX8_has_4
theorem t127_4 {d : Nat} {h : Hp} {Q : Pst} {x y : Int32} {ls : List Value} {st : List Value} : T d 127 4 ls (.int y :: .int x :: st) h Q ↔ T d 127 5 ls (.int (x &&& y) :: st) h Q := T_iand c127_4
theorem c127_5 : cod 127 5 = some (.iconst 1, 1) := cod_of b127 dX8_has_5
theorem t127_5 {d : Nat} {h : Hp} {Q : Pst} {ls : List Value} {st : List Value} : T d 127 5 ls st h Q ↔ T d 127 6 ls (.int 1 :: st) h Q := T_iconstV c127_5 (by decide)
theorem c127_6 : cod 127 6 = some (.if_icmp .ne 7, 3) := cod_of b127 dX8_has_6
theorem t127_6 {d : Nat} {h : Hp} {Q : Pst} {x y : Int32} {ls : List Value} {st : List Value} : T d 127 6 ls (.int y :: .int x :: st) h Q ↔ (if ¬ x = y then T d 127 13 ls st h Q else T d 127 9 ls st h Q) := T_icmp_ne c127_6 (by decide)
theorem c127_9 : cod 127 9 = some (.iconst 1, 1) := cod_of b127 dX8_has_9
theorem t127_9 {d : Nat} {h : Hp} {Q : Pst} {ls : List Value} {st : List Value} : T d 127 9 ls st h Q ↔ T d 127 10 ls (.int 1 :: st) h Q := T_iconstV c127_9 (by decide)
theorem c127_10 : cod 127 10 = some (.goto 4, 3) := cod_of b127 dX8_has_10
theorem t127_10 {d : Nat} {h : Hp} {Q : Pst} {ls : List Value} {st : List Value} : T d 127 10 ls st h Q ↔ T d 127 14 ls st h Q := T_goto c127_10 (by decide)
theorem c127_14 : cod 127 14 = some (.ireturn, 1) := cod_of b127 dX8_has_14
theorem t127_14 {d : Nat} {h : Hp} {Q : Pst} {x : Int32} {ls : List Value} : T d 127 14 ls [.int x] h Q ↔ (narrow .boolean (.int x) = .int x ∧ Q (some (.int x)) h) := T_zretR m127 c127_14 rfl
theorem c127_13 : cod 127 13 = some (.iconst 0, 1) := cod_of b127 dX8_has_13
theorem t127_13 {d : Nat} {h : Hp} {Q : Pst} {ls : List Value} {st : List Value} : T d 127 13 ls st h Q ↔ T d 127 14 ls (.int 0 :: st) h Q := T_iconstV c127_13 (by decide)
theorem b128 : (mR 128).2.2.1 = cX8_bits := by rw [m128]
theorem c128_0 : cod 128 0 = some (.iconst 0, 1) := cod_of b128 dX8_bits_0
theorem t128_0 {d : Nat} {h : Hp} {Q : Pst} {ls : List Value} {st : List Value} : T d 128 0 ls st h Q ↔ T d 128 1 ls (.int 0 :: st) h Q := T_iconstV c128_0 (by decide)
theorem c128_1 : cod 128 1 = some (.istore_n 1, 1) := cod_of b128 dX8_bits_1
theorem t128_1 {d : Nat} {h : Hp} {Q : Pst} {l0 l1 l2 : Value} {x : Int32} {st : List Value} : T d 128 1 [l0, l1, l2] (.int x :: st) h Q ↔ T d 128 2 [kil l0, .int x, l2] st h Q := T_istore_n c128_1 (Nat.le_of_ble_eq_true rfl)
theorem c128_2 : cod 128 2 = some (.iconst 0, 1) := cod_of b128 dX8_bits_2
theorem t128_2 {d : Nat} {h : Hp} {Q : Pst} {ls : List Value} {st : List Value} : T d 128 2 ls st h Q ↔ T d 128 3 ls (.int 0 :: st) h Q := T_iconstV c128_2 (by decide)
theorem c128_3 : cod 128 3 = some (.istore_n 2, 1) := cod_of b128 dX8_bits_3
theorem t128_3 {d : Nat} {h : Hp} {Q : Pst} {l0 l1 l2 : Value} {x : Int32} {st : List Value} : T d 128 3 [l0, l1, l2] (.int x :: st) h Q ↔ T d 128 4 [l0, kil l1, .int x] st h Q := T_istore_n c128_3 (Nat.le_of_ble_eq_true rfl)
theorem c128_4 : cod 128 4 = some (.iload_n 2, 1) := cod_of b128 dX8_bits_4
theorem t128_4 {d : Nat} {h : Hp} {Q : Pst} {l0 l1 : Value} {x : Int32} {st : List Value} : T d 128 4 [l0, l1, .int x] st h Q ↔ T d 128 5 [l0, l1, .int x] (.int x :: st) h Q := T_iload_n c128_4 rfl
theorem c128_5 : cod 128 5 = some (.bipush 6, 2) := cod_of b128 dX8_bits_5
theorem t128_5 {d : Nat} {h : Hp} {Q : Pst} {ls : List Value} {st : List Value} : T d 128 5 ls st h Q ↔ T d 128 7 ls (.int 6 :: st) h Q := T_bipushV c128_5 (by decide)
theorem c128_7 : cod 128 7 = some (.if_icmp .ge 17, 3) := cod_of b128 dX8_bits_7
theorem t128_7 {d : Nat} {h : Hp} {Q : Pst} {x y : Int32} {ls : List Value} {st : List Value} : T d 128 7 ls (.int y :: .int x :: st) h Q ↔ (if y ≤ x then T d 128 24 ls st h Q else T d 128 10 ls st h Q) := T_icmp_ge c128_7 (by decide)
theorem c128_10 : cod 128 10 = some (.iload_n 1, 1) := cod_of b128 dX8_bits_10
theorem t128_10 {d : Nat} {h : Hp} {Q : Pst} {l0 l2 : Value} {x : Int32} {st : List Value} : T d 128 10 [l0, .int x, l2] st h Q ↔ T d 128 11 [l0, .int x, l2] (.int x :: st) h Q := T_iload_n c128_10 rfl
theorem c128_11 : cod 128 11 = some (.iload_n 0, 1) := cod_of b128 dX8_bits_11
theorem t128_11 {d : Nat} {h : Hp} {Q : Pst} {l1 l2 : Value} {x : Int32} {st : List Value} : T d 128 11 [.int x, l1, l2] st h Q ↔ T d 128 12 [.int x, l1, l2] (.int x :: st) h Q := T_iload_n c128_11 rfl
theorem c128_12 : cod 128 12 = some (.iload_n 2, 1) := cod_of b128 dX8_bits_12
theorem t128_12 {d : Nat} {h : Hp} {Q : Pst} {l0 l1 : Value} {x : Int32} {st : List Value} : T d 128 12 [l0, l1, .int x] st h Q ↔ T d 128 13 [l0, l1, .int x] (.int x :: st) h Q := T_iload_n c128_12 rfl
theorem c128_13 : cod 128 13 = some (.ishr, 1) := cod_of b128 dX8_bits_13
theorem t128_13 {d : Nat} {h : Hp} {Q : Pst} {x y : Int32} {ls : List Value} {st : List Value} : T d 128 13 ls (.int y :: .int x :: st) h Q ↔ T d 128 14 ls (.int (x >>> (y &&& 31)) :: st) h Q := T_ishr c128_13
theorem c128_14 : cod 128 14 = some (.iconst 1, 1) := cod_of b128 dX8_bits_14
theorem t128_14 {d : Nat} {h : Hp} {Q : Pst} {ls : List Value} {st : List Value} : T d 128 14 ls st h Q ↔ T d 128 15 ls (.int 1 :: st) h Q := T_iconstV c128_14 (by decide)
theorem c128_15 : cod 128 15 = some (.iand, 1) := cod_of b128 dX8_bits_15
theorem t128_15 {d : Nat} {h : Hp} {Q : Pst} {x y : Int32} {ls : List Value} {st : List Value} : T d 128 15 ls (.int y :: .int x :: st) h Q ↔ T d 128 16 ls (.int (x &&& y) :: st) h Q := T_iand c128_15
theorem c128_16 : cod 128 16 = some (.iadd, 1) := cod_of b128 dX8_bits_16
theorem t128_16 {d : Nat} {h : Hp} {Q : Pst} {x y : Int32} {ls : List Value} {st : List Value} : T d 128 16 ls (.int y :: .int x :: st) h Q ↔ T d 128 17 ls (.int (x + y) :: st) h Q := T_iadd c128_16
theorem c128_17 : cod 128 17 = some (.istore_n 1, 1) := cod_of b128 dX8_bits_17
theorem t128_17 {d : Nat} {h : Hp} {Q : Pst} {l0 l1 l2 : Value} {x : Int32} {st : List Value} : T d 128 17 [l0, l1, l2] (.int x :: st) h Q ↔ T d 128 18 [kil l0, .int x, l2] st h Q := T_istore_n c128_17 (Nat.le_of_ble_eq_true rfl)
theorem c128_18 : cod 128 18 = some (.iinc 2 1, 3) := cod_of b128 dX8_bits_18
theorem t128_18 {d : Nat} {h : Hp} {Q : Pst} {l0 l1 : Value} {x : Int32} {st : List Value} : T d 128 18 [l0, l1, .int x] st h Q ↔ T d 128 21 [l0, kil l1, .int (x + 1)] st h Q := T_iincV c128_18 rfl (Nat.le_of_ble_eq_true rfl) (by decide) rfl
theorem c128_21 : cod 128 21 = some (.goto (-17), 3) := cod_of b128 dX8_bits_21
theorem t128_21 {d : Nat} {h : Hp} {Q : Pst} {ls : List Value} {st : List Value} : T d 128 21 ls st h Q ↔ T d 128 4 ls st h Q := T_goto c128_21 (by decide)
theorem c128_24 : cod 128 24 = some (.iload_n 1, 1) := cod_of b128 dX8_bits_24
theorem t128_24 {d : Nat} {h : Hp} {Q : Pst} {l0 l2 : Value} {x : Int32} {st : List Value} : T d 128 24 [l0, .int x, l2] st h Q ↔ T d 128 25 [l0, .int x, l2] (.int x :: st) h Q := T_iload_n c128_24 rfl
theorem c128_25 : cod 128 25 = some (.ireturn, 1) := cod_of b128 dX8_bits_25
theorem t128_25 {d : Nat} {h : Hp} {Q : Pst} {x : Int32} {ls : List Value} : T d 128 25 ls [.int x] h Q ↔ Q (some (.int x)) h := T_iretR m128 c128_25 rfl
theorem b129 : (mR 129).2.2.1 = cX8_refuse := by rw [m129]
theorem c129_0 : cod 129 0 = some (.aload_n 0, 1) := cod_of b129 dX8_refuse_0
theorem t129_0 {d : Nat} {h : Hp} {Q : Pst} {l1 : Value} {x : Nat} {st : List Value} : T d 129 0 [.ref x, l1] st h Q ↔ T d 129 1 [.ref x, l1] (.ref x :: st) h Q := T_aload_n c129_0 rfl
theorem c129_1 : cod 129 1 = some (.getfield 17, 3) := cod_of b129 dX8_refuse_1
theorem t129_1 {d : Nat} {h : Hp} {Q : Pst} {a : Nat} {ls : List Value} {st : List Value} : T d 129 1 ls (.ref a :: st) h Q ↔ gF (h.2.2 a) 7 2 (fun v => T d 129 4 ls (v :: st) h Q) := T_getfieldR m129 c129_1 f8_17
theorem c129_4 : cod 129 4 = some (.iload_n 1, 1) := cod_of b129 dX8_refuse_4
theorem t129_4 {d : Nat} {h : Hp} {Q : Pst} {l0 : Value} {x : Int32} {st : List Value} : T d 129 4 [l0, .int x] st h Q ↔ T d 129 5 [l0, .int x] (.int x :: st) h Q := T_iload_n c129_4 rfl
theorem c129_5 : cod 129 5 = some (.bipush (-3), 2) := cod_of b129 dX8_refuse_5
theorem t129_5 {d : Nat} {h : Hp} {Q : Pst} {ls : List Value} {st : List Value} : T d 129 5 ls st h Q ↔ T d 129 7 ls (.int (-3) :: st) h Q := T_bipushV c129_5 (by decide)
theorem c129_7 : cod 129 7 = some (.if_icmp .ne 7, 3) := cod_of b129 dX8_refuse_7
theorem t129_7 {d : Nat} {h : Hp} {Q : Pst} {x y : Int32} {ls : List Value} {st : List Value} : T d 129 7 ls (.int y :: .int x :: st) h Q ↔ (if ¬ x = y then T d 129 14 ls st h Q else T d 129 10 ls st h Q) := T_icmp_ne c129_7 (by decide)
theorem c129_10 : cod 129 10 = some (.iconst 1, 1) := cod_of b129 dX8_refuse_10
theorem t129_10 {d : Nat} {h : Hp} {Q : Pst} {ls : List Value} {st : List Value} : T d 129 10 ls st h Q ↔ T d 129 11 ls (.int 1 :: st) h Q := T_iconstV c129_10 (by decide)
theorem c129_11 : cod 129 11 = some (.goto 14, 3) := cod_of b129 dX8_refuse_11
theorem t129_11 {d : Nat} {h : Hp} {Q : Pst} {ls : List Value} {st : List Value} : T d 129 11 ls st h Q ↔ T d 129 25 ls st h Q := T_goto c129_11 (by decide)
theorem c129_25 : cod 129 25 = some (.dup2, 1) := cod_of b129 dX8_refuse_25
theorem t129_25 {d : Nat} {h : Hp} {Q : Pst} {x : Int32} {y : Nat} {ls : List Value} {st : List Value} : T d 129 25 ls (.int x :: .ref y :: st) h Q ↔ T d 129 26 ls (.int x :: .ref y :: .int x :: .ref y :: st) h Q := T_dup2 c129_25 rfl rfl
theorem c129_26 : cod 129 26 = some (.iaload, 1) := cod_of b129 dX8_refuse_26
theorem t129_26 {d : Nat} {h : Hp} {Q : Pst} {a : Nat} {i : Int32} {ls : List Value} {st : List Value} : T d 129 26 ls (.int i :: .ref a :: st) h Q ↔ aL (h.2.2 a) i (fun x => T d 129 27 ls (.int x :: st) h Q) := T_iaload c129_26
theorem c129_27 : cod 129 27 = some (.iconst 1, 1) := cod_of b129 dX8_refuse_27
theorem t129_27 {d : Nat} {h : Hp} {Q : Pst} {ls : List Value} {st : List Value} : T d 129 27 ls st h Q ↔ T d 129 28 ls (.int 1 :: st) h Q := T_iconstV c129_27 (by decide)
theorem c129_28 : cod 129 28 = some (.iadd, 1) := cod_of b129 dX8_refuse_28
theorem t129_28 {d : Nat} {h : Hp} {Q : Pst} {x y : Int32} {ls : List Value} {st : List Value} : T d 129 28 ls (.int y :: .int x :: st) h Q ↔ T d 129 29 ls (.int (x + y) :: st) h Q := T_iadd c129_28
theorem c129_29 : cod 129 29 = some (.iastore, 1) := cod_of b129 dX8_refuse_29
theorem t129_29 {d : Nat} {h : Hp} {Q : Pst} {a : Nat} {i x : Int32} {ls : List Value} {st : List Value} : T d 129 29 ls (.int x :: .int i :: .ref a :: st) h Q ↔ aS (h.2.2 a) i x (fun cell => T d 129 30 ls st (hup h a cell) Q) := T_iastore c129_29
theorem c129_30 : cod 129 30 = some (.iload_n 1, 1) := cod_of b129 dX8_refuse_30
theorem t129_30 {d : Nat} {h : Hp} {Q : Pst} {l0 : Value} {x : Int32} {st : List Value} : T d 129 30 [l0, .int x] st h Q ↔ T d 129 31 [l0, .int x] (.int x :: st) h Q := T_iload_n c129_30 rfl
theorem c129_31 : cod 129 31 = some (.ireturn, 1) := cod_of b129 dX8_refuse_31
theorem t129_31 {d : Nat} {h : Hp} {Q : Pst} {x : Int32} {ls : List Value} : T d 129 31 ls [.int x] h Q ↔ Q (some (.int x)) h := T_iretR m129 c129_31 rfl
theorem c129_14 : cod 129 14 = some (.iload_n 1, 1) := cod_of b129 dX8_refuse_14
theorem t129_14 {d : Nat} {h : Hp} {Q : Pst} {l0 : Value} {x : Int32} {st : List Value} : T d 129 14 [l0, .int x] st h Q ↔ T d 129 15 [l0, .int x] (.int x :: st) h Q := T_iload_n c129_14 rfl
theorem c129_15 : cod 129 15 = some (.bipush (-4), 2) := cod_of b129 dX8_refuse_15
theorem t129_15 {d : Nat} {h : Hp} {Q : Pst} {ls : List Value} {st : List Value} : T d 129 15 ls st h Q ↔ T d 129 17 ls (.int (-4) :: st) h Q := T_bipushV c129_15 (by decide)
theorem c129_17 : cod 129 17 = some (.if_icmp .ne 7, 3) := cod_of b129 dX8_refuse_17
theorem t129_17 {d : Nat} {h : Hp} {Q : Pst} {x y : Int32} {ls : List Value} {st : List Value} : T d 129 17 ls (.int y :: .int x :: st) h Q ↔ (if ¬ x = y then T d 129 24 ls st h Q else T d 129 20 ls st h Q) := T_icmp_ne c129_17 (by decide)
theorem c129_20 : cod 129 20 = some (.iconst 2, 1) := cod_of b129 dX8_refuse_20
theorem t129_20 {d : Nat} {h : Hp} {Q : Pst} {ls : List Value} {st : List Value} : T d 129 20 ls st h Q ↔ T d 129 21 ls (.int 2 :: st) h Q := T_iconstV c129_20 (by decide)
theorem c129_21 : cod 129 21 = some (.goto 4, 3) := cod_of b129 dX8_refuse_21
theorem t129_21 {d : Nat} {h : Hp} {Q : Pst} {ls : List Value} {st : List Value} : T d 129 21 ls st h Q ↔ T d 129 25 ls st h Q := T_goto c129_21 (by decide)
theorem c129_24 : cod 129 24 = some (.iconst 0, 1) := cod_of b129 dX8_refuse_24
theorem t129_24 {d : Nat} {h : Hp} {Q : Pst} {ls : List Value} {st : List Value} : T d 129 24 ls st h Q ↔ T d 129 25 ls (.int 0 :: st) h Q := T_iconstV c129_24 (by decide)
theorem b130 : (mR 130).2.2.1 = cX8_badAs := by rw [m130]
theorem c130_0 : cod 130 0 = some (.aload_n 0, 1) := cod_of b130 dX8_badAs_0
theorem t130_0 {d : Nat} {h : Hp} {Q : Pst} {l1 : Value} {x : Nat} {st : List Value} : T d 130 0 [.ref x, l1] st h Q ↔ T d 130 1 [.ref x, l1] (.ref x :: st) h Q := T_aload_n c130_0 rfl
theorem c130_1 : cod 130 1 = some (.bipush (-2), 2) := cod_of b130 dX8_badAs_1
theorem t130_1 {d : Nat} {h : Hp} {Q : Pst} {ls : List Value} {st : List Value} : T d 130 1 ls st h Q ↔ T d 130 3 ls (.int (-2) :: st) h Q := T_bipushV c130_1 (by decide)
theorem c130_3 : cod 130 3 = some (.invokevirtual 45, 3) := cod_of b130 dX8_badAs_3
theorem t130_3 {d : Nat} {h : Hp} {Q : Pst} {a0 : Int32} {a : Nat} {ls : List Value} (ho : isO (h.2.2 a) 7) : T (d + 1) 130 3 ls [.int a0, .ref a] h Q ↔ T d 129 0 [.ref a, .int a0] [] h (fun x h2 => T (d + 1) 130 6 ls (rl x []) h2 Q) := T_virtualR (as := [.int a0]) (r := []) m130 m129 c130_3 k8_45  rfl (by decide) rfl (by simp [wrd, Value.category]) (by simp [stk, Value.category]) rfl (by decide +kernel) ho
theorem c130_6 : cod 130 6 = some (.pop, 1) := cod_of b130 dX8_badAs_6
theorem t130_6 {d : Nat} {h : Hp} {Q : Pst} {x : Int32} {ls : List Value} {st : List Value} : T d 130 6 ls (.int x :: st) h Q ↔ T d 130 7 ls st h Q := T_pop c130_6 rfl
theorem c130_7 : cod 130 7 = some (.iload_n 1, 1) := cod_of b130 dX8_badAs_7
theorem t130_7 {d : Nat} {h : Hp} {Q : Pst} {l0 : Value} {x : Int32} {st : List Value} : T d 130 7 [l0, .int x] st h Q ↔ T d 130 8 [l0, .int x] (.int x :: st) h Q := T_iload_n c130_7 rfl
theorem c130_8 : cod 130 8 = some (.ireturn, 1) := cod_of b130 dX8_badAs_8
theorem t130_8 {d : Nat} {h : Hp} {Q : Pst} {x : Int32} {ls : List Value} : T d 130 8 ls [.int x] h Q ↔ Q (some (.int x)) h := T_iretR m130 c130_8 rfl
theorem b131 : (mR 131).2.2.1 = cX8_layUplands := by rw [m131]
theorem c131_0 : cod 131 0 = some (.iconst 0, 1) := cod_of b131 dX8_layUplands_0
theorem t131_0 {d : Nat} {h : Hp} {Q : Pst} {ls : List Value} {st : List Value} : T d 131 0 ls st h Q ↔ T d 131 1 ls (.int 0 :: st) h Q := T_iconstV c131_0 (by decide)
theorem c131_1 : cod 131 1 = some (.istore_n 2, 1) := cod_of b131 dX8_layUplands_1
theorem t131_1 {d : Nat} {h : Hp} {Q : Pst} {l0 l1 l2 : Value} {x : Int32} {st : List Value} : T d 131 1 [l0, l1, l2] (.int x :: st) h Q ↔ T d 131 2 [l0, kil l1, .int x] st h Q := T_istore_n c131_1 (Nat.le_of_ble_eq_true rfl)
theorem c131_2 : cod 131 2 = some (.iload_n 2, 1) := cod_of b131 dX8_layUplands_2
theorem t131_2 {d : Nat} {h : Hp} {Q : Pst} {l0 l1 : Value} {x : Int32} {st : List Value} : T d 131 2 [l0, l1, .int x] st h Q ↔ T d 131 3 [l0, l1, .int x] (.int x :: st) h Q := T_iload_n c131_2 rfl
theorem c131_3 : cod 131 3 = some (.sipush 208, 3) := cod_of b131 dX8_layUplands_3
theorem t131_3 {d : Nat} {h : Hp} {Q : Pst} {ls : List Value} {st : List Value} : T d 131 3 ls st h Q ↔ T d 131 6 ls (.int 208 :: st) h Q := T_sipushV c131_3 (by decide)
theorem c131_6 : cod 131 6 = some (.if_icmp .ge 16, 3) := cod_of b131 dX8_layUplands_6
theorem t131_6 {d : Nat} {h : Hp} {Q : Pst} {x y : Int32} {ls : List Value} {st : List Value} : T d 131 6 ls (.int y :: .int x :: st) h Q ↔ (if y ≤ x then T d 131 22 ls st h Q else T d 131 9 ls st h Q) := T_icmp_ge c131_6 (by decide)
theorem c131_9 : cod 131 9 = some (.aload_n 0, 1) := cod_of b131 dX8_layUplands_9
theorem t131_9 {d : Nat} {h : Hp} {Q : Pst} {l1 l2 : Value} {x : Nat} {st : List Value} : T d 131 9 [.ref x, l1, l2] st h Q ↔ T d 131 10 [.ref x, l1, l2] (.ref x :: st) h Q := T_aload_n c131_9 rfl
theorem c131_10 : cod 131 10 = some (.getfield 7, 3) := cod_of b131 dX8_layUplands_10
theorem t131_10 {d : Nat} {h : Hp} {Q : Pst} {a : Nat} {ls : List Value} {st : List Value} : T d 131 10 ls (.ref a :: st) h Q ↔ gF (h.2.2 a) 7 0 (fun v => T d 131 13 ls (v :: st) h Q) := T_getfieldR m131 c131_10 f8_7
theorem c131_13 : cod 131 13 = some (.iload_n 2, 1) := cod_of b131 dX8_layUplands_13
theorem t131_13 {d : Nat} {h : Hp} {Q : Pst} {l0 l1 : Value} {x : Int32} {st : List Value} : T d 131 13 [l0, l1, .int x] st h Q ↔ T d 131 14 [l0, l1, .int x] (.int x :: st) h Q := T_iload_n c131_13 rfl
theorem c131_14 : cod 131 14 = some (.iconst 0, 1) := cod_of b131 dX8_layUplands_14
theorem t131_14 {d : Nat} {h : Hp} {Q : Pst} {ls : List Value} {st : List Value} : T d 131 14 ls st h Q ↔ T d 131 15 ls (.int 0 :: st) h Q := T_iconstV c131_14 (by decide)
theorem c131_15 : cod 131 15 = some (.iastore, 1) := cod_of b131 dX8_layUplands_15
theorem t131_15 {d : Nat} {h : Hp} {Q : Pst} {a : Nat} {i x : Int32} {ls : List Value} {st : List Value} : T d 131 15 ls (.int x :: .int i :: .ref a :: st) h Q ↔ aS (h.2.2 a) i x (fun cell => T d 131 16 ls st (hup h a cell) Q) := T_iastore c131_15
theorem c131_16 : cod 131 16 = some (.iinc 2 1, 3) := cod_of b131 dX8_layUplands_16
theorem t131_16 {d : Nat} {h : Hp} {Q : Pst} {l0 l1 : Value} {x : Int32} {st : List Value} : T d 131 16 [l0, l1, .int x] st h Q ↔ T d 131 19 [l0, kil l1, .int (x + 1)] st h Q := T_iincV c131_16 rfl (Nat.le_of_ble_eq_true rfl) (by decide) rfl
theorem c131_19 : cod 131 19 = some (.goto (-17), 3) := cod_of b131 dX8_layUplands_19
theorem t131_19 {d : Nat} {h : Hp} {Q : Pst} {ls : List Value} {st : List Value} : T d 131 19 ls st h Q ↔ T d 131 2 ls st h Q := T_goto c131_19 (by decide)
theorem c131_22 : cod 131 22 = some (.aload_n 0, 1) := cod_of b131 dX8_layUplands_22
theorem t131_22 {d : Nat} {h : Hp} {Q : Pst} {l1 l2 : Value} {x : Nat} {st : List Value} : T d 131 22 [.ref x, l1, l2] st h Q ↔ T d 131 23 [.ref x, l1, l2] (.ref x :: st) h Q := T_aload_n c131_22 rfl
theorem c131_23 : cod 131 23 = some (.getfield 7, 3) := cod_of b131 dX8_layUplands_23
theorem t131_23 {d : Nat} {h : Hp} {Q : Pst} {a : Nat} {ls : List Value} {st : List Value} : T d 131 23 ls (.ref a :: st) h Q ↔ gF (h.2.2 a) 7 0 (fun v => T d 131 26 ls (v :: st) h Q) := T_getfieldR m131 c131_23 f8_7
theorem c131_26 : cod 131 26 = some (.bipush 10, 2) := cod_of b131 dX8_layUplands_26
theorem t131_26 {d : Nat} {h : Hp} {Q : Pst} {ls : List Value} {st : List Value} : T d 131 26 ls st h Q ↔ T d 131 28 ls (.int 10 :: st) h Q := T_bipushV c131_26 (by decide)
theorem c131_28 : cod 131 28 = some (.iload_n 1, 1) := cod_of b131 dX8_layUplands_28
theorem t131_28 {d : Nat} {h : Hp} {Q : Pst} {l0 l2 : Value} {x : Int32} {st : List Value} : T d 131 28 [l0, .int x, l2] st h Q ↔ T d 131 29 [l0, .int x, l2] (.int x :: st) h Q := T_iload_n c131_28 rfl
theorem c131_29 : cod 131 29 = some (.iastore, 1) := cod_of b131 dX8_layUplands_29
theorem t131_29 {d : Nat} {h : Hp} {Q : Pst} {a : Nat} {i x : Int32} {ls : List Value} {st : List Value} : T d 131 29 ls (.int x :: .int i :: .ref a :: st) h Q ↔ aS (h.2.2 a) i x (fun cell => T d 131 30 ls st (hup h a cell) Q) := T_iastore c131_29
theorem c131_30 : cod 131 30 = some (.return_, 1) := cod_of b131 dX8_layUplands_30
theorem t131_30 {d : Nat} {h : Hp} {Q : Pst} {ls : List Value} : T d 131 30 ls [] h Q ↔ Q none h := T_retR m131 c131_30 rfl
theorem b132 : (mR 132).2.2.1 = cX8_uplands := by rw [m132]
theorem c132_0 : cod 132 0 = some (.iload_n 1, 1) := cod_of b132 dX8_uplands_0
theorem t132_0 {d : Nat} {h : Hp} {Q : Pst} {l0 l2 : Value} {x : Int32} {st : List Value} : T d 132 0 [l0, .int x, l2] st h Q ↔ T d 132 1 [l0, .int x, l2] (.int x :: st) h Q := T_iload_n c132_0 rfl
theorem c132_1 : cod 132 1 = some (.iconst 0, 1) := cod_of b132 dX8_uplands_1
theorem t132_1 {d : Nat} {h : Hp} {Q : Pst} {ls : List Value} {st : List Value} : T d 132 1 ls st h Q ↔ T d 132 2 ls (.int 0 :: st) h Q := T_iconstV c132_1 (by decide)
theorem c132_2 : cod 132 2 = some (.iconst 4, 1) := cod_of b132 dX8_uplands_2
theorem t132_2 {d : Nat} {h : Hp} {Q : Pst} {ls : List Value} {st : List Value} : T d 132 2 ls st h Q ↔ T d 132 3 ls (.int 4 :: st) h Q := T_iconstV c132_2 (by decide)
theorem c132_3 : cod 132 3 = some (.invokestatic 49, 3) := cod_of b132 dX8_uplands_3
theorem t132_3 {d : Nat} {h : Hp} {Q : Pst} {a0 a1 a2 : Int32} {ls : List Value} : T (d + 1) 132 3 ls [.int a2, .int a1, .int a0] h Q ↔ T d 126 0 [.int a0, .int a1, .int a2] [] h (fun x h2 => T (d + 1) 132 6 ls (rl x []) h2 Q) := T_staticR (as := [.int a0, .int a1, .int a2]) (r := []) m132 m126 c132_3 k8_49 (Or.inl rfl) rfl (by decide) rfl (by simp [wrd, Value.category]) (by simp [stk, Value.category]) rfl
theorem c132_6 : cod 132 6 = some (.ifCond .ne 10, 3) := cod_of b132 dX8_uplands_6
theorem t132_6 {d : Nat} {h : Hp} {Q : Pst} {x : Int32} {ls : List Value} {st : List Value} : T d 132 6 ls (.int x :: st) h Q ↔ (if ¬ x = 0 then T d 132 16 ls st h Q else T d 132 9 ls st h Q) := T_if_ne c132_6 (by decide)
theorem c132_9 : cod 132 9 = some (.aload_n 0, 1) := cod_of b132 dX8_uplands_9
theorem t132_9 {d : Nat} {h : Hp} {Q : Pst} {l1 l2 : Value} {x : Nat} {st : List Value} : T d 132 9 [.ref x, l1, l2] st h Q ↔ T d 132 10 [.ref x, l1, l2] (.ref x :: st) h Q := T_aload_n c132_9 rfl
theorem c132_10 : cod 132 10 = some (.bipush (-2), 2) := cod_of b132 dX8_uplands_10
theorem t132_10 {d : Nat} {h : Hp} {Q : Pst} {ls : List Value} {st : List Value} : T d 132 10 ls st h Q ↔ T d 132 12 ls (.int (-2) :: st) h Q := T_bipushV c132_10 (by decide)
theorem c132_12 : cod 132 12 = some (.invokevirtual 45, 3) := cod_of b132 dX8_uplands_12
theorem t132_12 {d : Nat} {h : Hp} {Q : Pst} {a0 : Int32} {a : Nat} {ls : List Value} (ho : isO (h.2.2 a) 7) : T (d + 1) 132 12 ls [.int a0, .ref a] h Q ↔ T d 129 0 [.ref a, .int a0] [] h (fun x h2 => T (d + 1) 132 15 ls (rl x []) h2 Q) := T_virtualR (as := [.int a0]) (r := []) m132 m129 c132_12 k8_45  rfl (by decide) rfl (by simp [wrd, Value.category]) (by simp [stk, Value.category]) rfl (by decide +kernel) ho
theorem c132_15 : cod 132 15 = some (.ireturn, 1) := cod_of b132 dX8_uplands_15
theorem t132_15 {d : Nat} {h : Hp} {Q : Pst} {x : Int32} {ls : List Value} : T d 132 15 ls [.int x] h Q ↔ Q (some (.int x)) h := T_iretR m132 c132_15 rfl
theorem c132_16 : cod 132 16 = some (.aload_n 0, 1) := cod_of b132 dX8_uplands_16
theorem t132_16 {d : Nat} {h : Hp} {Q : Pst} {l1 l2 : Value} {x : Nat} {st : List Value} : T d 132 16 [.ref x, l1, l2] st h Q ↔ T d 132 17 [.ref x, l1, l2] (.ref x :: st) h Q := T_aload_n c132_16 rfl
theorem c132_17 : cod 132 17 = some (.getfield 7, 3) := cod_of b132 dX8_uplands_17
theorem t132_17 {d : Nat} {h : Hp} {Q : Pst} {a : Nat} {ls : List Value} {st : List Value} : T d 132 17 ls (.ref a :: st) h Q ↔ gF (h.2.2 a) 7 0 (fun v => T d 132 20 ls (v :: st) h Q) := T_getfieldR m132 c132_17 f8_7
theorem c132_20 : cod 132 20 = some (.bipush 12, 2) := cod_of b132 dX8_uplands_20
theorem t132_20 {d : Nat} {h : Hp} {Q : Pst} {ls : List Value} {st : List Value} : T d 132 20 ls st h Q ↔ T d 132 22 ls (.int 12 :: st) h Q := T_bipushV c132_20 (by decide)
theorem c132_22 : cod 132 22 = some (.iaload, 1) := cod_of b132 dX8_uplands_22
theorem t132_22 {d : Nat} {h : Hp} {Q : Pst} {a : Nat} {i : Int32} {ls : List Value} {st : List Value} : T d 132 22 ls (.int i :: .ref a :: st) h Q ↔ aL (h.2.2 a) i (fun x => T d 132 23 ls (.int x :: st) h Q) := T_iaload c132_22
theorem c132_23 : cod 132 23 = some (.istore_n 2, 1) := cod_of b132 dX8_uplands_23
theorem t132_23 {d : Nat} {h : Hp} {Q : Pst} {l0 l1 l2 : Value} {x : Int32} {st : List Value} : T d 132 23 [l0, l1, l2] (.int x :: st) h Q ↔ T d 132 24 [l0, kil l1, .int x] st h Q := T_istore_n c132_23 (Nat.le_of_ble_eq_true rfl)
theorem c132_24 : cod 132 24 = some (.aload_n 0, 1) := cod_of b132 dX8_uplands_24
theorem t132_24 {d : Nat} {h : Hp} {Q : Pst} {l1 l2 : Value} {x : Nat} {st : List Value} : T d 132 24 [.ref x, l1, l2] st h Q ↔ T d 132 25 [.ref x, l1, l2] (.ref x :: st) h Q := T_aload_n c132_24 rfl
theorem c132_25 : cod 132 25 = some (.iload_n 1, 1) := cod_of b132 dX8_uplands_25
theorem t132_25 {d : Nat} {h : Hp} {Q : Pst} {l0 l2 : Value} {x : Int32} {st : List Value} : T d 132 25 [l0, .int x, l2] st h Q ↔ T d 132 26 [l0, .int x, l2] (.int x :: st) h Q := T_iload_n c132_25 rfl
theorem c132_26 : cod 132 26 = some (.invokevirtual 53, 3) := cod_of b132 dX8_uplands_26
theorem t132_26 {d : Nat} {h : Hp} {Q : Pst} {a0 : Int32} {a : Nat} {ls : List Value} (ho : isO (h.2.2 a) 7) : T (d + 1) 132 26 ls [.int a0, .ref a] h Q ↔ T d 131 0 [.ref a, .int a0, un] [] h (fun x h2 => T (d + 1) 132 29 ls (rl x []) h2 Q) := T_virtualR (as := [.int a0]) (r := []) m132 m131 c132_26 k8_53  rfl (by decide) rfl (by simp [wrd, Value.category]) (by simp [stk, Value.category]) rfl (by decide +kernel) ho
theorem c132_29 : cod 132 29 = some (.iload_n 2, 1) := cod_of b132 dX8_uplands_29
theorem t132_29 {d : Nat} {h : Hp} {Q : Pst} {l0 l1 : Value} {x : Int32} {st : List Value} : T d 132 29 [l0, l1, .int x] st h Q ↔ T d 132 30 [l0, l1, .int x] (.int x :: st) h Q := T_iload_n c132_29 rfl
theorem c132_30 : cod 132 30 = some (.ireturn, 1) := cod_of b132 dX8_uplands_30
theorem t132_30 {d : Nat} {h : Hp} {Q : Pst} {x : Int32} {ls : List Value} : T d 132 30 ls [.int x] h Q ↔ Q (some (.int x)) h := T_iretR m132 c132_30 rfl
theorem b133 : (mR 133).2.2.1 = cX8_addGuest := by rw [m133]
theorem c133_0 : cod 133 0 = some (.aload_n 0, 1) := cod_of b133 dX8_addGuest_0
theorem t133_0 {d : Nat} {h : Hp} {Q : Pst} {l1 l2 l3 : Value} {x : Nat} {st : List Value} : T d 133 0 [.ref x, l1, l2, l3] st h Q ↔ T d 133 1 [.ref x, l1, l2, l3] (.ref x :: st) h Q := T_aload_n c133_0 rfl
theorem c133_1 : cod 133 1 = some (.getfield 7, 3) := cod_of b133 dX8_addGuest_1
theorem t133_1 {d : Nat} {h : Hp} {Q : Pst} {a : Nat} {ls : List Value} {st : List Value} : T d 133 1 ls (.ref a :: st) h Q ↔ gF (h.2.2 a) 7 0 (fun v => T d 133 4 ls (v :: st) h Q) := T_getfieldR m133 c133_1 f8_7
theorem c133_4 : cod 133 4 = some (.bipush 12, 2) := cod_of b133 dX8_addGuest_4
theorem t133_4 {d : Nat} {h : Hp} {Q : Pst} {ls : List Value} {st : List Value} : T d 133 4 ls st h Q ↔ T d 133 6 ls (.int 12 :: st) h Q := T_bipushV c133_4 (by decide)
theorem c133_6 : cod 133 6 = some (.iaload, 1) := cod_of b133 dX8_addGuest_6
theorem t133_6 {d : Nat} {h : Hp} {Q : Pst} {a : Nat} {i : Int32} {ls : List Value} {st : List Value} : T d 133 6 ls (.int i :: .ref a :: st) h Q ↔ aL (h.2.2 a) i (fun x => T d 133 7 ls (.int x :: st) h Q) := T_iaload c133_6
theorem c133_7 : cod 133 7 = some (.istore_n 3, 1) := cod_of b133 dX8_addGuest_7
theorem t133_7 {d : Nat} {h : Hp} {Q : Pst} {l0 l1 l2 l3 : Value} {x : Int32} {st : List Value} : T d 133 7 [l0, l1, l2, l3] (.int x :: st) h Q ↔ T d 133 8 [l0, l1, kil l2, .int x] st h Q := T_istore_n c133_7 (Nat.le_of_ble_eq_true rfl)
theorem c133_8 : cod 133 8 = some (.aload_n 0, 1) := cod_of b133 dX8_addGuest_8
theorem t133_8 {d : Nat} {h : Hp} {Q : Pst} {l1 l2 l3 : Value} {x : Nat} {st : List Value} : T d 133 8 [.ref x, l1, l2, l3] st h Q ↔ T d 133 9 [.ref x, l1, l2, l3] (.ref x :: st) h Q := T_aload_n c133_8 rfl
theorem c133_9 : cod 133 9 = some (.getfield 7, 3) := cod_of b133 dX8_addGuest_9
theorem t133_9 {d : Nat} {h : Hp} {Q : Pst} {a : Nat} {ls : List Value} {st : List Value} : T d 133 9 ls (.ref a :: st) h Q ↔ gF (h.2.2 a) 7 0 (fun v => T d 133 12 ls (v :: st) h Q) := T_getfieldR m133 c133_9 f8_7
theorem c133_12 : cod 133 12 = some (.bipush 13, 2) := cod_of b133 dX8_addGuest_12
theorem t133_12 {d : Nat} {h : Hp} {Q : Pst} {ls : List Value} {st : List Value} : T d 133 12 ls st h Q ↔ T d 133 14 ls (.int 13 :: st) h Q := T_bipushV c133_12 (by decide)
theorem c133_14 : cod 133 14 = some (.iload_n 3, 1) := cod_of b133 dX8_addGuest_14
theorem t133_14 {d : Nat} {h : Hp} {Q : Pst} {l0 l1 l2 : Value} {x : Int32} {st : List Value} : T d 133 14 [l0, l1, l2, .int x] st h Q ↔ T d 133 15 [l0, l1, l2, .int x] (.int x :: st) h Q := T_iload_n c133_14 rfl
theorem c133_15 : cod 133 15 = some (.iadd, 1) := cod_of b133 dX8_addGuest_15
theorem t133_15 {d : Nat} {h : Hp} {Q : Pst} {x y : Int32} {ls : List Value} {st : List Value} : T d 133 15 ls (.int y :: .int x :: st) h Q ↔ T d 133 16 ls (.int (x + y) :: st) h Q := T_iadd c133_15
theorem c133_16 : cod 133 16 = some (.iload_n 1, 1) := cod_of b133 dX8_addGuest_16
theorem t133_16 {d : Nat} {h : Hp} {Q : Pst} {l0 l2 l3 : Value} {x : Int32} {st : List Value} : T d 133 16 [l0, .int x, l2, l3] st h Q ↔ T d 133 17 [l0, .int x, l2, l3] (.int x :: st) h Q := T_iload_n c133_16 rfl
theorem c133_17 : cod 133 17 = some (.iastore, 1) := cod_of b133 dX8_addGuest_17
theorem t133_17 {d : Nat} {h : Hp} {Q : Pst} {a : Nat} {i x : Int32} {ls : List Value} {st : List Value} : T d 133 17 ls (.int x :: .int i :: .ref a :: st) h Q ↔ aS (h.2.2 a) i x (fun cell => T d 133 18 ls st (hup h a cell) Q) := T_iastore c133_17
theorem c133_18 : cod 133 18 = some (.aload_n 0, 1) := cod_of b133 dX8_addGuest_18
theorem t133_18 {d : Nat} {h : Hp} {Q : Pst} {l1 l2 l3 : Value} {x : Nat} {st : List Value} : T d 133 18 [.ref x, l1, l2, l3] st h Q ↔ T d 133 19 [.ref x, l1, l2, l3] (.ref x :: st) h Q := T_aload_n c133_18 rfl
theorem c133_19 : cod 133 19 = some (.getfield 7, 3) := cod_of b133 dX8_addGuest_19
theorem t133_19 {d : Nat} {h : Hp} {Q : Pst} {a : Nat} {ls : List Value} {st : List Value} : T d 133 19 ls (.ref a :: st) h Q ↔ gF (h.2.2 a) 7 0 (fun v => T d 133 22 ls (v :: st) h Q) := T_getfieldR m133 c133_19 f8_7
theorem c133_22 : cod 133 22 = some (.bipush 19, 2) := cod_of b133 dX8_addGuest_22
theorem t133_22 {d : Nat} {h : Hp} {Q : Pst} {ls : List Value} {st : List Value} : T d 133 22 ls st h Q ↔ T d 133 24 ls (.int 19 :: st) h Q := T_bipushV c133_22 (by decide)
theorem c133_24 : cod 133 24 = some (.iload_n 3, 1) := cod_of b133 dX8_addGuest_24
theorem t133_24 {d : Nat} {h : Hp} {Q : Pst} {l0 l1 l2 : Value} {x : Int32} {st : List Value} : T d 133 24 [l0, l1, l2, .int x] st h Q ↔ T d 133 25 [l0, l1, l2, .int x] (.int x :: st) h Q := T_iload_n c133_24 rfl
theorem c133_25 : cod 133 25 = some (.iadd, 1) := cod_of b133 dX8_addGuest_25
theorem t133_25 {d : Nat} {h : Hp} {Q : Pst} {x y : Int32} {ls : List Value} {st : List Value} : T d 133 25 ls (.int y :: .int x :: st) h Q ↔ T d 133 26 ls (.int (x + y) :: st) h Q := T_iadd c133_25
theorem c133_26 : cod 133 26 = some (.iload_n 2, 1) := cod_of b133 dX8_addGuest_26
theorem t133_26 {d : Nat} {h : Hp} {Q : Pst} {l0 l1 l3 : Value} {x : Int32} {st : List Value} : T d 133 26 [l0, l1, .int x, l3] st h Q ↔ T d 133 27 [l0, l1, .int x, l3] (.int x :: st) h Q := T_iload_n c133_26 rfl
theorem c133_27 : cod 133 27 = some (.iastore, 1) := cod_of b133 dX8_addGuest_27
theorem t133_27 {d : Nat} {h : Hp} {Q : Pst} {a : Nat} {i x : Int32} {ls : List Value} {st : List Value} : T d 133 27 ls (.int x :: .int i :: .ref a :: st) h Q ↔ aS (h.2.2 a) i x (fun cell => T d 133 28 ls st (hup h a cell) Q) := T_iastore c133_27
theorem c133_28 : cod 133 28 = some (.aload_n 0, 1) := cod_of b133 dX8_addGuest_28
theorem t133_28 {d : Nat} {h : Hp} {Q : Pst} {l1 l2 l3 : Value} {x : Nat} {st : List Value} : T d 133 28 [.ref x, l1, l2, l3] st h Q ↔ T d 133 29 [.ref x, l1, l2, l3] (.ref x :: st) h Q := T_aload_n c133_28 rfl
theorem c133_29 : cod 133 29 = some (.getfield 7, 3) := cod_of b133 dX8_addGuest_29
theorem t133_29 {d : Nat} {h : Hp} {Q : Pst} {a : Nat} {ls : List Value} {st : List Value} : T d 133 29 ls (.ref a :: st) h Q ↔ gF (h.2.2 a) 7 0 (fun v => T d 133 32 ls (v :: st) h Q) := T_getfieldR m133 c133_29 f8_7
theorem c133_32 : cod 133 32 = some (.iconst 0, 1) := cod_of b133 dX8_addGuest_32
theorem t133_32 {d : Nat} {h : Hp} {Q : Pst} {ls : List Value} {st : List Value} : T d 133 32 ls st h Q ↔ T d 133 33 ls (.int 0 :: st) h Q := T_iconstV c133_32 (by decide)
theorem c133_33 : cod 133 33 = some (.iload_n 3, 1) := cod_of b133 dX8_addGuest_33
theorem t133_33 {d : Nat} {h : Hp} {Q : Pst} {l0 l1 l2 : Value} {x : Int32} {st : List Value} : T d 133 33 [l0, l1, l2, .int x] st h Q ↔ T d 133 34 [l0, l1, l2, .int x] (.int x :: st) h Q := T_iload_n c133_33 rfl
theorem c133_34 : cod 133 34 = some (.iadd, 1) := cod_of b133 dX8_addGuest_34
theorem t133_34 {d : Nat} {h : Hp} {Q : Pst} {x y : Int32} {ls : List Value} {st : List Value} : T d 133 34 ls (.int y :: .int x :: st) h Q ↔ T d 133 35 ls (.int (x + y) :: st) h Q := T_iadd c133_34
theorem c133_35 : cod 133 35 = some (.iconst (-1), 1) := cod_of b133 dX8_addGuest_35
theorem t133_35 {d : Nat} {h : Hp} {Q : Pst} {ls : List Value} {st : List Value} : T d 133 35 ls st h Q ↔ T d 133 36 ls (.int (-1) :: st) h Q := T_iconstV c133_35 (by decide)
theorem c133_36 : cod 133 36 = some (.iastore, 1) := cod_of b133 dX8_addGuest_36
theorem t133_36 {d : Nat} {h : Hp} {Q : Pst} {a : Nat} {i x : Int32} {ls : List Value} {st : List Value} : T d 133 36 ls (.int x :: .int i :: .ref a :: st) h Q ↔ aS (h.2.2 a) i x (fun cell => T d 133 37 ls st (hup h a cell) Q) := T_iastore c133_36
theorem c133_37 : cod 133 37 = some (.aload_n 0, 1) := cod_of b133 dX8_addGuest_37
theorem t133_37 {d : Nat} {h : Hp} {Q : Pst} {l1 l2 l3 : Value} {x : Nat} {st : List Value} : T d 133 37 [.ref x, l1, l2, l3] st h Q ↔ T d 133 38 [.ref x, l1, l2, l3] (.ref x :: st) h Q := T_aload_n c133_37 rfl
theorem c133_38 : cod 133 38 = some (.getfield 7, 3) := cod_of b133 dX8_addGuest_38
theorem t133_38 {d : Nat} {h : Hp} {Q : Pst} {a : Nat} {ls : List Value} {st : List Value} : T d 133 38 ls (.ref a :: st) h Q ↔ gF (h.2.2 a) 7 0 (fun v => T d 133 41 ls (v :: st) h Q) := T_getfieldR m133 c133_38 f8_7
theorem c133_41 : cod 133 41 = some (.bipush 12, 2) := cod_of b133 dX8_addGuest_41
theorem t133_41 {d : Nat} {h : Hp} {Q : Pst} {ls : List Value} {st : List Value} : T d 133 41 ls st h Q ↔ T d 133 43 ls (.int 12 :: st) h Q := T_bipushV c133_41 (by decide)
theorem c133_43 : cod 133 43 = some (.dup2, 1) := cod_of b133 dX8_addGuest_43
theorem t133_43 {d : Nat} {h : Hp} {Q : Pst} {x : Int32} {y : Nat} {ls : List Value} {st : List Value} : T d 133 43 ls (.int x :: .ref y :: st) h Q ↔ T d 133 44 ls (.int x :: .ref y :: .int x :: .ref y :: st) h Q := T_dup2 c133_43 rfl rfl
theorem c133_44 : cod 133 44 = some (.iaload, 1) := cod_of b133 dX8_addGuest_44
theorem t133_44 {d : Nat} {h : Hp} {Q : Pst} {a : Nat} {i : Int32} {ls : List Value} {st : List Value} : T d 133 44 ls (.int i :: .ref a :: st) h Q ↔ aL (h.2.2 a) i (fun x => T d 133 45 ls (.int x :: st) h Q) := T_iaload c133_44
theorem c133_45 : cod 133 45 = some (.iconst 1, 1) := cod_of b133 dX8_addGuest_45
theorem t133_45 {d : Nat} {h : Hp} {Q : Pst} {ls : List Value} {st : List Value} : T d 133 45 ls st h Q ↔ T d 133 46 ls (.int 1 :: st) h Q := T_iconstV c133_45 (by decide)
theorem c133_46 : cod 133 46 = some (.iadd, 1) := cod_of b133 dX8_addGuest_46
theorem t133_46 {d : Nat} {h : Hp} {Q : Pst} {x y : Int32} {ls : List Value} {st : List Value} : T d 133 46 ls (.int y :: .int x :: st) h Q ↔ T d 133 47 ls (.int (x + y) :: st) h Q := T_iadd c133_46
theorem c133_47 : cod 133 47 = some (.iastore, 1) := cod_of b133 dX8_addGuest_47
theorem t133_47 {d : Nat} {h : Hp} {Q : Pst} {a : Nat} {i x : Int32} {ls : List Value} {st : List Value} : T d 133 47 ls (.int x :: .int i :: .ref a :: st) h Q ↔ aS (h.2.2 a) i x (fun cell => T d 133 48 ls st (hup h a cell) Q) := T_iastore c133_47
theorem c133_48 : cod 133 48 = some (.aload_n 0, 1) := cod_of b133 dX8_addGuest_48
theorem t133_48 {d : Nat} {h : Hp} {Q : Pst} {l1 l2 l3 : Value} {x : Nat} {st : List Value} : T d 133 48 [.ref x, l1, l2, l3] st h Q ↔ T d 133 49 [.ref x, l1, l2, l3] (.ref x :: st) h Q := T_aload_n c133_48 rfl
theorem c133_49 : cod 133 49 = some (.getfield 7, 3) := cod_of b133 dX8_addGuest_49
theorem t133_49 {d : Nat} {h : Hp} {Q : Pst} {a : Nat} {ls : List Value} {st : List Value} : T d 133 49 ls (.ref a :: st) h Q ↔ gF (h.2.2 a) 7 0 (fun v => T d 133 52 ls (v :: st) h Q) := T_getfieldR m133 c133_49 f8_7
theorem c133_52 : cod 133 52 = some (.bipush 111, 2) := cod_of b133 dX8_addGuest_52
theorem t133_52 {d : Nat} {h : Hp} {Q : Pst} {ls : List Value} {st : List Value} : T d 133 52 ls st h Q ↔ T d 133 54 ls (.int 111 :: st) h Q := T_bipushV c133_52 (by decide)
theorem c133_54 : cod 133 54 = some (.iconst 0, 1) := cod_of b133 dX8_addGuest_54
theorem t133_54 {d : Nat} {h : Hp} {Q : Pst} {ls : List Value} {st : List Value} : T d 133 54 ls st h Q ↔ T d 133 55 ls (.int 0 :: st) h Q := T_iconstV c133_54 (by decide)
theorem c133_55 : cod 133 55 = some (.iastore, 1) := cod_of b133 dX8_addGuest_55
theorem t133_55 {d : Nat} {h : Hp} {Q : Pst} {a : Nat} {i x : Int32} {ls : List Value} {st : List Value} : T d 133 55 ls (.int x :: .int i :: .ref a :: st) h Q ↔ aS (h.2.2 a) i x (fun cell => T d 133 56 ls st (hup h a cell) Q) := T_iastore c133_55
theorem c133_56 : cod 133 56 = some (.return_, 1) := cod_of b133 dX8_addGuest_56
theorem t133_56 {d : Nat} {h : Hp} {Q : Pst} {ls : List Value} : T d 133 56 ls [] h Q ↔ Q none h := T_retR m133 c133_56 rfl
theorem b134 : (mR 134).2.2.1 = cX8_guest := by rw [m134]
theorem c134_0 : cod 134 0 = some (.iload_n 1, 1) := cod_of b134 dX8_guest_0
theorem t134_0 {d : Nat} {h : Hp} {Q : Pst} {l0 l2 : Value} {x : Int32} {st : List Value} : T d 134 0 [l0, .int x, l2] st h Q ↔ T d 134 1 [l0, .int x, l2] (.int x :: st) h Q := T_iload_n c134_0 rfl
theorem c134_1 : cod 134 1 = some (.iconst 0, 1) := cod_of b134 dX8_guest_1
theorem t134_1 {d : Nat} {h : Hp} {Q : Pst} {ls : List Value} {st : List Value} : T d 134 1 ls st h Q ↔ T d 134 2 ls (.int 0 :: st) h Q := T_iconstV c134_1 (by decide)
theorem c134_2 : cod 134 2 = some (.iconst 5, 1) := cod_of b134 dX8_guest_2
theorem t134_2 {d : Nat} {h : Hp} {Q : Pst} {ls : List Value} {st : List Value} : T d 134 2 ls st h Q ↔ T d 134 3 ls (.int 5 :: st) h Q := T_iconstV c134_2 (by decide)
theorem c134_3 : cod 134 3 = some (.invokestatic 49, 3) := cod_of b134 dX8_guest_3
theorem t134_3 {d : Nat} {h : Hp} {Q : Pst} {a0 a1 a2 : Int32} {ls : List Value} : T (d + 1) 134 3 ls [.int a2, .int a1, .int a0] h Q ↔ T d 126 0 [.int a0, .int a1, .int a2] [] h (fun x h2 => T (d + 1) 134 6 ls (rl x []) h2 Q) := T_staticR (as := [.int a0, .int a1, .int a2]) (r := []) m134 m126 c134_3 k8_49 (Or.inl rfl) rfl (by decide) rfl (by simp [wrd, Value.category]) (by simp [stk, Value.category]) rfl
theorem c134_6 : cod 134 6 = some (.ifCond .eq 13, 3) := cod_of b134 dX8_guest_6
theorem t134_6 {d : Nat} {h : Hp} {Q : Pst} {x : Int32} {ls : List Value} {st : List Value} : T d 134 6 ls (.int x :: st) h Q ↔ (if x = 0 then T d 134 19 ls st h Q else T d 134 9 ls st h Q) := T_if_eq c134_6 (by decide)
theorem c134_9 : cod 134 9 = some (.iload_n 2, 1) := cod_of b134 dX8_guest_9
theorem t134_9 {d : Nat} {h : Hp} {Q : Pst} {l0 l1 : Value} {x : Int32} {st : List Value} : T d 134 9 [l0, l1, .int x] st h Q ↔ T d 134 10 [l0, l1, .int x] (.int x :: st) h Q := T_iload_n c134_9 rfl
theorem c134_10 : cod 134 10 = some (.iconst 1, 1) := cod_of b134 dX8_guest_10
theorem t134_10 {d : Nat} {h : Hp} {Q : Pst} {ls : List Value} {st : List Value} : T d 134 10 ls st h Q ↔ T d 134 11 ls (.int 1 :: st) h Q := T_iconstV c134_10 (by decide)
theorem c134_11 : cod 134 11 = some (.bipush 30, 2) := cod_of b134 dX8_guest_11
theorem t134_11 {d : Nat} {h : Hp} {Q : Pst} {ls : List Value} {st : List Value} : T d 134 11 ls st h Q ↔ T d 134 13 ls (.int 30 :: st) h Q := T_bipushV c134_11 (by decide)
theorem c134_13 : cod 134 13 = some (.invokestatic 49, 3) := cod_of b134 dX8_guest_13
theorem t134_13 {d : Nat} {h : Hp} {Q : Pst} {a0 a1 a2 : Int32} {ls : List Value} : T (d + 1) 134 13 ls [.int a2, .int a1, .int a0] h Q ↔ T d 126 0 [.int a0, .int a1, .int a2] [] h (fun x h2 => T (d + 1) 134 16 ls (rl x []) h2 Q) := T_staticR (as := [.int a0, .int a1, .int a2]) (r := []) m134 m126 c134_13 k8_49 (Or.inl rfl) rfl (by decide) rfl (by simp [wrd, Value.category]) (by simp [stk, Value.category]) rfl
theorem c134_16 : cod 134 16 = some (.ifCond .ne 10, 3) := cod_of b134 dX8_guest_16
theorem t134_16 {d : Nat} {h : Hp} {Q : Pst} {x : Int32} {ls : List Value} {st : List Value} : T d 134 16 ls (.int x :: st) h Q ↔ (if ¬ x = 0 then T d 134 26 ls st h Q else T d 134 19 ls st h Q) := T_if_ne c134_16 (by decide)
theorem c134_26 : cod 134 26 = some (.aload_n 0, 1) := cod_of b134 dX8_guest_26
theorem t134_26 {d : Nat} {h : Hp} {Q : Pst} {l1 l2 : Value} {x : Nat} {st : List Value} : T d 134 26 [.ref x, l1, l2] st h Q ↔ T d 134 27 [.ref x, l1, l2] (.ref x :: st) h Q := T_aload_n c134_26 rfl
theorem c134_27 : cod 134 27 = some (.getfield 7, 3) := cod_of b134 dX8_guest_27
theorem t134_27 {d : Nat} {h : Hp} {Q : Pst} {a : Nat} {ls : List Value} {st : List Value} : T d 134 27 ls (.ref a :: st) h Q ↔ gF (h.2.2 a) 7 0 (fun v => T d 134 30 ls (v :: st) h Q) := T_getfieldR m134 c134_27 f8_7
theorem c134_30 : cod 134 30 = some (.bipush 12, 2) := cod_of b134 dX8_guest_30
theorem t134_30 {d : Nat} {h : Hp} {Q : Pst} {ls : List Value} {st : List Value} : T d 134 30 ls st h Q ↔ T d 134 32 ls (.int 12 :: st) h Q := T_bipushV c134_30 (by decide)
theorem c134_32 : cod 134 32 = some (.iaload, 1) := cod_of b134 dX8_guest_32
theorem t134_32 {d : Nat} {h : Hp} {Q : Pst} {a : Nat} {i : Int32} {ls : List Value} {st : List Value} : T d 134 32 ls (.int i :: .ref a :: st) h Q ↔ aL (h.2.2 a) i (fun x => T d 134 33 ls (.int x :: st) h Q) := T_iaload c134_32
theorem c134_33 : cod 134 33 = some (.bipush 6, 2) := cod_of b134 dX8_guest_33
theorem t134_33 {d : Nat} {h : Hp} {Q : Pst} {ls : List Value} {st : List Value} : T d 134 33 ls st h Q ↔ T d 134 35 ls (.int 6 :: st) h Q := T_bipushV c134_33 (by decide)
theorem c134_35 : cod 134 35 = some (.if_icmp .ne 10, 3) := cod_of b134 dX8_guest_35
theorem t134_35 {d : Nat} {h : Hp} {Q : Pst} {x y : Int32} {ls : List Value} {st : List Value} : T d 134 35 ls (.int y :: .int x :: st) h Q ↔ (if ¬ x = y then T d 134 45 ls st h Q else T d 134 38 ls st h Q) := T_icmp_ne c134_35 (by decide)
theorem c134_38 : cod 134 38 = some (.aload_n 0, 1) := cod_of b134 dX8_guest_38
theorem t134_38 {d : Nat} {h : Hp} {Q : Pst} {l1 l2 : Value} {x : Nat} {st : List Value} : T d 134 38 [.ref x, l1, l2] st h Q ↔ T d 134 39 [.ref x, l1, l2] (.ref x :: st) h Q := T_aload_n c134_38 rfl
theorem c134_39 : cod 134 39 = some (.bipush (-4), 2) := cod_of b134 dX8_guest_39
theorem t134_39 {d : Nat} {h : Hp} {Q : Pst} {ls : List Value} {st : List Value} : T d 134 39 ls st h Q ↔ T d 134 41 ls (.int (-4) :: st) h Q := T_bipushV c134_39 (by decide)
theorem c134_41 : cod 134 41 = some (.invokevirtual 45, 3) := cod_of b134 dX8_guest_41
theorem t134_41 {d : Nat} {h : Hp} {Q : Pst} {a0 : Int32} {a : Nat} {ls : List Value} (ho : isO (h.2.2 a) 7) : T (d + 1) 134 41 ls [.int a0, .ref a] h Q ↔ T d 129 0 [.ref a, .int a0] [] h (fun x h2 => T (d + 1) 134 44 ls (rl x []) h2 Q) := T_virtualR (as := [.int a0]) (r := []) m134 m129 c134_41 k8_45  rfl (by decide) rfl (by simp [wrd, Value.category]) (by simp [stk, Value.category]) rfl (by decide +kernel) ho
theorem c134_44 : cod 134 44 = some (.ireturn, 1) := cod_of b134 dX8_guest_44
theorem t134_44 {d : Nat} {h : Hp} {Q : Pst} {x : Int32} {ls : List Value} : T d 134 44 ls [.int x] h Q ↔ Q (some (.int x)) h := T_iretR m134 c134_44 rfl
theorem c134_45 : cod 134 45 = some (.aload_n 0, 1) := cod_of b134 dX8_guest_45
theorem t134_45 {d : Nat} {h : Hp} {Q : Pst} {l1 l2 : Value} {x : Nat} {st : List Value} : T d 134 45 [.ref x, l1, l2] st h Q ↔ T d 134 46 [.ref x, l1, l2] (.ref x :: st) h Q := T_aload_n c134_45 rfl
theorem c134_46 : cod 134 46 = some (.iload_n 1, 1) := cod_of b134 dX8_guest_46
theorem t134_46 {d : Nat} {h : Hp} {Q : Pst} {l0 l2 : Value} {x : Int32} {st : List Value} : T d 134 46 [l0, .int x, l2] st h Q ↔ T d 134 47 [l0, .int x, l2] (.int x :: st) h Q := T_iload_n c134_46 rfl
theorem c134_47 : cod 134 47 = some (.iload_n 2, 1) := cod_of b134 dX8_guest_47
theorem t134_47 {d : Nat} {h : Hp} {Q : Pst} {l0 l1 : Value} {x : Int32} {st : List Value} : T d 134 47 [l0, l1, .int x] st h Q ↔ T d 134 48 [l0, l1, .int x] (.int x :: st) h Q := T_iload_n c134_47 rfl
theorem c134_48 : cod 134 48 = some (.invokevirtual 57, 3) := cod_of b134 dX8_guest_48
theorem t134_48 {d : Nat} {h : Hp} {Q : Pst} {a0 a1 : Int32} {a : Nat} {ls : List Value} (ho : isO (h.2.2 a) 7) : T (d + 1) 134 48 ls [.int a1, .int a0, .ref a] h Q ↔ T d 133 0 [.ref a, .int a0, .int a1, un] [] h (fun x h2 => T (d + 1) 134 51 ls (rl x []) h2 Q) := T_virtualR (as := [.int a0, .int a1]) (r := []) m134 m133 c134_48 k8_57  rfl (by decide) rfl (by simp [wrd, Value.category]) (by simp [stk, Value.category]) rfl (by decide +kernel) ho
theorem c134_51 : cod 134 51 = some (.aload_n 0, 1) := cod_of b134 dX8_guest_51
theorem t134_51 {d : Nat} {h : Hp} {Q : Pst} {l1 l2 : Value} {x : Nat} {st : List Value} : T d 134 51 [.ref x, l1, l2] st h Q ↔ T d 134 52 [.ref x, l1, l2] (.ref x :: st) h Q := T_aload_n c134_51 rfl
theorem c134_52 : cod 134 52 = some (.getfield 7, 3) := cod_of b134 dX8_guest_52
theorem t134_52 {d : Nat} {h : Hp} {Q : Pst} {a : Nat} {ls : List Value} {st : List Value} : T d 134 52 ls (.ref a :: st) h Q ↔ gF (h.2.2 a) 7 0 (fun v => T d 134 55 ls (v :: st) h Q) := T_getfieldR m134 c134_52 f8_7
theorem c134_55 : cod 134 55 = some (.bipush 12, 2) := cod_of b134 dX8_guest_55
theorem t134_55 {d : Nat} {h : Hp} {Q : Pst} {ls : List Value} {st : List Value} : T d 134 55 ls st h Q ↔ T d 134 57 ls (.int 12 :: st) h Q := T_bipushV c134_55 (by decide)
theorem c134_57 : cod 134 57 = some (.iaload, 1) := cod_of b134 dX8_guest_57
theorem t134_57 {d : Nat} {h : Hp} {Q : Pst} {a : Nat} {i : Int32} {ls : List Value} {st : List Value} : T d 134 57 ls (.int i :: .ref a :: st) h Q ↔ aL (h.2.2 a) i (fun x => T d 134 58 ls (.int x :: st) h Q) := T_iaload c134_57
theorem c134_58 : cod 134 58 = some (.iconst 1, 1) := cod_of b134 dX8_guest_58
theorem t134_58 {d : Nat} {h : Hp} {Q : Pst} {ls : List Value} {st : List Value} : T d 134 58 ls st h Q ↔ T d 134 59 ls (.int 1 :: st) h Q := T_iconstV c134_58 (by decide)
theorem c134_59 : cod 134 59 = some (.isub, 1) := cod_of b134 dX8_guest_59
theorem t134_59 {d : Nat} {h : Hp} {Q : Pst} {x y : Int32} {ls : List Value} {st : List Value} : T d 134 59 ls (.int y :: .int x :: st) h Q ↔ T d 134 60 ls (.int (x - y) :: st) h Q := T_isub c134_59
theorem c134_60 : cod 134 60 = some (.ireturn, 1) := cod_of b134 dX8_guest_60
theorem t134_60 {d : Nat} {h : Hp} {Q : Pst} {x : Int32} {ls : List Value} : T d 134 60 ls [.int x] h Q ↔ Q (some (.int x)) h := T_iretR m134 c134_60 rfl
theorem c134_19 : cod 134 19 = some (.aload_n 0, 1) := cod_of b134 dX8_guest_19
theorem t134_19 {d : Nat} {h : Hp} {Q : Pst} {l1 l2 : Value} {x : Nat} {st : List Value} : T d 134 19 [.ref x, l1, l2] st h Q ↔ T d 134 20 [.ref x, l1, l2] (.ref x :: st) h Q := T_aload_n c134_19 rfl
theorem c134_20 : cod 134 20 = some (.bipush (-2), 2) := cod_of b134 dX8_guest_20
theorem t134_20 {d : Nat} {h : Hp} {Q : Pst} {ls : List Value} {st : List Value} : T d 134 20 ls st h Q ↔ T d 134 22 ls (.int (-2) :: st) h Q := T_bipushV c134_20 (by decide)
theorem c134_22 : cod 134 22 = some (.invokevirtual 45, 3) := cod_of b134 dX8_guest_22
theorem t134_22 {d : Nat} {h : Hp} {Q : Pst} {a0 : Int32} {a : Nat} {ls : List Value} (ho : isO (h.2.2 a) 7) : T (d + 1) 134 22 ls [.int a0, .ref a] h Q ↔ T d 129 0 [.ref a, .int a0] [] h (fun x h2 => T (d + 1) 134 25 ls (rl x []) h2 Q) := T_virtualR (as := [.int a0]) (r := []) m134 m129 c134_22 k8_45  rfl (by decide) rfl (by simp [wrd, Value.category]) (by simp [stk, Value.category]) rfl (by decide +kernel) ho
theorem c134_25 : cod 134 25 = some (.ireturn, 1) := cod_of b134 dX8_guest_25
theorem t134_25 {d : Nat} {h : Hp} {Q : Pst} {x : Int32} {ls : List Value} : T d 134 25 ls [.int x] h Q ↔ Q (some (.int x)) h := T_iretR m134 c134_25 rfl
theorem b135 : (mR 135).2.2.1 = cX8_addHouse := by rw [m135]
theorem c135_0 : cod 135 0 = some (.aload_n 0, 1) := cod_of b135 dX8_addHouse_0
theorem t135_0 {d : Nat} {h : Hp} {Q : Pst} {l1 l2 l3 : Value} {x : Nat} {st : List Value} : T d 135 0 [.ref x, l1, l2, l3] st h Q ↔ T d 135 1 [.ref x, l1, l2, l3] (.ref x :: st) h Q := T_aload_n c135_0 rfl
theorem c135_1 : cod 135 1 = some (.getfield 7, 3) := cod_of b135 dX8_addHouse_1
theorem t135_1 {d : Nat} {h : Hp} {Q : Pst} {a : Nat} {ls : List Value} {st : List Value} : T d 135 1 ls (.ref a :: st) h Q ↔ gF (h.2.2 a) 7 0 (fun v => T d 135 4 ls (v :: st) h Q) := T_getfieldR m135 c135_1 f8_7
theorem c135_4 : cod 135 4 = some (.bipush 25, 2) := cod_of b135 dX8_addHouse_4
theorem t135_4 {d : Nat} {h : Hp} {Q : Pst} {ls : List Value} {st : List Value} : T d 135 4 ls st h Q ↔ T d 135 6 ls (.int 25 :: st) h Q := T_bipushV c135_4 (by decide)
theorem c135_6 : cod 135 6 = some (.iaload, 1) := cod_of b135 dX8_addHouse_6
theorem t135_6 {d : Nat} {h : Hp} {Q : Pst} {a : Nat} {i : Int32} {ls : List Value} {st : List Value} : T d 135 6 ls (.int i :: .ref a :: st) h Q ↔ aL (h.2.2 a) i (fun x => T d 135 7 ls (.int x :: st) h Q) := T_iaload c135_6
theorem c135_7 : cod 135 7 = some (.istore_n 3, 1) := cod_of b135 dX8_addHouse_7
theorem t135_7 {d : Nat} {h : Hp} {Q : Pst} {l0 l1 l2 l3 : Value} {x : Int32} {st : List Value} : T d 135 7 [l0, l1, l2, l3] (.int x :: st) h Q ↔ T d 135 8 [l0, l1, kil l2, .int x] st h Q := T_istore_n c135_7 (Nat.le_of_ble_eq_true rfl)
theorem c135_8 : cod 135 8 = some (.aload_n 0, 1) := cod_of b135 dX8_addHouse_8
theorem t135_8 {d : Nat} {h : Hp} {Q : Pst} {l1 l2 l3 : Value} {x : Nat} {st : List Value} : T d 135 8 [.ref x, l1, l2, l3] st h Q ↔ T d 135 9 [.ref x, l1, l2, l3] (.ref x :: st) h Q := T_aload_n c135_8 rfl
theorem c135_9 : cod 135 9 = some (.getfield 7, 3) := cod_of b135 dX8_addHouse_9
theorem t135_9 {d : Nat} {h : Hp} {Q : Pst} {a : Nat} {ls : List Value} {st : List Value} : T d 135 9 ls (.ref a :: st) h Q ↔ gF (h.2.2 a) 7 0 (fun v => T d 135 12 ls (v :: st) h Q) := T_getfieldR m135 c135_9 f8_7
theorem c135_12 : cod 135 12 = some (.bipush 26, 2) := cod_of b135 dX8_addHouse_12
theorem t135_12 {d : Nat} {h : Hp} {Q : Pst} {ls : List Value} {st : List Value} : T d 135 12 ls st h Q ↔ T d 135 14 ls (.int 26 :: st) h Q := T_bipushV c135_12 (by decide)
theorem c135_14 : cod 135 14 = some (.iload_n 3, 1) := cod_of b135 dX8_addHouse_14
theorem t135_14 {d : Nat} {h : Hp} {Q : Pst} {l0 l1 l2 : Value} {x : Int32} {st : List Value} : T d 135 14 [l0, l1, l2, .int x] st h Q ↔ T d 135 15 [l0, l1, l2, .int x] (.int x :: st) h Q := T_iload_n c135_14 rfl
theorem c135_15 : cod 135 15 = some (.iadd, 1) := cod_of b135 dX8_addHouse_15
theorem t135_15 {d : Nat} {h : Hp} {Q : Pst} {x y : Int32} {ls : List Value} {st : List Value} : T d 135 15 ls (.int y :: .int x :: st) h Q ↔ T d 135 16 ls (.int (x + y) :: st) h Q := T_iadd c135_15
theorem c135_16 : cod 135 16 = some (.iload_n 1, 1) := cod_of b135 dX8_addHouse_16
theorem t135_16 {d : Nat} {h : Hp} {Q : Pst} {l0 l2 l3 : Value} {x : Int32} {st : List Value} : T d 135 16 [l0, .int x, l2, l3] st h Q ↔ T d 135 17 [l0, .int x, l2, l3] (.int x :: st) h Q := T_iload_n c135_16 rfl
theorem c135_17 : cod 135 17 = some (.iastore, 1) := cod_of b135 dX8_addHouse_17
theorem t135_17 {d : Nat} {h : Hp} {Q : Pst} {a : Nat} {i x : Int32} {ls : List Value} {st : List Value} : T d 135 17 ls (.int x :: .int i :: .ref a :: st) h Q ↔ aS (h.2.2 a) i x (fun cell => T d 135 18 ls st (hup h a cell) Q) := T_iastore c135_17
theorem c135_18 : cod 135 18 = some (.aload_n 0, 1) := cod_of b135 dX8_addHouse_18
theorem t135_18 {d : Nat} {h : Hp} {Q : Pst} {l1 l2 l3 : Value} {x : Nat} {st : List Value} : T d 135 18 [.ref x, l1, l2, l3] st h Q ↔ T d 135 19 [.ref x, l1, l2, l3] (.ref x :: st) h Q := T_aload_n c135_18 rfl
theorem c135_19 : cod 135 19 = some (.getfield 7, 3) := cod_of b135 dX8_addHouse_19
theorem t135_19 {d : Nat} {h : Hp} {Q : Pst} {a : Nat} {ls : List Value} {st : List Value} : T d 135 19 ls (.ref a :: st) h Q ↔ gF (h.2.2 a) 7 0 (fun v => T d 135 22 ls (v :: st) h Q) := T_getfieldR m135 c135_19 f8_7
theorem c135_22 : cod 135 22 = some (.bipush 30, 2) := cod_of b135 dX8_addHouse_22
theorem t135_22 {d : Nat} {h : Hp} {Q : Pst} {ls : List Value} {st : List Value} : T d 135 22 ls st h Q ↔ T d 135 24 ls (.int 30 :: st) h Q := T_bipushV c135_22 (by decide)
theorem c135_24 : cod 135 24 = some (.iload_n 3, 1) := cod_of b135 dX8_addHouse_24
theorem t135_24 {d : Nat} {h : Hp} {Q : Pst} {l0 l1 l2 : Value} {x : Int32} {st : List Value} : T d 135 24 [l0, l1, l2, .int x] st h Q ↔ T d 135 25 [l0, l1, l2, .int x] (.int x :: st) h Q := T_iload_n c135_24 rfl
theorem c135_25 : cod 135 25 = some (.iadd, 1) := cod_of b135 dX8_addHouse_25
theorem t135_25 {d : Nat} {h : Hp} {Q : Pst} {x y : Int32} {ls : List Value} {st : List Value} : T d 135 25 ls (.int y :: .int x :: st) h Q ↔ T d 135 26 ls (.int (x + y) :: st) h Q := T_iadd c135_25
theorem c135_26 : cod 135 26 = some (.iload_n 2, 1) := cod_of b135 dX8_addHouse_26
theorem t135_26 {d : Nat} {h : Hp} {Q : Pst} {l0 l1 l3 : Value} {x : Int32} {st : List Value} : T d 135 26 [l0, l1, .int x, l3] st h Q ↔ T d 135 27 [l0, l1, .int x, l3] (.int x :: st) h Q := T_iload_n c135_26 rfl
theorem c135_27 : cod 135 27 = some (.iastore, 1) := cod_of b135 dX8_addHouse_27
theorem t135_27 {d : Nat} {h : Hp} {Q : Pst} {a : Nat} {i x : Int32} {ls : List Value} {st : List Value} : T d 135 27 ls (.int x :: .int i :: .ref a :: st) h Q ↔ aS (h.2.2 a) i x (fun cell => T d 135 28 ls st (hup h a cell) Q) := T_iastore c135_27
theorem c135_28 : cod 135 28 = some (.aload_n 0, 1) := cod_of b135 dX8_addHouse_28
theorem t135_28 {d : Nat} {h : Hp} {Q : Pst} {l1 l2 l3 : Value} {x : Nat} {st : List Value} : T d 135 28 [.ref x, l1, l2, l3] st h Q ↔ T d 135 29 [.ref x, l1, l2, l3] (.ref x :: st) h Q := T_aload_n c135_28 rfl
theorem c135_29 : cod 135 29 = some (.getfield 7, 3) := cod_of b135 dX8_addHouse_29
theorem t135_29 {d : Nat} {h : Hp} {Q : Pst} {a : Nat} {ls : List Value} {st : List Value} : T d 135 29 ls (.ref a :: st) h Q ↔ gF (h.2.2 a) 7 0 (fun v => T d 135 32 ls (v :: st) h Q) := T_getfieldR m135 c135_29 f8_7
theorem c135_32 : cod 135 32 = some (.bipush 25, 2) := cod_of b135 dX8_addHouse_32
theorem t135_32 {d : Nat} {h : Hp} {Q : Pst} {ls : List Value} {st : List Value} : T d 135 32 ls st h Q ↔ T d 135 34 ls (.int 25 :: st) h Q := T_bipushV c135_32 (by decide)
theorem c135_34 : cod 135 34 = some (.dup2, 1) := cod_of b135 dX8_addHouse_34
theorem t135_34 {d : Nat} {h : Hp} {Q : Pst} {x : Int32} {y : Nat} {ls : List Value} {st : List Value} : T d 135 34 ls (.int x :: .ref y :: st) h Q ↔ T d 135 35 ls (.int x :: .ref y :: .int x :: .ref y :: st) h Q := T_dup2 c135_34 rfl rfl
theorem c135_35 : cod 135 35 = some (.iaload, 1) := cod_of b135 dX8_addHouse_35
theorem t135_35 {d : Nat} {h : Hp} {Q : Pst} {a : Nat} {i : Int32} {ls : List Value} {st : List Value} : T d 135 35 ls (.int i :: .ref a :: st) h Q ↔ aL (h.2.2 a) i (fun x => T d 135 36 ls (.int x :: st) h Q) := T_iaload c135_35
theorem c135_36 : cod 135 36 = some (.iconst 1, 1) := cod_of b135 dX8_addHouse_36
theorem t135_36 {d : Nat} {h : Hp} {Q : Pst} {ls : List Value} {st : List Value} : T d 135 36 ls st h Q ↔ T d 135 37 ls (.int 1 :: st) h Q := T_iconstV c135_36 (by decide)
theorem c135_37 : cod 135 37 = some (.iadd, 1) := cod_of b135 dX8_addHouse_37
theorem t135_37 {d : Nat} {h : Hp} {Q : Pst} {x y : Int32} {ls : List Value} {st : List Value} : T d 135 37 ls (.int y :: .int x :: st) h Q ↔ T d 135 38 ls (.int (x + y) :: st) h Q := T_iadd c135_37
theorem c135_38 : cod 135 38 = some (.iastore, 1) := cod_of b135 dX8_addHouse_38
theorem t135_38 {d : Nat} {h : Hp} {Q : Pst} {a : Nat} {i x : Int32} {ls : List Value} {st : List Value} : T d 135 38 ls (.int x :: .int i :: .ref a :: st) h Q ↔ aS (h.2.2 a) i x (fun cell => T d 135 39 ls st (hup h a cell) Q) := T_iastore c135_38
theorem c135_39 : cod 135 39 = some (.aload_n 0, 1) := cod_of b135 dX8_addHouse_39
theorem t135_39 {d : Nat} {h : Hp} {Q : Pst} {l1 l2 l3 : Value} {x : Nat} {st : List Value} : T d 135 39 [.ref x, l1, l2, l3] st h Q ↔ T d 135 40 [.ref x, l1, l2, l3] (.ref x :: st) h Q := T_aload_n c135_39 rfl
theorem c135_40 : cod 135 40 = some (.getfield 7, 3) := cod_of b135 dX8_addHouse_40
theorem t135_40 {d : Nat} {h : Hp} {Q : Pst} {a : Nat} {ls : List Value} {st : List Value} : T d 135 40 ls (.ref a :: st) h Q ↔ gF (h.2.2 a) 7 0 (fun v => T d 135 43 ls (v :: st) h Q) := T_getfieldR m135 c135_40 f8_7
theorem c135_43 : cod 135 43 = some (.bipush 111, 2) := cod_of b135 dX8_addHouse_43
theorem t135_43 {d : Nat} {h : Hp} {Q : Pst} {ls : List Value} {st : List Value} : T d 135 43 ls st h Q ↔ T d 135 45 ls (.int 111 :: st) h Q := T_bipushV c135_43 (by decide)
theorem c135_45 : cod 135 45 = some (.iconst 0, 1) := cod_of b135 dX8_addHouse_45
theorem t135_45 {d : Nat} {h : Hp} {Q : Pst} {ls : List Value} {st : List Value} : T d 135 45 ls st h Q ↔ T d 135 46 ls (.int 0 :: st) h Q := T_iconstV c135_45 (by decide)
theorem c135_46 : cod 135 46 = some (.iastore, 1) := cod_of b135 dX8_addHouse_46
theorem t135_46 {d : Nat} {h : Hp} {Q : Pst} {a : Nat} {i x : Int32} {ls : List Value} {st : List Value} : T d 135 46 ls (.int x :: .int i :: .ref a :: st) h Q ↔ aS (h.2.2 a) i x (fun cell => T d 135 47 ls st (hup h a cell) Q) := T_iastore c135_46
theorem c135_47 : cod 135 47 = some (.return_, 1) := cod_of b135 dX8_addHouse_47
theorem t135_47 {d : Nat} {h : Hp} {Q : Pst} {ls : List Value} : T d 135 47 ls [] h Q ↔ Q none h := T_retR m135 c135_47 rfl
theorem b136 : (mR 136).2.2.1 = cX8_house := by rw [m136]
theorem c136_0 : cod 136 0 = some (.iload_n 1, 1) := cod_of b136 dX8_house_0
theorem t136_0 {d : Nat} {h : Hp} {Q : Pst} {l0 l2 : Value} {x : Int32} {st : List Value} : T d 136 0 [l0, .int x, l2] st h Q ↔ T d 136 1 [l0, .int x, l2] (.int x :: st) h Q := T_iload_n c136_0 rfl
theorem c136_1 : cod 136 1 = some (.iconst 0, 1) := cod_of b136 dX8_house_1
theorem t136_1 {d : Nat} {h : Hp} {Q : Pst} {ls : List Value} {st : List Value} : T d 136 1 ls st h Q ↔ T d 136 2 ls (.int 0 :: st) h Q := T_iconstV c136_1 (by decide)
theorem c136_2 : cod 136 2 = some (.iconst 5, 1) := cod_of b136 dX8_house_2
theorem t136_2 {d : Nat} {h : Hp} {Q : Pst} {ls : List Value} {st : List Value} : T d 136 2 ls st h Q ↔ T d 136 3 ls (.int 5 :: st) h Q := T_iconstV c136_2 (by decide)
theorem c136_3 : cod 136 3 = some (.invokestatic 49, 3) := cod_of b136 dX8_house_3
theorem t136_3 {d : Nat} {h : Hp} {Q : Pst} {a0 a1 a2 : Int32} {ls : List Value} : T (d + 1) 136 3 ls [.int a2, .int a1, .int a0] h Q ↔ T d 126 0 [.int a0, .int a1, .int a2] [] h (fun x h2 => T (d + 1) 136 6 ls (rl x []) h2 Q) := T_staticR (as := [.int a0, .int a1, .int a2]) (r := []) m136 m126 c136_3 k8_49 (Or.inl rfl) rfl (by decide) rfl (by simp [wrd, Value.category]) (by simp [stk, Value.category]) rfl
theorem c136_6 : cod 136 6 = some (.ifCond .eq 13, 3) := cod_of b136 dX8_house_6
theorem t136_6 {d : Nat} {h : Hp} {Q : Pst} {x : Int32} {ls : List Value} {st : List Value} : T d 136 6 ls (.int x :: st) h Q ↔ (if x = 0 then T d 136 19 ls st h Q else T d 136 9 ls st h Q) := T_if_eq c136_6 (by decide)
theorem c136_9 : cod 136 9 = some (.iload_n 2, 1) := cod_of b136 dX8_house_9
theorem t136_9 {d : Nat} {h : Hp} {Q : Pst} {l0 l1 : Value} {x : Int32} {st : List Value} : T d 136 9 [l0, l1, .int x] st h Q ↔ T d 136 10 [l0, l1, .int x] (.int x :: st) h Q := T_iload_n c136_9 rfl
theorem c136_10 : cod 136 10 = some (.iconst 1, 1) := cod_of b136 dX8_house_10
theorem t136_10 {d : Nat} {h : Hp} {Q : Pst} {ls : List Value} {st : List Value} : T d 136 10 ls st h Q ↔ T d 136 11 ls (.int 1 :: st) h Q := T_iconstV c136_10 (by decide)
theorem c136_11 : cod 136 11 = some (.bipush 30, 2) := cod_of b136 dX8_house_11
theorem t136_11 {d : Nat} {h : Hp} {Q : Pst} {ls : List Value} {st : List Value} : T d 136 11 ls st h Q ↔ T d 136 13 ls (.int 30 :: st) h Q := T_bipushV c136_11 (by decide)
theorem c136_13 : cod 136 13 = some (.invokestatic 49, 3) := cod_of b136 dX8_house_13
theorem t136_13 {d : Nat} {h : Hp} {Q : Pst} {a0 a1 a2 : Int32} {ls : List Value} : T (d + 1) 136 13 ls [.int a2, .int a1, .int a0] h Q ↔ T d 126 0 [.int a0, .int a1, .int a2] [] h (fun x h2 => T (d + 1) 136 16 ls (rl x []) h2 Q) := T_staticR (as := [.int a0, .int a1, .int a2]) (r := []) m136 m126 c136_13 k8_49 (Or.inl rfl) rfl (by decide) rfl (by simp [wrd, Value.category]) (by simp [stk, Value.category]) rfl
theorem c136_16 : cod 136 16 = some (.ifCond .ne 10, 3) := cod_of b136 dX8_house_16
theorem t136_16 {d : Nat} {h : Hp} {Q : Pst} {x : Int32} {ls : List Value} {st : List Value} : T d 136 16 ls (.int x :: st) h Q ↔ (if ¬ x = 0 then T d 136 26 ls st h Q else T d 136 19 ls st h Q) := T_if_ne c136_16 (by decide)
theorem c136_26 : cod 136 26 = some (.aload_n 0, 1) := cod_of b136 dX8_house_26
theorem t136_26 {d : Nat} {h : Hp} {Q : Pst} {l1 l2 : Value} {x : Nat} {st : List Value} : T d 136 26 [.ref x, l1, l2] st h Q ↔ T d 136 27 [.ref x, l1, l2] (.ref x :: st) h Q := T_aload_n c136_26 rfl
theorem c136_27 : cod 136 27 = some (.getfield 7, 3) := cod_of b136 dX8_house_27
theorem t136_27 {d : Nat} {h : Hp} {Q : Pst} {a : Nat} {ls : List Value} {st : List Value} : T d 136 27 ls (.ref a :: st) h Q ↔ gF (h.2.2 a) 7 0 (fun v => T d 136 30 ls (v :: st) h Q) := T_getfieldR m136 c136_27 f8_7
theorem c136_30 : cod 136 30 = some (.bipush 25, 2) := cod_of b136 dX8_house_30
theorem t136_30 {d : Nat} {h : Hp} {Q : Pst} {ls : List Value} {st : List Value} : T d 136 30 ls st h Q ↔ T d 136 32 ls (.int 25 :: st) h Q := T_bipushV c136_30 (by decide)
theorem c136_32 : cod 136 32 = some (.iaload, 1) := cod_of b136 dX8_house_32
theorem t136_32 {d : Nat} {h : Hp} {Q : Pst} {a : Nat} {i : Int32} {ls : List Value} {st : List Value} : T d 136 32 ls (.int i :: .ref a :: st) h Q ↔ aL (h.2.2 a) i (fun x => T d 136 33 ls (.int x :: st) h Q) := T_iaload c136_32
theorem c136_33 : cod 136 33 = some (.iconst 4, 1) := cod_of b136 dX8_house_33
theorem t136_33 {d : Nat} {h : Hp} {Q : Pst} {ls : List Value} {st : List Value} : T d 136 33 ls st h Q ↔ T d 136 34 ls (.int 4 :: st) h Q := T_iconstV c136_33 (by decide)
theorem c136_34 : cod 136 34 = some (.if_icmp .ne 10, 3) := cod_of b136 dX8_house_34
theorem t136_34 {d : Nat} {h : Hp} {Q : Pst} {x y : Int32} {ls : List Value} {st : List Value} : T d 136 34 ls (.int y :: .int x :: st) h Q ↔ (if ¬ x = y then T d 136 44 ls st h Q else T d 136 37 ls st h Q) := T_icmp_ne c136_34 (by decide)
theorem c136_37 : cod 136 37 = some (.aload_n 0, 1) := cod_of b136 dX8_house_37
theorem t136_37 {d : Nat} {h : Hp} {Q : Pst} {l1 l2 : Value} {x : Nat} {st : List Value} : T d 136 37 [.ref x, l1, l2] st h Q ↔ T d 136 38 [.ref x, l1, l2] (.ref x :: st) h Q := T_aload_n c136_37 rfl
theorem c136_38 : cod 136 38 = some (.bipush (-4), 2) := cod_of b136 dX8_house_38
theorem t136_38 {d : Nat} {h : Hp} {Q : Pst} {ls : List Value} {st : List Value} : T d 136 38 ls st h Q ↔ T d 136 40 ls (.int (-4) :: st) h Q := T_bipushV c136_38 (by decide)
theorem c136_40 : cod 136 40 = some (.invokevirtual 45, 3) := cod_of b136 dX8_house_40
theorem t136_40 {d : Nat} {h : Hp} {Q : Pst} {a0 : Int32} {a : Nat} {ls : List Value} (ho : isO (h.2.2 a) 7) : T (d + 1) 136 40 ls [.int a0, .ref a] h Q ↔ T d 129 0 [.ref a, .int a0] [] h (fun x h2 => T (d + 1) 136 43 ls (rl x []) h2 Q) := T_virtualR (as := [.int a0]) (r := []) m136 m129 c136_40 k8_45  rfl (by decide) rfl (by simp [wrd, Value.category]) (by simp [stk, Value.category]) rfl (by decide +kernel) ho
theorem c136_43 : cod 136 43 = some (.ireturn, 1) := cod_of b136 dX8_house_43
theorem t136_43 {d : Nat} {h : Hp} {Q : Pst} {x : Int32} {ls : List Value} : T d 136 43 ls [.int x] h Q ↔ Q (some (.int x)) h := T_iretR m136 c136_43 rfl
theorem c136_44 : cod 136 44 = some (.aload_n 0, 1) := cod_of b136 dX8_house_44
theorem t136_44 {d : Nat} {h : Hp} {Q : Pst} {l1 l2 : Value} {x : Nat} {st : List Value} : T d 136 44 [.ref x, l1, l2] st h Q ↔ T d 136 45 [.ref x, l1, l2] (.ref x :: st) h Q := T_aload_n c136_44 rfl
theorem c136_45 : cod 136 45 = some (.iload_n 1, 1) := cod_of b136 dX8_house_45
theorem t136_45 {d : Nat} {h : Hp} {Q : Pst} {l0 l2 : Value} {x : Int32} {st : List Value} : T d 136 45 [l0, .int x, l2] st h Q ↔ T d 136 46 [l0, .int x, l2] (.int x :: st) h Q := T_iload_n c136_45 rfl
theorem c136_46 : cod 136 46 = some (.iload_n 2, 1) := cod_of b136 dX8_house_46
theorem t136_46 {d : Nat} {h : Hp} {Q : Pst} {l0 l1 : Value} {x : Int32} {st : List Value} : T d 136 46 [l0, l1, .int x] st h Q ↔ T d 136 47 [l0, l1, .int x] (.int x :: st) h Q := T_iload_n c136_46 rfl
theorem c136_47 : cod 136 47 = some (.invokevirtual 61, 3) := cod_of b136 dX8_house_47
theorem t136_47 {d : Nat} {h : Hp} {Q : Pst} {a0 a1 : Int32} {a : Nat} {ls : List Value} (ho : isO (h.2.2 a) 7) : T (d + 1) 136 47 ls [.int a1, .int a0, .ref a] h Q ↔ T d 135 0 [.ref a, .int a0, .int a1, un] [] h (fun x h2 => T (d + 1) 136 50 ls (rl x []) h2 Q) := T_virtualR (as := [.int a0, .int a1]) (r := []) m136 m135 c136_47 k8_61  rfl (by decide) rfl (by simp [wrd, Value.category]) (by simp [stk, Value.category]) rfl (by decide +kernel) ho
theorem c136_50 : cod 136 50 = some (.aload_n 0, 1) := cod_of b136 dX8_house_50
theorem t136_50 {d : Nat} {h : Hp} {Q : Pst} {l1 l2 : Value} {x : Nat} {st : List Value} : T d 136 50 [.ref x, l1, l2] st h Q ↔ T d 136 51 [.ref x, l1, l2] (.ref x :: st) h Q := T_aload_n c136_50 rfl
theorem c136_51 : cod 136 51 = some (.getfield 7, 3) := cod_of b136 dX8_house_51
theorem t136_51 {d : Nat} {h : Hp} {Q : Pst} {a : Nat} {ls : List Value} {st : List Value} : T d 136 51 ls (.ref a :: st) h Q ↔ gF (h.2.2 a) 7 0 (fun v => T d 136 54 ls (v :: st) h Q) := T_getfieldR m136 c136_51 f8_7
theorem c136_54 : cod 136 54 = some (.bipush 25, 2) := cod_of b136 dX8_house_54
theorem t136_54 {d : Nat} {h : Hp} {Q : Pst} {ls : List Value} {st : List Value} : T d 136 54 ls st h Q ↔ T d 136 56 ls (.int 25 :: st) h Q := T_bipushV c136_54 (by decide)
theorem c136_56 : cod 136 56 = some (.iaload, 1) := cod_of b136 dX8_house_56
theorem t136_56 {d : Nat} {h : Hp} {Q : Pst} {a : Nat} {i : Int32} {ls : List Value} {st : List Value} : T d 136 56 ls (.int i :: .ref a :: st) h Q ↔ aL (h.2.2 a) i (fun x => T d 136 57 ls (.int x :: st) h Q) := T_iaload c136_56
theorem c136_57 : cod 136 57 = some (.iconst 1, 1) := cod_of b136 dX8_house_57
theorem t136_57 {d : Nat} {h : Hp} {Q : Pst} {ls : List Value} {st : List Value} : T d 136 57 ls st h Q ↔ T d 136 58 ls (.int 1 :: st) h Q := T_iconstV c136_57 (by decide)
theorem c136_58 : cod 136 58 = some (.isub, 1) := cod_of b136 dX8_house_58
theorem t136_58 {d : Nat} {h : Hp} {Q : Pst} {x y : Int32} {ls : List Value} {st : List Value} : T d 136 58 ls (.int y :: .int x :: st) h Q ↔ T d 136 59 ls (.int (x - y) :: st) h Q := T_isub c136_58
theorem c136_59 : cod 136 59 = some (.ireturn, 1) := cod_of b136 dX8_house_59
theorem t136_59 {d : Nat} {h : Hp} {Q : Pst} {x : Int32} {ls : List Value} : T d 136 59 ls [.int x] h Q ↔ Q (some (.int x)) h := T_iretR m136 c136_59 rfl
theorem c136_19 : cod 136 19 = some (.aload_n 0, 1) := cod_of b136 dX8_house_19
theorem t136_19 {d : Nat} {h : Hp} {Q : Pst} {l1 l2 : Value} {x : Nat} {st : List Value} : T d 136 19 [.ref x, l1, l2] st h Q ↔ T d 136 20 [.ref x, l1, l2] (.ref x :: st) h Q := T_aload_n c136_19 rfl
theorem c136_20 : cod 136 20 = some (.bipush (-2), 2) := cod_of b136 dX8_house_20
theorem t136_20 {d : Nat} {h : Hp} {Q : Pst} {ls : List Value} {st : List Value} : T d 136 20 ls st h Q ↔ T d 136 22 ls (.int (-2) :: st) h Q := T_bipushV c136_20 (by decide)
theorem c136_22 : cod 136 22 = some (.invokevirtual 45, 3) := cod_of b136 dX8_house_22
theorem t136_22 {d : Nat} {h : Hp} {Q : Pst} {a0 : Int32} {a : Nat} {ls : List Value} (ho : isO (h.2.2 a) 7) : T (d + 1) 136 22 ls [.int a0, .ref a] h Q ↔ T d 129 0 [.ref a, .int a0] [] h (fun x h2 => T (d + 1) 136 25 ls (rl x []) h2 Q) := T_virtualR (as := [.int a0]) (r := []) m136 m129 c136_22 k8_45  rfl (by decide) rfl (by simp [wrd, Value.category]) (by simp [stk, Value.category]) rfl (by decide +kernel) ho
theorem c136_25 : cod 136 25 = some (.ireturn, 1) := cod_of b136 dX8_house_25
theorem t136_25 {d : Nat} {h : Hp} {Q : Pst} {x : Int32} {ls : List Value} : T d 136 25 ls [.int x] h Q ↔ Q (some (.int x)) h := T_iretR m136 c136_25 rfl
theorem b137 : (mR 137).2.2.1 = cX8_type := by rw [m137]
theorem c137_0 : cod 137 0 = some (.iload_n 1, 1) := cod_of b137 dX8_type_0
theorem t137_0 {d : Nat} {h : Hp} {Q : Pst} {l0 : Value} {x : Int32} {st : List Value} : T d 137 0 [l0, .int x] st h Q ↔ T d 137 1 [l0, .int x] (.int x :: st) h Q := T_iload_n c137_0 rfl
theorem c137_1 : cod 137 1 = some (.iconst 0, 1) := cod_of b137 dX8_type_1
theorem t137_1 {d : Nat} {h : Hp} {Q : Pst} {ls : List Value} {st : List Value} : T d 137 1 ls st h Q ↔ T d 137 2 ls (.int 0 :: st) h Q := T_iconstV c137_1 (by decide)
theorem c137_2 : cod 137 2 = some (.bipush 127, 2) := cod_of b137 dX8_type_2
theorem t137_2 {d : Nat} {h : Hp} {Q : Pst} {ls : List Value} {st : List Value} : T d 137 2 ls st h Q ↔ T d 137 4 ls (.int 127 :: st) h Q := T_bipushV c137_2 (by decide)
theorem c137_4 : cod 137 4 = some (.invokestatic 49, 3) := cod_of b137 dX8_type_4
theorem t137_4 {d : Nat} {h : Hp} {Q : Pst} {a0 a1 a2 : Int32} {ls : List Value} : T (d + 1) 137 4 ls [.int a2, .int a1, .int a0] h Q ↔ T d 126 0 [.int a0, .int a1, .int a2] [] h (fun x h2 => T (d + 1) 137 7 ls (rl x []) h2 Q) := T_staticR (as := [.int a0, .int a1, .int a2]) (r := []) m137 m126 c137_4 k8_49 (Or.inl rfl) rfl (by decide) rfl (by simp [wrd, Value.category]) (by simp [stk, Value.category]) rfl
theorem c137_7 : cod 137 7 = some (.ifCond .ne 10, 3) := cod_of b137 dX8_type_7
theorem t137_7 {d : Nat} {h : Hp} {Q : Pst} {x : Int32} {ls : List Value} {st : List Value} : T d 137 7 ls (.int x :: st) h Q ↔ (if ¬ x = 0 then T d 137 17 ls st h Q else T d 137 10 ls st h Q) := T_if_ne c137_7 (by decide)
theorem c137_10 : cod 137 10 = some (.aload_n 0, 1) := cod_of b137 dX8_type_10
theorem t137_10 {d : Nat} {h : Hp} {Q : Pst} {l1 : Value} {x : Nat} {st : List Value} : T d 137 10 [.ref x, l1] st h Q ↔ T d 137 11 [.ref x, l1] (.ref x :: st) h Q := T_aload_n c137_10 rfl
theorem c137_11 : cod 137 11 = some (.bipush (-2), 2) := cod_of b137 dX8_type_11
theorem t137_11 {d : Nat} {h : Hp} {Q : Pst} {ls : List Value} {st : List Value} : T d 137 11 ls st h Q ↔ T d 137 13 ls (.int (-2) :: st) h Q := T_bipushV c137_11 (by decide)
theorem c137_13 : cod 137 13 = some (.invokevirtual 45, 3) := cod_of b137 dX8_type_13
theorem t137_13 {d : Nat} {h : Hp} {Q : Pst} {a0 : Int32} {a : Nat} {ls : List Value} (ho : isO (h.2.2 a) 7) : T (d + 1) 137 13 ls [.int a0, .ref a] h Q ↔ T d 129 0 [.ref a, .int a0] [] h (fun x h2 => T (d + 1) 137 16 ls (rl x []) h2 Q) := T_virtualR (as := [.int a0]) (r := []) m137 m129 c137_13 k8_45  rfl (by decide) rfl (by simp [wrd, Value.category]) (by simp [stk, Value.category]) rfl (by decide +kernel) ho
theorem c137_16 : cod 137 16 = some (.ireturn, 1) := cod_of b137 dX8_type_16
theorem t137_16 {d : Nat} {h : Hp} {Q : Pst} {x : Int32} {ls : List Value} : T d 137 16 ls [.int x] h Q ↔ Q (some (.int x)) h := T_iretR m137 c137_16 rfl
theorem c137_17 : cod 137 17 = some (.aload_n 0, 1) := cod_of b137 dX8_type_17
theorem t137_17 {d : Nat} {h : Hp} {Q : Pst} {l1 : Value} {x : Nat} {st : List Value} : T d 137 17 [.ref x, l1] st h Q ↔ T d 137 18 [.ref x, l1] (.ref x :: st) h Q := T_aload_n c137_17 rfl
theorem c137_18 : cod 137 18 = some (.getfield 64, 3) := cod_of b137 dX8_type_18
theorem t137_18 {d : Nat} {h : Hp} {Q : Pst} {a : Nat} {ls : List Value} {st : List Value} : T d 137 18 ls (.ref a :: st) h Q ↔ gF (h.2.2 a) 7 6 (fun v => T d 137 21 ls (v :: st) h Q) := T_getfieldR m137 c137_18 f8_64
theorem c137_21 : cod 137 21 = some (.sipush 150, 3) := cod_of b137 dX8_type_21
theorem t137_21 {d : Nat} {h : Hp} {Q : Pst} {ls : List Value} {st : List Value} : T d 137 21 ls st h Q ↔ T d 137 24 ls (.int 150 :: st) h Q := T_sipushV c137_21 (by decide)
theorem c137_24 : cod 137 24 = some (.if_icmp .ne 10, 3) := cod_of b137 dX8_type_24
theorem t137_24 {d : Nat} {h : Hp} {Q : Pst} {x y : Int32} {ls : List Value} {st : List Value} : T d 137 24 ls (.int y :: .int x :: st) h Q ↔ (if ¬ x = y then T d 137 34 ls st h Q else T d 137 27 ls st h Q) := T_icmp_ne c137_24 (by decide)
theorem c137_27 : cod 137 27 = some (.aload_n 0, 1) := cod_of b137 dX8_type_27
theorem t137_27 {d : Nat} {h : Hp} {Q : Pst} {l1 : Value} {x : Nat} {st : List Value} : T d 137 27 [.ref x, l1] st h Q ↔ T d 137 28 [.ref x, l1] (.ref x :: st) h Q := T_aload_n c137_27 rfl
theorem c137_28 : cod 137 28 = some (.bipush (-4), 2) := cod_of b137 dX8_type_28
theorem t137_28 {d : Nat} {h : Hp} {Q : Pst} {ls : List Value} {st : List Value} : T d 137 28 ls st h Q ↔ T d 137 30 ls (.int (-4) :: st) h Q := T_bipushV c137_28 (by decide)
theorem c137_30 : cod 137 30 = some (.invokevirtual 45, 3) := cod_of b137 dX8_type_30
theorem t137_30 {d : Nat} {h : Hp} {Q : Pst} {a0 : Int32} {a : Nat} {ls : List Value} (ho : isO (h.2.2 a) 7) : T (d + 1) 137 30 ls [.int a0, .ref a] h Q ↔ T d 129 0 [.ref a, .int a0] [] h (fun x h2 => T (d + 1) 137 33 ls (rl x []) h2 Q) := T_virtualR (as := [.int a0]) (r := []) m137 m129 c137_30 k8_45  rfl (by decide) rfl (by simp [wrd, Value.category]) (by simp [stk, Value.category]) rfl (by decide +kernel) ho
theorem c137_33 : cod 137 33 = some (.ireturn, 1) := cod_of b137 dX8_type_33
theorem t137_33 {d : Nat} {h : Hp} {Q : Pst} {x : Int32} {ls : List Value} : T d 137 33 ls [.int x] h Q ↔ Q (some (.int x)) h := T_iretR m137 c137_33 rfl
theorem c137_34 : cod 137 34 = some (.aload_n 0, 1) := cod_of b137 dX8_type_34
theorem t137_34 {d : Nat} {h : Hp} {Q : Pst} {l1 : Value} {x : Nat} {st : List Value} : T d 137 34 [.ref x, l1] st h Q ↔ T d 137 35 [.ref x, l1] (.ref x :: st) h Q := T_aload_n c137_34 rfl
theorem c137_35 : cod 137 35 = some (.getfield 24, 3) := cod_of b137 dX8_type_35
theorem t137_35 {d : Nat} {h : Hp} {Q : Pst} {a : Nat} {ls : List Value} {st : List Value} : T d 137 35 ls (.ref a :: st) h Q ↔ gF (h.2.2 a) 7 5 (fun v => T d 137 38 ls (v :: st) h Q) := T_getfieldR m137 c137_35 f8_24
theorem c137_38 : cod 137 38 = some (.aload_n 0, 1) := cod_of b137 dX8_type_38
theorem t137_38 {d : Nat} {h : Hp} {Q : Pst} {l1 : Value} {x : Nat} {st : List Value} : T d 137 38 [.ref x, l1] st h Q ↔ T d 137 39 [.ref x, l1] (.ref x :: st) h Q := T_aload_n c137_38 rfl
theorem c137_39 : cod 137 39 = some (.getfield 64, 3) := cod_of b137 dX8_type_39
theorem t137_39 {d : Nat} {h : Hp} {Q : Pst} {a : Nat} {ls : List Value} {st : List Value} : T d 137 39 ls (.ref a :: st) h Q ↔ gF (h.2.2 a) 7 6 (fun v => T d 137 42 ls (v :: st) h Q) := T_getfieldR m137 c137_39 f8_64
theorem c137_42 : cod 137 42 = some (.iload_n 1, 1) := cod_of b137 dX8_type_42
theorem t137_42 {d : Nat} {h : Hp} {Q : Pst} {l0 : Value} {x : Int32} {st : List Value} : T d 137 42 [l0, .int x] st h Q ↔ T d 137 43 [l0, .int x] (.int x :: st) h Q := T_iload_n c137_42 rfl
theorem c137_43 : cod 137 43 = some (.iastore, 1) := cod_of b137 dX8_type_43
theorem t137_43 {d : Nat} {h : Hp} {Q : Pst} {a : Nat} {i x : Int32} {ls : List Value} {st : List Value} : T d 137 43 ls (.int x :: .int i :: .ref a :: st) h Q ↔ aS (h.2.2 a) i x (fun cell => T d 137 44 ls st (hup h a cell) Q) := T_iastore c137_43
theorem c137_44 : cod 137 44 = some (.aload_n 0, 1) := cod_of b137 dX8_type_44
theorem t137_44 {d : Nat} {h : Hp} {Q : Pst} {l1 : Value} {x : Nat} {st : List Value} : T d 137 44 [.ref x, l1] st h Q ↔ T d 137 45 [.ref x, l1] (.ref x :: st) h Q := T_aload_n c137_44 rfl
theorem c137_45 : cod 137 45 = some (.dup, 1) := cod_of b137 dX8_type_45
theorem t137_45 {d : Nat} {h : Hp} {Q : Pst} {x : Nat} {ls : List Value} {st : List Value} : T d 137 45 ls (.ref x :: st) h Q ↔ T d 137 46 ls (.ref x :: .ref x :: st) h Q := T_dup c137_45 rfl
theorem c137_46 : cod 137 46 = some (.getfield 64, 3) := cod_of b137 dX8_type_46
theorem t137_46 {d : Nat} {h : Hp} {Q : Pst} {a : Nat} {ls : List Value} {st : List Value} : T d 137 46 ls (.ref a :: st) h Q ↔ gF (h.2.2 a) 7 6 (fun v => T d 137 49 ls (v :: st) h Q) := T_getfieldR m137 c137_46 f8_64
theorem c137_49 : cod 137 49 = some (.iconst 1, 1) := cod_of b137 dX8_type_49
theorem t137_49 {d : Nat} {h : Hp} {Q : Pst} {ls : List Value} {st : List Value} : T d 137 49 ls st h Q ↔ T d 137 50 ls (.int 1 :: st) h Q := T_iconstV c137_49 (by decide)
theorem c137_50 : cod 137 50 = some (.iadd, 1) := cod_of b137 dX8_type_50
theorem t137_50 {d : Nat} {h : Hp} {Q : Pst} {x y : Int32} {ls : List Value} {st : List Value} : T d 137 50 ls (.int y :: .int x :: st) h Q ↔ T d 137 51 ls (.int (x + y) :: st) h Q := T_iadd c137_50
theorem c137_51 : cod 137 51 = some (.putfield 64, 3) := cod_of b137 dX8_type_51
theorem t137_51 {d : Nat} {h : Hp} {Q : Pst} {a : Nat} {x : Int32} {ls : List Value} {st : List Value} : T d 137 51 ls (.int x :: .ref a :: st) h Q ↔ pF (h.2.2 a) 7 6 (.int x) (fun cell => T d 137 54 ls st (hup h a cell) Q) := T_putfieldR m137 c137_51 f8_64 (by decide +kernel)
theorem c137_54 : cod 137 54 = some (.aload_n 0, 1) := cod_of b137 dX8_type_54
theorem t137_54 {d : Nat} {h : Hp} {Q : Pst} {l1 : Value} {x : Nat} {st : List Value} : T d 137 54 [.ref x, l1] st h Q ↔ T d 137 55 [.ref x, l1] (.ref x :: st) h Q := T_aload_n c137_54 rfl
theorem c137_55 : cod 137 55 = some (.getfield 64, 3) := cod_of b137 dX8_type_55
theorem t137_55 {d : Nat} {h : Hp} {Q : Pst} {a : Nat} {ls : List Value} {st : List Value} : T d 137 55 ls (.ref a :: st) h Q ↔ gF (h.2.2 a) 7 6 (fun v => T d 137 58 ls (v :: st) h Q) := T_getfieldR m137 c137_55 f8_64
theorem c137_58 : cod 137 58 = some (.ireturn, 1) := cod_of b137 dX8_type_58
theorem t137_58 {d : Nat} {h : Hp} {Q : Pst} {x : Int32} {ls : List Value} : T d 137 58 ls [.int x] h Q ↔ Q (some (.int x)) h := T_iretR m137 c137_58 rfl
theorem b138 : (mR 138).2.2.1 = cX8_clear := by rw [m138]
theorem c138_0 : cod 138 0 = some (.aload_n 0, 1) := cod_of b138 dX8_clear_0
theorem t138_0 {d : Nat} {h : Hp} {Q : Pst} {l1 : Value} {x : Nat} {st : List Value} : T d 138 0 [.ref x, l1] st h Q ↔ T d 138 1 [.ref x, l1] (.ref x :: st) h Q := T_aload_n c138_0 rfl
theorem c138_1 : cod 138 1 = some (.getfield 64, 3) := cod_of b138 dX8_clear_1
theorem t138_1 {d : Nat} {h : Hp} {Q : Pst} {a : Nat} {ls : List Value} {st : List Value} : T d 138 1 ls (.ref a :: st) h Q ↔ gF (h.2.2 a) 7 6 (fun v => T d 138 4 ls (v :: st) h Q) := T_getfieldR m138 c138_1 f8_64
theorem c138_4 : cod 138 4 = some (.istore_n 1, 1) := cod_of b138 dX8_clear_4
theorem t138_4 {d : Nat} {h : Hp} {Q : Pst} {l0 l1 : Value} {x : Int32} {st : List Value} : T d 138 4 [l0, l1] (.int x :: st) h Q ↔ T d 138 5 [kil l0, .int x] st h Q := T_istore_n c138_4 (Nat.le_of_ble_eq_true rfl)
theorem c138_5 : cod 138 5 = some (.aload_n 0, 1) := cod_of b138 dX8_clear_5
theorem t138_5 {d : Nat} {h : Hp} {Q : Pst} {l1 : Value} {x : Nat} {st : List Value} : T d 138 5 [.ref x, l1] st h Q ↔ T d 138 6 [.ref x, l1] (.ref x :: st) h Q := T_aload_n c138_5 rfl
theorem c138_6 : cod 138 6 = some (.iconst 0, 1) := cod_of b138 dX8_clear_6
theorem t138_6 {d : Nat} {h : Hp} {Q : Pst} {ls : List Value} {st : List Value} : T d 138 6 ls st h Q ↔ T d 138 7 ls (.int 0 :: st) h Q := T_iconstV c138_6 (by decide)
theorem c138_7 : cod 138 7 = some (.putfield 64, 3) := cod_of b138 dX8_clear_7
theorem t138_7 {d : Nat} {h : Hp} {Q : Pst} {a : Nat} {x : Int32} {ls : List Value} {st : List Value} : T d 138 7 ls (.int x :: .ref a :: st) h Q ↔ pF (h.2.2 a) 7 6 (.int x) (fun cell => T d 138 10 ls st (hup h a cell) Q) := T_putfieldR m138 c138_7 f8_64 (by decide +kernel)
theorem c138_10 : cod 138 10 = some (.iload_n 1, 1) := cod_of b138 dX8_clear_10
theorem t138_10 {d : Nat} {h : Hp} {Q : Pst} {l0 : Value} {x : Int32} {st : List Value} : T d 138 10 [l0, .int x] st h Q ↔ T d 138 11 [l0, .int x] (.int x :: st) h Q := T_iload_n c138_10 rfl
theorem c138_11 : cod 138 11 = some (.ireturn, 1) := cod_of b138 dX8_clear_11
theorem t138_11 {d : Nat} {h : Hp} {Q : Pst} {x : Int32} {ls : List Value} : T d 138 11 ls [.int x] h Q ↔ Q (some (.int x)) h := T_iretR m138 c138_11 rfl
theorem b139 : (mR 139).2.2.1 = cX8_isLetter := by rw [m139]
theorem c139_0 : cod 139 0 = some (.iload_n 1, 1) := cod_of b139 dX8_isLetter_0
theorem t139_0 {d : Nat} {h : Hp} {Q : Pst} {l0 : Value} {x : Int32} {st : List Value} : T d 139 0 [l0, .int x] st h Q ↔ T d 139 1 [l0, .int x] (.int x :: st) h Q := T_iload_n c139_0 rfl
theorem c139_1 : cod 139 1 = some (.aload_n 0, 1) := cod_of b139 dX8_isLetter_1
theorem t139_1 {d : Nat} {h : Hp} {Q : Pst} {l1 : Value} {x : Nat} {st : List Value} : T d 139 1 [.ref x, l1] st h Q ↔ T d 139 2 [.ref x, l1] (.ref x :: st) h Q := T_aload_n c139_1 rfl
theorem c139_2 : cod 139 2 = some (.getfield 64, 3) := cod_of b139 dX8_isLetter_2
theorem t139_2 {d : Nat} {h : Hp} {Q : Pst} {a : Nat} {ls : List Value} {st : List Value} : T d 139 2 ls (.ref a :: st) h Q ↔ gF (h.2.2 a) 7 6 (fun v => T d 139 5 ls (v :: st) h Q) := T_getfieldR m139 c139_2 f8_64
theorem c139_5 : cod 139 5 = some (.if_icmp .ge 23, 3) := cod_of b139 dX8_isLetter_5
theorem t139_5 {d : Nat} {h : Hp} {Q : Pst} {x y : Int32} {ls : List Value} {st : List Value} : T d 139 5 ls (.int y :: .int x :: st) h Q ↔ (if y ≤ x then T d 139 28 ls st h Q else T d 139 8 ls st h Q) := T_icmp_ge c139_5 (by decide)
theorem c139_8 : cod 139 8 = some (.aload_n 0, 1) := cod_of b139 dX8_isLetter_8
theorem t139_8 {d : Nat} {h : Hp} {Q : Pst} {l1 : Value} {x : Nat} {st : List Value} : T d 139 8 [.ref x, l1] st h Q ↔ T d 139 9 [.ref x, l1] (.ref x :: st) h Q := T_aload_n c139_8 rfl
theorem c139_9 : cod 139 9 = some (.getfield 24, 3) := cod_of b139 dX8_isLetter_9
theorem t139_9 {d : Nat} {h : Hp} {Q : Pst} {a : Nat} {ls : List Value} {st : List Value} : T d 139 9 ls (.ref a :: st) h Q ↔ gF (h.2.2 a) 7 5 (fun v => T d 139 12 ls (v :: st) h Q) := T_getfieldR m139 c139_9 f8_24
theorem c139_12 : cod 139 12 = some (.iload_n 1, 1) := cod_of b139 dX8_isLetter_12
theorem t139_12 {d : Nat} {h : Hp} {Q : Pst} {l0 : Value} {x : Int32} {st : List Value} : T d 139 12 [l0, .int x] st h Q ↔ T d 139 13 [l0, .int x] (.int x :: st) h Q := T_iload_n c139_12 rfl
theorem c139_13 : cod 139 13 = some (.iaload, 1) := cod_of b139 dX8_isLetter_13
theorem t139_13 {d : Nat} {h : Hp} {Q : Pst} {a : Nat} {i : Int32} {ls : List Value} {st : List Value} : T d 139 13 ls (.int i :: .ref a :: st) h Q ↔ aL (h.2.2 a) i (fun x => T d 139 14 ls (.int x :: st) h Q) := T_iaload c139_13
theorem c139_14 : cod 139 14 = some (.bipush 97, 2) := cod_of b139 dX8_isLetter_14
theorem t139_14 {d : Nat} {h : Hp} {Q : Pst} {ls : List Value} {st : List Value} : T d 139 14 ls st h Q ↔ T d 139 16 ls (.int 97 :: st) h Q := T_bipushV c139_14 (by decide)
theorem c139_16 : cod 139 16 = some (.bipush 122, 2) := cod_of b139 dX8_isLetter_16
theorem t139_16 {d : Nat} {h : Hp} {Q : Pst} {ls : List Value} {st : List Value} : T d 139 16 ls st h Q ↔ T d 139 18 ls (.int 122 :: st) h Q := T_bipushV c139_16 (by decide)
theorem c139_18 : cod 139 18 = some (.invokestatic 49, 3) := cod_of b139 dX8_isLetter_18
theorem t139_18 {d : Nat} {h : Hp} {Q : Pst} {a0 a1 a2 : Int32} {ls : List Value} : T (d + 1) 139 18 ls [.int a2, .int a1, .int a0] h Q ↔ T d 126 0 [.int a0, .int a1, .int a2] [] h (fun x h2 => T (d + 1) 139 21 ls (rl x []) h2 Q) := T_staticR (as := [.int a0, .int a1, .int a2]) (r := []) m139 m126 c139_18 k8_49 (Or.inl rfl) rfl (by decide) rfl (by simp [wrd, Value.category]) (by simp [stk, Value.category]) rfl
theorem c139_21 : cod 139 21 = some (.ifCond .eq 7, 3) := cod_of b139 dX8_isLetter_21
theorem t139_21 {d : Nat} {h : Hp} {Q : Pst} {x : Int32} {ls : List Value} {st : List Value} : T d 139 21 ls (.int x :: st) h Q ↔ (if x = 0 then T d 139 28 ls st h Q else T d 139 24 ls st h Q) := T_if_eq c139_21 (by decide)
theorem c139_24 : cod 139 24 = some (.iconst 1, 1) := cod_of b139 dX8_isLetter_24
theorem t139_24 {d : Nat} {h : Hp} {Q : Pst} {ls : List Value} {st : List Value} : T d 139 24 ls st h Q ↔ T d 139 25 ls (.int 1 :: st) h Q := T_iconstV c139_24 (by decide)
theorem c139_25 : cod 139 25 = some (.goto 4, 3) := cod_of b139 dX8_isLetter_25
theorem t139_25 {d : Nat} {h : Hp} {Q : Pst} {ls : List Value} {st : List Value} : T d 139 25 ls st h Q ↔ T d 139 29 ls st h Q := T_goto c139_25 (by decide)
theorem c139_29 : cod 139 29 = some (.ireturn, 1) := cod_of b139 dX8_isLetter_29
theorem t139_29 {d : Nat} {h : Hp} {Q : Pst} {x : Int32} {ls : List Value} : T d 139 29 ls [.int x] h Q ↔ (narrow .boolean (.int x) = .int x ∧ Q (some (.int x)) h) := T_zretR m139 c139_29 rfl
theorem c139_28 : cod 139 28 = some (.iconst 0, 1) := cod_of b139 dX8_isLetter_28
theorem t139_28 {d : Nat} {h : Hp} {Q : Pst} {ls : List Value} {st : List Value} : T d 139 28 ls st h Q ↔ T d 139 29 ls (.int 0 :: st) h Q := T_iconstV c139_28 (by decide)
theorem b140 : (mR 140).2.2.1 = cX8_isFigure := by rw [m140]
theorem c140_0 : cod 140 0 = some (.iload_n 1, 1) := cod_of b140 dX8_isFigure_0
theorem t140_0 {d : Nat} {h : Hp} {Q : Pst} {l0 : Value} {x : Int32} {st : List Value} : T d 140 0 [l0, .int x] st h Q ↔ T d 140 1 [l0, .int x] (.int x :: st) h Q := T_iload_n c140_0 rfl
theorem c140_1 : cod 140 1 = some (.aload_n 0, 1) := cod_of b140 dX8_isFigure_1
theorem t140_1 {d : Nat} {h : Hp} {Q : Pst} {l1 : Value} {x : Nat} {st : List Value} : T d 140 1 [.ref x, l1] st h Q ↔ T d 140 2 [.ref x, l1] (.ref x :: st) h Q := T_aload_n c140_1 rfl
theorem c140_2 : cod 140 2 = some (.getfield 64, 3) := cod_of b140 dX8_isFigure_2
theorem t140_2 {d : Nat} {h : Hp} {Q : Pst} {a : Nat} {ls : List Value} {st : List Value} : T d 140 2 ls (.ref a :: st) h Q ↔ gF (h.2.2 a) 7 6 (fun v => T d 140 5 ls (v :: st) h Q) := T_getfieldR m140 c140_2 f8_64
theorem c140_5 : cod 140 5 = some (.if_icmp .ge 23, 3) := cod_of b140 dX8_isFigure_5
theorem t140_5 {d : Nat} {h : Hp} {Q : Pst} {x y : Int32} {ls : List Value} {st : List Value} : T d 140 5 ls (.int y :: .int x :: st) h Q ↔ (if y ≤ x then T d 140 28 ls st h Q else T d 140 8 ls st h Q) := T_icmp_ge c140_5 (by decide)
theorem c140_8 : cod 140 8 = some (.aload_n 0, 1) := cod_of b140 dX8_isFigure_8
theorem t140_8 {d : Nat} {h : Hp} {Q : Pst} {l1 : Value} {x : Nat} {st : List Value} : T d 140 8 [.ref x, l1] st h Q ↔ T d 140 9 [.ref x, l1] (.ref x :: st) h Q := T_aload_n c140_8 rfl
theorem c140_9 : cod 140 9 = some (.getfield 24, 3) := cod_of b140 dX8_isFigure_9
theorem t140_9 {d : Nat} {h : Hp} {Q : Pst} {a : Nat} {ls : List Value} {st : List Value} : T d 140 9 ls (.ref a :: st) h Q ↔ gF (h.2.2 a) 7 5 (fun v => T d 140 12 ls (v :: st) h Q) := T_getfieldR m140 c140_9 f8_24
theorem c140_12 : cod 140 12 = some (.iload_n 1, 1) := cod_of b140 dX8_isFigure_12
theorem t140_12 {d : Nat} {h : Hp} {Q : Pst} {l0 : Value} {x : Int32} {st : List Value} : T d 140 12 [l0, .int x] st h Q ↔ T d 140 13 [l0, .int x] (.int x :: st) h Q := T_iload_n c140_12 rfl
theorem c140_13 : cod 140 13 = some (.iaload, 1) := cod_of b140 dX8_isFigure_13
theorem t140_13 {d : Nat} {h : Hp} {Q : Pst} {a : Nat} {i : Int32} {ls : List Value} {st : List Value} : T d 140 13 ls (.int i :: .ref a :: st) h Q ↔ aL (h.2.2 a) i (fun x => T d 140 14 ls (.int x :: st) h Q) := T_iaload c140_13
theorem c140_14 : cod 140 14 = some (.bipush 48, 2) := cod_of b140 dX8_isFigure_14
theorem t140_14 {d : Nat} {h : Hp} {Q : Pst} {ls : List Value} {st : List Value} : T d 140 14 ls st h Q ↔ T d 140 16 ls (.int 48 :: st) h Q := T_bipushV c140_14 (by decide)
theorem c140_16 : cod 140 16 = some (.bipush 57, 2) := cod_of b140 dX8_isFigure_16
theorem t140_16 {d : Nat} {h : Hp} {Q : Pst} {ls : List Value} {st : List Value} : T d 140 16 ls st h Q ↔ T d 140 18 ls (.int 57 :: st) h Q := T_bipushV c140_16 (by decide)
theorem c140_18 : cod 140 18 = some (.invokestatic 49, 3) := cod_of b140 dX8_isFigure_18
theorem t140_18 {d : Nat} {h : Hp} {Q : Pst} {a0 a1 a2 : Int32} {ls : List Value} : T (d + 1) 140 18 ls [.int a2, .int a1, .int a0] h Q ↔ T d 126 0 [.int a0, .int a1, .int a2] [] h (fun x h2 => T (d + 1) 140 21 ls (rl x []) h2 Q) := T_staticR (as := [.int a0, .int a1, .int a2]) (r := []) m140 m126 c140_18 k8_49 (Or.inl rfl) rfl (by decide) rfl (by simp [wrd, Value.category]) (by simp [stk, Value.category]) rfl
theorem c140_21 : cod 140 21 = some (.ifCond .eq 7, 3) := cod_of b140 dX8_isFigure_21
theorem t140_21 {d : Nat} {h : Hp} {Q : Pst} {x : Int32} {ls : List Value} {st : List Value} : T d 140 21 ls (.int x :: st) h Q ↔ (if x = 0 then T d 140 28 ls st h Q else T d 140 24 ls st h Q) := T_if_eq c140_21 (by decide)
theorem c140_24 : cod 140 24 = some (.iconst 1, 1) := cod_of b140 dX8_isFigure_24
theorem t140_24 {d : Nat} {h : Hp} {Q : Pst} {ls : List Value} {st : List Value} : T d 140 24 ls st h Q ↔ T d 140 25 ls (.int 1 :: st) h Q := T_iconstV c140_24 (by decide)
theorem c140_25 : cod 140 25 = some (.goto 4, 3) := cod_of b140 dX8_isFigure_25
theorem t140_25 {d : Nat} {h : Hp} {Q : Pst} {ls : List Value} {st : List Value} : T d 140 25 ls st h Q ↔ T d 140 29 ls st h Q := T_goto c140_25 (by decide)
theorem c140_29 : cod 140 29 = some (.ireturn, 1) := cod_of b140 dX8_isFigure_29
theorem t140_29 {d : Nat} {h : Hp} {Q : Pst} {x : Int32} {ls : List Value} : T d 140 29 ls [.int x] h Q ↔ (narrow .boolean (.int x) = .int x ∧ Q (some (.int x)) h) := T_zretR m140 c140_29 rfl
theorem c140_28 : cod 140 28 = some (.iconst 0, 1) := cod_of b140 dX8_isFigure_28
theorem t140_28 {d : Nat} {h : Hp} {Q : Pst} {ls : List Value} {st : List Value} : T d 140 28 ls st h Q ↔ T d 140 29 ls (.int 0 :: st) h Q := T_iconstV c140_28 (by decide)
theorem b141 : (mR 141).2.2.1 = cX8_next := by rw [m141]
theorem c141_0 : cod 141 0 = some (.aload_n 0, 1) := cod_of b141 dX8_next_0
theorem t141_0 {d : Nat} {h : Hp} {Q : Pst} {x : Nat} {st : List Value} : T d 141 0 [.ref x] st h Q ↔ T d 141 1 [.ref x] (.ref x :: st) h Q := T_aload_n c141_0 rfl
theorem c141_1 : cod 141 1 = some (.aload_n 0, 1) := cod_of b141 dX8_next_1
theorem t141_1 {d : Nat} {h : Hp} {Q : Pst} {x : Nat} {st : List Value} : T d 141 1 [.ref x] st h Q ↔ T d 141 2 [.ref x] (.ref x :: st) h Q := T_aload_n c141_1 rfl
theorem c141_2 : cod 141 2 = some (.getfield 68, 3) := cod_of b141 dX8_next_2
theorem t141_2 {d : Nat} {h : Hp} {Q : Pst} {a : Nat} {ls : List Value} {st : List Value} : T d 141 2 ls (.ref a :: st) h Q ↔ gF (h.2.2 a) 7 9 (fun v => T d 141 5 ls (v :: st) h Q) := T_getfieldR m141 c141_2 f8_68
theorem c141_5 : cod 141 5 = some (.putfield 71, 3) := cod_of b141 dX8_next_5
theorem t141_5 {d : Nat} {h : Hp} {Q : Pst} {a : Nat} {x : Int32} {ls : List Value} {st : List Value} : T d 141 5 ls (.int x :: .ref a :: st) h Q ↔ pF (h.2.2 a) 7 8 (.int x) (fun cell => T d 141 8 ls st (hup h a cell) Q) := T_putfieldR m141 c141_5 f8_71 (by decide +kernel)
theorem c141_8 : cod 141 8 = some (.aload_n 0, 1) := cod_of b141 dX8_next_8
theorem t141_8 {d : Nat} {h : Hp} {Q : Pst} {x : Nat} {st : List Value} : T d 141 8 [.ref x] st h Q ↔ T d 141 9 [.ref x] (.ref x :: st) h Q := T_aload_n c141_8 rfl
theorem c141_9 : cod 141 9 = some (.getfield 71, 3) := cod_of b141 dX8_next_9
theorem t141_9 {d : Nat} {h : Hp} {Q : Pst} {a : Nat} {ls : List Value} {st : List Value} : T d 141 9 ls (.ref a :: st) h Q ↔ gF (h.2.2 a) 7 8 (fun v => T d 141 12 ls (v :: st) h Q) := T_getfieldR m141 c141_9 f8_71
theorem c141_12 : cod 141 12 = some (.aload_n 0, 1) := cod_of b141 dX8_next_12
theorem t141_12 {d : Nat} {h : Hp} {Q : Pst} {x : Nat} {st : List Value} : T d 141 12 [.ref x] st h Q ↔ T d 141 13 [.ref x] (.ref x :: st) h Q := T_aload_n c141_12 rfl
theorem c141_13 : cod 141 13 = some (.getfield 64, 3) := cod_of b141 dX8_next_13
theorem t141_13 {d : Nat} {h : Hp} {Q : Pst} {a : Nat} {ls : List Value} {st : List Value} : T d 141 13 ls (.ref a :: st) h Q ↔ gF (h.2.2 a) 7 6 (fun v => T d 141 16 ls (v :: st) h Q) := T_getfieldR m141 c141_13 f8_64
theorem c141_16 : cod 141 16 = some (.if_icmp .ge 30, 3) := cod_of b141 dX8_next_16
theorem t141_16 {d : Nat} {h : Hp} {Q : Pst} {x y : Int32} {ls : List Value} {st : List Value} : T d 141 16 ls (.int y :: .int x :: st) h Q ↔ (if y ≤ x then T d 141 46 ls st h Q else T d 141 19 ls st h Q) := T_icmp_ge c141_16 (by decide)
theorem c141_19 : cod 141 19 = some (.aload_n 0, 1) := cod_of b141 dX8_next_19
theorem t141_19 {d : Nat} {h : Hp} {Q : Pst} {x : Nat} {st : List Value} : T d 141 19 [.ref x] st h Q ↔ T d 141 20 [.ref x] (.ref x :: st) h Q := T_aload_n c141_19 rfl
theorem c141_20 : cod 141 20 = some (.getfield 24, 3) := cod_of b141 dX8_next_20
theorem t141_20 {d : Nat} {h : Hp} {Q : Pst} {a : Nat} {ls : List Value} {st : List Value} : T d 141 20 ls (.ref a :: st) h Q ↔ gF (h.2.2 a) 7 5 (fun v => T d 141 23 ls (v :: st) h Q) := T_getfieldR m141 c141_20 f8_24
theorem c141_23 : cod 141 23 = some (.aload_n 0, 1) := cod_of b141 dX8_next_23
theorem t141_23 {d : Nat} {h : Hp} {Q : Pst} {x : Nat} {st : List Value} : T d 141 23 [.ref x] st h Q ↔ T d 141 24 [.ref x] (.ref x :: st) h Q := T_aload_n c141_23 rfl
theorem c141_24 : cod 141 24 = some (.getfield 71, 3) := cod_of b141 dX8_next_24
theorem t141_24 {d : Nat} {h : Hp} {Q : Pst} {a : Nat} {ls : List Value} {st : List Value} : T d 141 24 ls (.ref a :: st) h Q ↔ gF (h.2.2 a) 7 8 (fun v => T d 141 27 ls (v :: st) h Q) := T_getfieldR m141 c141_24 f8_71
theorem c141_27 : cod 141 27 = some (.iaload, 1) := cod_of b141 dX8_next_27
theorem t141_27 {d : Nat} {h : Hp} {Q : Pst} {a : Nat} {i : Int32} {ls : List Value} {st : List Value} : T d 141 27 ls (.int i :: .ref a :: st) h Q ↔ aL (h.2.2 a) i (fun x => T d 141 28 ls (.int x :: st) h Q) := T_iaload c141_27
theorem c141_28 : cod 141 28 = some (.bipush 32, 2) := cod_of b141 dX8_next_28
theorem t141_28 {d : Nat} {h : Hp} {Q : Pst} {ls : List Value} {st : List Value} : T d 141 28 ls st h Q ↔ T d 141 30 ls (.int 32 :: st) h Q := T_bipushV c141_28 (by decide)
theorem c141_30 : cod 141 30 = some (.if_icmp .ne 16, 3) := cod_of b141 dX8_next_30
theorem t141_30 {d : Nat} {h : Hp} {Q : Pst} {x y : Int32} {ls : List Value} {st : List Value} : T d 141 30 ls (.int y :: .int x :: st) h Q ↔ (if ¬ x = y then T d 141 46 ls st h Q else T d 141 33 ls st h Q) := T_icmp_ne c141_30 (by decide)
theorem c141_33 : cod 141 33 = some (.aload_n 0, 1) := cod_of b141 dX8_next_33
theorem t141_33 {d : Nat} {h : Hp} {Q : Pst} {x : Nat} {st : List Value} : T d 141 33 [.ref x] st h Q ↔ T d 141 34 [.ref x] (.ref x :: st) h Q := T_aload_n c141_33 rfl
theorem c141_34 : cod 141 34 = some (.dup, 1) := cod_of b141 dX8_next_34
theorem t141_34 {d : Nat} {h : Hp} {Q : Pst} {x : Nat} {ls : List Value} {st : List Value} : T d 141 34 ls (.ref x :: st) h Q ↔ T d 141 35 ls (.ref x :: .ref x :: st) h Q := T_dup c141_34 rfl
theorem c141_35 : cod 141 35 = some (.getfield 71, 3) := cod_of b141 dX8_next_35
theorem t141_35 {d : Nat} {h : Hp} {Q : Pst} {a : Nat} {ls : List Value} {st : List Value} : T d 141 35 ls (.ref a :: st) h Q ↔ gF (h.2.2 a) 7 8 (fun v => T d 141 38 ls (v :: st) h Q) := T_getfieldR m141 c141_35 f8_71
theorem c141_38 : cod 141 38 = some (.iconst 1, 1) := cod_of b141 dX8_next_38
theorem t141_38 {d : Nat} {h : Hp} {Q : Pst} {ls : List Value} {st : List Value} : T d 141 38 ls st h Q ↔ T d 141 39 ls (.int 1 :: st) h Q := T_iconstV c141_38 (by decide)
theorem c141_39 : cod 141 39 = some (.iadd, 1) := cod_of b141 dX8_next_39
theorem t141_39 {d : Nat} {h : Hp} {Q : Pst} {x y : Int32} {ls : List Value} {st : List Value} : T d 141 39 ls (.int y :: .int x :: st) h Q ↔ T d 141 40 ls (.int (x + y) :: st) h Q := T_iadd c141_39
theorem c141_40 : cod 141 40 = some (.putfield 71, 3) := cod_of b141 dX8_next_40
theorem t141_40 {d : Nat} {h : Hp} {Q : Pst} {a : Nat} {x : Int32} {ls : List Value} {st : List Value} : T d 141 40 ls (.int x :: .ref a :: st) h Q ↔ pF (h.2.2 a) 7 8 (.int x) (fun cell => T d 141 43 ls st (hup h a cell) Q) := T_putfieldR m141 c141_40 f8_71 (by decide +kernel)
theorem c141_43 : cod 141 43 = some (.goto (-35), 3) := cod_of b141 dX8_next_43
theorem t141_43 {d : Nat} {h : Hp} {Q : Pst} {ls : List Value} {st : List Value} : T d 141 43 ls st h Q ↔ T d 141 8 ls st h Q := T_goto c141_43 (by decide)
theorem c141_46 : cod 141 46 = some (.aload_n 0, 1) := cod_of b141 dX8_next_46
theorem t141_46 {d : Nat} {h : Hp} {Q : Pst} {x : Nat} {st : List Value} : T d 141 46 [.ref x] st h Q ↔ T d 141 47 [.ref x] (.ref x :: st) h Q := T_aload_n c141_46 rfl
theorem c141_47 : cod 141 47 = some (.aload_n 0, 1) := cod_of b141 dX8_next_47
theorem t141_47 {d : Nat} {h : Hp} {Q : Pst} {x : Nat} {st : List Value} : T d 141 47 [.ref x] st h Q ↔ T d 141 48 [.ref x] (.ref x :: st) h Q := T_aload_n c141_47 rfl
theorem c141_48 : cod 141 48 = some (.getfield 71, 3) := cod_of b141 dX8_next_48
theorem t141_48 {d : Nat} {h : Hp} {Q : Pst} {a : Nat} {ls : List Value} {st : List Value} : T d 141 48 ls (.ref a :: st) h Q ↔ gF (h.2.2 a) 7 8 (fun v => T d 141 51 ls (v :: st) h Q) := T_getfieldR m141 c141_48 f8_71
theorem c141_51 : cod 141 51 = some (.aload_n 0, 1) := cod_of b141 dX8_next_51
theorem t141_51 {d : Nat} {h : Hp} {Q : Pst} {x : Nat} {st : List Value} : T d 141 51 [.ref x] st h Q ↔ T d 141 52 [.ref x] (.ref x :: st) h Q := T_aload_n c141_51 rfl
theorem c141_52 : cod 141 52 = some (.getfield 64, 3) := cod_of b141 dX8_next_52
theorem t141_52 {d : Nat} {h : Hp} {Q : Pst} {a : Nat} {ls : List Value} {st : List Value} : T d 141 52 ls (.ref a :: st) h Q ↔ gF (h.2.2 a) 7 6 (fun v => T d 141 55 ls (v :: st) h Q) := T_getfieldR m141 c141_52 f8_64
theorem c141_55 : cod 141 55 = some (.if_icmp .ge 12, 3) := cod_of b141 dX8_next_55
theorem t141_55 {d : Nat} {h : Hp} {Q : Pst} {x y : Int32} {ls : List Value} {st : List Value} : T d 141 55 ls (.int y :: .int x :: st) h Q ↔ (if y ≤ x then T d 141 67 ls st h Q else T d 141 58 ls st h Q) := T_icmp_ge c141_55 (by decide)
theorem c141_58 : cod 141 58 = some (.aload_n 0, 1) := cod_of b141 dX8_next_58
theorem t141_58 {d : Nat} {h : Hp} {Q : Pst} {x : Nat} {st : List Value} : T d 141 58 [.ref x] st h Q ↔ T d 141 59 [.ref x] (.ref x :: st) h Q := T_aload_n c141_58 rfl
theorem c141_59 : cod 141 59 = some (.getfield 71, 3) := cod_of b141 dX8_next_59
theorem t141_59 {d : Nat} {h : Hp} {Q : Pst} {a : Nat} {ls : List Value} {st : List Value} : T d 141 59 ls (.ref a :: st) h Q ↔ gF (h.2.2 a) 7 8 (fun v => T d 141 62 ls (v :: st) h Q) := T_getfieldR m141 c141_59 f8_71
theorem c141_62 : cod 141 62 = some (.iconst 1, 1) := cod_of b141 dX8_next_62
theorem t141_62 {d : Nat} {h : Hp} {Q : Pst} {ls : List Value} {st : List Value} : T d 141 62 ls st h Q ↔ T d 141 63 ls (.int 1 :: st) h Q := T_iconstV c141_62 (by decide)
theorem c141_63 : cod 141 63 = some (.iadd, 1) := cod_of b141 dX8_next_63
theorem t141_63 {d : Nat} {h : Hp} {Q : Pst} {x y : Int32} {ls : List Value} {st : List Value} : T d 141 63 ls (.int y :: .int x :: st) h Q ↔ T d 141 64 ls (.int (x + y) :: st) h Q := T_iadd c141_63
theorem c141_64 : cod 141 64 = some (.goto 7, 3) := cod_of b141 dX8_next_64
theorem t141_64 {d : Nat} {h : Hp} {Q : Pst} {ls : List Value} {st : List Value} : T d 141 64 ls st h Q ↔ T d 141 71 ls st h Q := T_goto c141_64 (by decide)
theorem c141_71 : cod 141 71 = some (.putfield 68, 3) := cod_of b141 dX8_next_71
theorem t141_71 {d : Nat} {h : Hp} {Q : Pst} {a : Nat} {x : Int32} {ls : List Value} {st : List Value} : T d 141 71 ls (.int x :: .ref a :: st) h Q ↔ pF (h.2.2 a) 7 9 (.int x) (fun cell => T d 141 74 ls st (hup h a cell) Q) := T_putfieldR m141 c141_71 f8_68 (by decide +kernel)
theorem c141_74 : cod 141 74 = some (.aload_n 0, 1) := cod_of b141 dX8_next_74
theorem t141_74 {d : Nat} {h : Hp} {Q : Pst} {x : Nat} {st : List Value} : T d 141 74 [.ref x] st h Q ↔ T d 141 75 [.ref x] (.ref x :: st) h Q := T_aload_n c141_74 rfl
theorem c141_75 : cod 141 75 = some (.aload_n 0, 1) := cod_of b141 dX8_next_75
theorem t141_75 {d : Nat} {h : Hp} {Q : Pst} {x : Nat} {st : List Value} : T d 141 75 [.ref x] st h Q ↔ T d 141 76 [.ref x] (.ref x :: st) h Q := T_aload_n c141_75 rfl
theorem c141_76 : cod 141 76 = some (.getfield 71, 3) := cod_of b141 dX8_next_76
theorem t141_76 {d : Nat} {h : Hp} {Q : Pst} {a : Nat} {ls : List Value} {st : List Value} : T d 141 76 ls (.ref a :: st) h Q ↔ gF (h.2.2 a) 7 8 (fun v => T d 141 79 ls (v :: st) h Q) := T_getfieldR m141 c141_76 f8_71
theorem c141_79 : cod 141 79 = some (.invokevirtual 74, 3) := cod_of b141 dX8_next_79
theorem t141_79 {d : Nat} {h : Hp} {Q : Pst} {a0 : Int32} {a : Nat} {ls : List Value} (ho : isO (h.2.2 a) 7) : T (d + 1) 141 79 ls [.int a0, .ref a] h Q ↔ T d 139 0 [.ref a, .int a0] [] h (fun x h2 => T (d + 1) 141 82 ls (rl x []) h2 Q) := T_virtualR (as := [.int a0]) (r := []) m141 m139 c141_79 k8_74  rfl (by decide) rfl (by simp [wrd, Value.category]) (by simp [stk, Value.category]) rfl (by decide +kernel) ho
theorem c141_82 : cod 141 82 = some (.ifCond .eq 27, 3) := cod_of b141 dX8_next_82
theorem t141_82 {d : Nat} {h : Hp} {Q : Pst} {x : Int32} {ls : List Value} {st : List Value} : T d 141 82 ls (.int x :: st) h Q ↔ (if x = 0 then T d 141 109 ls st h Q else T d 141 85 ls st h Q) := T_if_eq c141_82 (by decide)
theorem c141_85 : cod 141 85 = some (.aload_n 0, 1) := cod_of b141 dX8_next_85
theorem t141_85 {d : Nat} {h : Hp} {Q : Pst} {x : Nat} {st : List Value} : T d 141 85 [.ref x] st h Q ↔ T d 141 86 [.ref x] (.ref x :: st) h Q := T_aload_n c141_85 rfl
theorem c141_86 : cod 141 86 = some (.aload_n 0, 1) := cod_of b141 dX8_next_86
theorem t141_86 {d : Nat} {h : Hp} {Q : Pst} {x : Nat} {st : List Value} : T d 141 86 [.ref x] st h Q ↔ T d 141 87 [.ref x] (.ref x :: st) h Q := T_aload_n c141_86 rfl
theorem c141_87 : cod 141 87 = some (.getfield 68, 3) := cod_of b141 dX8_next_87
theorem t141_87 {d : Nat} {h : Hp} {Q : Pst} {a : Nat} {ls : List Value} {st : List Value} : T d 141 87 ls (.ref a :: st) h Q ↔ gF (h.2.2 a) 7 9 (fun v => T d 141 90 ls (v :: st) h Q) := T_getfieldR m141 c141_87 f8_68
theorem c141_90 : cod 141 90 = some (.invokevirtual 74, 3) := cod_of b141 dX8_next_90
theorem t141_90 {d : Nat} {h : Hp} {Q : Pst} {a0 : Int32} {a : Nat} {ls : List Value} (ho : isO (h.2.2 a) 7) : T (d + 1) 141 90 ls [.int a0, .ref a] h Q ↔ T d 139 0 [.ref a, .int a0] [] h (fun x h2 => T (d + 1) 141 93 ls (rl x []) h2 Q) := T_virtualR (as := [.int a0]) (r := []) m141 m139 c141_90 k8_74  rfl (by decide) rfl (by simp [wrd, Value.category]) (by simp [stk, Value.category]) rfl (by decide +kernel) ho
theorem c141_93 : cod 141 93 = some (.ifCond .eq 16, 3) := cod_of b141 dX8_next_93
theorem t141_93 {d : Nat} {h : Hp} {Q : Pst} {x : Int32} {ls : List Value} {st : List Value} : T d 141 93 ls (.int x :: st) h Q ↔ (if x = 0 then T d 141 109 ls st h Q else T d 141 96 ls st h Q) := T_if_eq c141_93 (by decide)
theorem c141_96 : cod 141 96 = some (.aload_n 0, 1) := cod_of b141 dX8_next_96
theorem t141_96 {d : Nat} {h : Hp} {Q : Pst} {x : Nat} {st : List Value} : T d 141 96 [.ref x] st h Q ↔ T d 141 97 [.ref x] (.ref x :: st) h Q := T_aload_n c141_96 rfl
theorem c141_97 : cod 141 97 = some (.dup, 1) := cod_of b141 dX8_next_97
theorem t141_97 {d : Nat} {h : Hp} {Q : Pst} {x : Nat} {ls : List Value} {st : List Value} : T d 141 97 ls (.ref x :: st) h Q ↔ T d 141 98 ls (.ref x :: .ref x :: st) h Q := T_dup c141_97 rfl
theorem c141_98 : cod 141 98 = some (.getfield 68, 3) := cod_of b141 dX8_next_98
theorem t141_98 {d : Nat} {h : Hp} {Q : Pst} {a : Nat} {ls : List Value} {st : List Value} : T d 141 98 ls (.ref a :: st) h Q ↔ gF (h.2.2 a) 7 9 (fun v => T d 141 101 ls (v :: st) h Q) := T_getfieldR m141 c141_98 f8_68
theorem c141_101 : cod 141 101 = some (.iconst 1, 1) := cod_of b141 dX8_next_101
theorem t141_101 {d : Nat} {h : Hp} {Q : Pst} {ls : List Value} {st : List Value} : T d 141 101 ls st h Q ↔ T d 141 102 ls (.int 1 :: st) h Q := T_iconstV c141_101 (by decide)
theorem c141_102 : cod 141 102 = some (.iadd, 1) := cod_of b141 dX8_next_102
theorem t141_102 {d : Nat} {h : Hp} {Q : Pst} {x y : Int32} {ls : List Value} {st : List Value} : T d 141 102 ls (.int y :: .int x :: st) h Q ↔ T d 141 103 ls (.int (x + y) :: st) h Q := T_iadd c141_102
theorem c141_103 : cod 141 103 = some (.putfield 68, 3) := cod_of b141 dX8_next_103
theorem t141_103 {d : Nat} {h : Hp} {Q : Pst} {a : Nat} {x : Int32} {ls : List Value} {st : List Value} : T d 141 103 ls (.int x :: .ref a :: st) h Q ↔ pF (h.2.2 a) 7 9 (.int x) (fun cell => T d 141 106 ls st (hup h a cell) Q) := T_putfieldR m141 c141_103 f8_68 (by decide +kernel)
theorem c141_106 : cod 141 106 = some (.goto (-32), 3) := cod_of b141 dX8_next_106
theorem t141_106 {d : Nat} {h : Hp} {Q : Pst} {ls : List Value} {st : List Value} : T d 141 106 ls st h Q ↔ T d 141 74 ls st h Q := T_goto c141_106 (by decide)
theorem c141_109 : cod 141 109 = some (.aload_n 0, 1) := cod_of b141 dX8_next_109
theorem t141_109 {d : Nat} {h : Hp} {Q : Pst} {x : Nat} {st : List Value} : T d 141 109 [.ref x] st h Q ↔ T d 141 110 [.ref x] (.ref x :: st) h Q := T_aload_n c141_109 rfl
theorem c141_110 : cod 141 110 = some (.aload_n 0, 1) := cod_of b141 dX8_next_110
theorem t141_110 {d : Nat} {h : Hp} {Q : Pst} {x : Nat} {st : List Value} : T d 141 110 [.ref x] st h Q ↔ T d 141 111 [.ref x] (.ref x :: st) h Q := T_aload_n c141_110 rfl
theorem c141_111 : cod 141 111 = some (.getfield 71, 3) := cod_of b141 dX8_next_111
theorem t141_111 {d : Nat} {h : Hp} {Q : Pst} {a : Nat} {ls : List Value} {st : List Value} : T d 141 111 ls (.ref a :: st) h Q ↔ gF (h.2.2 a) 7 8 (fun v => T d 141 114 ls (v :: st) h Q) := T_getfieldR m141 c141_111 f8_71
theorem c141_114 : cod 141 114 = some (.invokevirtual 78, 3) := cod_of b141 dX8_next_114
theorem t141_114 {d : Nat} {h : Hp} {Q : Pst} {a0 : Int32} {a : Nat} {ls : List Value} (ho : isO (h.2.2 a) 7) : T (d + 1) 141 114 ls [.int a0, .ref a] h Q ↔ T d 140 0 [.ref a, .int a0] [] h (fun x h2 => T (d + 1) 141 117 ls (rl x []) h2 Q) := T_virtualR (as := [.int a0]) (r := []) m141 m140 c141_114 k8_78  rfl (by decide) rfl (by simp [wrd, Value.category]) (by simp [stk, Value.category]) rfl (by decide +kernel) ho
theorem c141_117 : cod 141 117 = some (.ifCond .eq 27, 3) := cod_of b141 dX8_next_117
theorem t141_117 {d : Nat} {h : Hp} {Q : Pst} {x : Int32} {ls : List Value} {st : List Value} : T d 141 117 ls (.int x :: st) h Q ↔ (if x = 0 then T d 141 144 ls st h Q else T d 141 120 ls st h Q) := T_if_eq c141_117 (by decide)
theorem c141_120 : cod 141 120 = some (.aload_n 0, 1) := cod_of b141 dX8_next_120
theorem t141_120 {d : Nat} {h : Hp} {Q : Pst} {x : Nat} {st : List Value} : T d 141 120 [.ref x] st h Q ↔ T d 141 121 [.ref x] (.ref x :: st) h Q := T_aload_n c141_120 rfl
theorem c141_121 : cod 141 121 = some (.aload_n 0, 1) := cod_of b141 dX8_next_121
theorem t141_121 {d : Nat} {h : Hp} {Q : Pst} {x : Nat} {st : List Value} : T d 141 121 [.ref x] st h Q ↔ T d 141 122 [.ref x] (.ref x :: st) h Q := T_aload_n c141_121 rfl
theorem c141_122 : cod 141 122 = some (.getfield 68, 3) := cod_of b141 dX8_next_122
theorem t141_122 {d : Nat} {h : Hp} {Q : Pst} {a : Nat} {ls : List Value} {st : List Value} : T d 141 122 ls (.ref a :: st) h Q ↔ gF (h.2.2 a) 7 9 (fun v => T d 141 125 ls (v :: st) h Q) := T_getfieldR m141 c141_122 f8_68
theorem c141_125 : cod 141 125 = some (.invokevirtual 78, 3) := cod_of b141 dX8_next_125
theorem t141_125 {d : Nat} {h : Hp} {Q : Pst} {a0 : Int32} {a : Nat} {ls : List Value} (ho : isO (h.2.2 a) 7) : T (d + 1) 141 125 ls [.int a0, .ref a] h Q ↔ T d 140 0 [.ref a, .int a0] [] h (fun x h2 => T (d + 1) 141 128 ls (rl x []) h2 Q) := T_virtualR (as := [.int a0]) (r := []) m141 m140 c141_125 k8_78  rfl (by decide) rfl (by simp [wrd, Value.category]) (by simp [stk, Value.category]) rfl (by decide +kernel) ho
theorem c141_128 : cod 141 128 = some (.ifCond .eq 16, 3) := cod_of b141 dX8_next_128
theorem t141_128 {d : Nat} {h : Hp} {Q : Pst} {x : Int32} {ls : List Value} {st : List Value} : T d 141 128 ls (.int x :: st) h Q ↔ (if x = 0 then T d 141 144 ls st h Q else T d 141 131 ls st h Q) := T_if_eq c141_128 (by decide)
theorem c141_131 : cod 141 131 = some (.aload_n 0, 1) := cod_of b141 dX8_next_131
theorem t141_131 {d : Nat} {h : Hp} {Q : Pst} {x : Nat} {st : List Value} : T d 141 131 [.ref x] st h Q ↔ T d 141 132 [.ref x] (.ref x :: st) h Q := T_aload_n c141_131 rfl
theorem c141_132 : cod 141 132 = some (.dup, 1) := cod_of b141 dX8_next_132
theorem t141_132 {d : Nat} {h : Hp} {Q : Pst} {x : Nat} {ls : List Value} {st : List Value} : T d 141 132 ls (.ref x :: st) h Q ↔ T d 141 133 ls (.ref x :: .ref x :: st) h Q := T_dup c141_132 rfl
theorem c141_133 : cod 141 133 = some (.getfield 68, 3) := cod_of b141 dX8_next_133
theorem t141_133 {d : Nat} {h : Hp} {Q : Pst} {a : Nat} {ls : List Value} {st : List Value} : T d 141 133 ls (.ref a :: st) h Q ↔ gF (h.2.2 a) 7 9 (fun v => T d 141 136 ls (v :: st) h Q) := T_getfieldR m141 c141_133 f8_68
theorem c141_136 : cod 141 136 = some (.iconst 1, 1) := cod_of b141 dX8_next_136
theorem t141_136 {d : Nat} {h : Hp} {Q : Pst} {ls : List Value} {st : List Value} : T d 141 136 ls st h Q ↔ T d 141 137 ls (.int 1 :: st) h Q := T_iconstV c141_136 (by decide)
theorem c141_137 : cod 141 137 = some (.iadd, 1) := cod_of b141 dX8_next_137
theorem t141_137 {d : Nat} {h : Hp} {Q : Pst} {x y : Int32} {ls : List Value} {st : List Value} : T d 141 137 ls (.int y :: .int x :: st) h Q ↔ T d 141 138 ls (.int (x + y) :: st) h Q := T_iadd c141_137
theorem c141_138 : cod 141 138 = some (.putfield 68, 3) := cod_of b141 dX8_next_138
theorem t141_138 {d : Nat} {h : Hp} {Q : Pst} {a : Nat} {x : Int32} {ls : List Value} {st : List Value} : T d 141 138 ls (.int x :: .ref a :: st) h Q ↔ pF (h.2.2 a) 7 9 (.int x) (fun cell => T d 141 141 ls st (hup h a cell) Q) := T_putfieldR m141 c141_138 f8_68 (by decide +kernel)
theorem c141_141 : cod 141 141 = some (.goto (-32), 3) := cod_of b141 dX8_next_141
theorem t141_141 {d : Nat} {h : Hp} {Q : Pst} {ls : List Value} {st : List Value} : T d 141 141 ls st h Q ↔ T d 141 109 ls st h Q := T_goto c141_141 (by decide)
theorem c141_144 : cod 141 144 = some (.return_, 1) := cod_of b141 dX8_next_144
theorem t141_144 {d : Nat} {h : Hp} {Q : Pst} {ls : List Value} : T d 141 144 ls [] h Q ↔ Q none h := T_retR m141 c141_144 rfl
theorem c141_67 : cod 141 67 = some (.aload_n 0, 1) := cod_of b141 dX8_next_67
theorem t141_67 {d : Nat} {h : Hp} {Q : Pst} {x : Nat} {st : List Value} : T d 141 67 [.ref x] st h Q ↔ T d 141 68 [.ref x] (.ref x :: st) h Q := T_aload_n c141_67 rfl
theorem c141_68 : cod 141 68 = some (.getfield 71, 3) := cod_of b141 dX8_next_68
theorem t141_68 {d : Nat} {h : Hp} {Q : Pst} {a : Nat} {ls : List Value} {st : List Value} : T d 141 68 ls (.ref a :: st) h Q ↔ gF (h.2.2 a) 7 8 (fun v => T d 141 71 ls (v :: st) h Q) := T_getfieldR m141 c141_68 f8_71
theorem b142 : (mR 142).2.2.1 = cX8_isWord := by rw [m142]
theorem c142_0 : cod 142 0 = some (.aload_n 0, 1) := cod_of b142 dX8_isWord_0
theorem t142_0 {d : Nat} {h : Hp} {Q : Pst} {l1 l2 l3 l4 : Value} {x : Nat} {st : List Value} : T d 142 0 [.ref x, l1, l2, l3, l4] st h Q ↔ T d 142 1 [.ref x, l1, l2, l3, l4] (.ref x :: st) h Q := T_aload_n c142_0 rfl
theorem c142_1 : cod 142 1 = some (.getfield 68, 3) := cod_of b142 dX8_isWord_1
theorem t142_1 {d : Nat} {h : Hp} {Q : Pst} {a : Nat} {ls : List Value} {st : List Value} : T d 142 1 ls (.ref a :: st) h Q ↔ gF (h.2.2 a) 7 9 (fun v => T d 142 4 ls (v :: st) h Q) := T_getfieldR m142 c142_1 f8_68
theorem c142_4 : cod 142 4 = some (.aload_n 0, 1) := cod_of b142 dX8_isWord_4
theorem t142_4 {d : Nat} {h : Hp} {Q : Pst} {l1 l2 l3 l4 : Value} {x : Nat} {st : List Value} : T d 142 4 [.ref x, l1, l2, l3, l4] st h Q ↔ T d 142 5 [.ref x, l1, l2, l3, l4] (.ref x :: st) h Q := T_aload_n c142_4 rfl
theorem c142_5 : cod 142 5 = some (.getfield 71, 3) := cod_of b142 dX8_isWord_5
theorem t142_5 {d : Nat} {h : Hp} {Q : Pst} {a : Nat} {ls : List Value} {st : List Value} : T d 142 5 ls (.ref a :: st) h Q ↔ gF (h.2.2 a) 7 8 (fun v => T d 142 8 ls (v :: st) h Q) := T_getfieldR m142 c142_5 f8_71
theorem c142_8 : cod 142 8 = some (.isub, 1) := cod_of b142 dX8_isWord_8
theorem t142_8 {d : Nat} {h : Hp} {Q : Pst} {x y : Int32} {ls : List Value} {st : List Value} : T d 142 8 ls (.int y :: .int x :: st) h Q ↔ T d 142 9 ls (.int (x - y) :: st) h Q := T_isub c142_8
theorem c142_9 : cod 142 9 = some (.bipush 8, 2) := cod_of b142 dX8_isWord_9
theorem t142_9 {d : Nat} {h : Hp} {Q : Pst} {ls : List Value} {st : List Value} : T d 142 9 ls st h Q ↔ T d 142 11 ls (.int 8 :: st) h Q := T_bipushV c142_9 (by decide)
theorem c142_11 : cod 142 11 = some (.if_icmp .gt 7, 3) := cod_of b142 dX8_isWord_11
theorem t142_11 {d : Nat} {h : Hp} {Q : Pst} {x y : Int32} {ls : List Value} {st : List Value} : T d 142 11 ls (.int y :: .int x :: st) h Q ↔ (if y < x then T d 142 18 ls st h Q else T d 142 14 ls st h Q) := T_icmp_gt c142_11 (by decide)
theorem c142_14 : cod 142 14 = some (.iconst 1, 1) := cod_of b142 dX8_isWord_14
theorem t142_14 {d : Nat} {h : Hp} {Q : Pst} {ls : List Value} {st : List Value} : T d 142 14 ls st h Q ↔ T d 142 15 ls (.int 1 :: st) h Q := T_iconstV c142_14 (by decide)
theorem c142_15 : cod 142 15 = some (.goto 4, 3) := cod_of b142 dX8_isWord_15
theorem t142_15 {d : Nat} {h : Hp} {Q : Pst} {ls : List Value} {st : List Value} : T d 142 15 ls st h Q ↔ T d 142 19 ls st h Q := T_goto c142_15 (by decide)
theorem c142_19 : cod 142 19 = some (.istore_n 2, 1) := cod_of b142 dX8_isWord_19
theorem t142_19 {d : Nat} {h : Hp} {Q : Pst} {l0 l1 l2 l3 l4 : Value} {x : Int32} {st : List Value} : T d 142 19 [l0, l1, l2, l3, l4] (.int x :: st) h Q ↔ T d 142 20 [l0, kil l1, .int x, l3, l4] st h Q := T_istore_n c142_19 (Nat.le_of_ble_eq_true rfl)
theorem c142_20 : cod 142 20 = some (.iconst 0, 1) := cod_of b142 dX8_isWord_20
theorem t142_20 {d : Nat} {h : Hp} {Q : Pst} {ls : List Value} {st : List Value} : T d 142 20 ls st h Q ↔ T d 142 21 ls (.int 0 :: st) h Q := T_iconstV c142_20 (by decide)
theorem c142_21 : cod 142 21 = some (.istore_n 3, 1) := cod_of b142 dX8_isWord_21
theorem t142_21 {d : Nat} {h : Hp} {Q : Pst} {l0 l1 l2 l3 l4 : Value} {x : Int32} {st : List Value} : T d 142 21 [l0, l1, l2, l3, l4] (.int x :: st) h Q ↔ T d 142 22 [l0, l1, kil l2, .int x, l4] st h Q := T_istore_n c142_21 (Nat.le_of_ble_eq_true rfl)
theorem c142_22 : cod 142 22 = some (.iload_n 3, 1) := cod_of b142 dX8_isWord_22
theorem t142_22 {d : Nat} {h : Hp} {Q : Pst} {l0 l1 l2 l4 : Value} {x : Int32} {st : List Value} : T d 142 22 [l0, l1, l2, .int x, l4] st h Q ↔ T d 142 23 [l0, l1, l2, .int x, l4] (.int x :: st) h Q := T_iload_n c142_22 rfl
theorem c142_23 : cod 142 23 = some (.bipush 8, 2) := cod_of b142 dX8_isWord_23
theorem t142_23 {d : Nat} {h : Hp} {Q : Pst} {ls : List Value} {st : List Value} : T d 142 23 ls st h Q ↔ T d 142 25 ls (.int 8 :: st) h Q := T_bipushV c142_23 (by decide)
theorem c142_25 : cod 142 25 = some (.if_icmp .ge 65, 3) := cod_of b142 dX8_isWord_25
theorem t142_25 {d : Nat} {h : Hp} {Q : Pst} {x y : Int32} {ls : List Value} {st : List Value} : T d 142 25 ls (.int y :: .int x :: st) h Q ↔ (if y ≤ x then T d 142 90 ls st h Q else T d 142 28 ls st h Q) := T_icmp_ge c142_25 (by decide)
theorem c142_28 : cod 142 28 = some (.iload_n 2, 1) := cod_of b142 dX8_isWord_28
theorem t142_28 {d : Nat} {h : Hp} {Q : Pst} {l0 l1 l3 l4 : Value} {x : Int32} {st : List Value} : T d 142 28 [l0, l1, .int x, l3, l4] st h Q ↔ T d 142 29 [l0, l1, .int x, l3, l4] (.int x :: st) h Q := T_iload_n c142_28 rfl
theorem c142_29 : cod 142 29 = some (.ifCond .eq 61, 3) := cod_of b142 dX8_isWord_29
theorem t142_29 {d : Nat} {h : Hp} {Q : Pst} {x : Int32} {ls : List Value} {st : List Value} : T d 142 29 ls (.int x :: st) h Q ↔ (if x = 0 then T d 142 90 ls st h Q else T d 142 32 ls st h Q) := T_if_eq c142_29 (by decide)
theorem c142_32 : cod 142 32 = some (.aload_n 0, 1) := cod_of b142 dX8_isWord_32
theorem t142_32 {d : Nat} {h : Hp} {Q : Pst} {l1 l2 l3 l4 : Value} {x : Nat} {st : List Value} : T d 142 32 [.ref x, l1, l2, l3, l4] st h Q ↔ T d 142 33 [.ref x, l1, l2, l3, l4] (.ref x :: st) h Q := T_aload_n c142_32 rfl
theorem c142_33 : cod 142 33 = some (.getfield 71, 3) := cod_of b142 dX8_isWord_33
theorem t142_33 {d : Nat} {h : Hp} {Q : Pst} {a : Nat} {ls : List Value} {st : List Value} : T d 142 33 ls (.ref a :: st) h Q ↔ gF (h.2.2 a) 7 8 (fun v => T d 142 36 ls (v :: st) h Q) := T_getfieldR m142 c142_33 f8_71
theorem c142_36 : cod 142 36 = some (.iload_n 3, 1) := cod_of b142 dX8_isWord_36
theorem t142_36 {d : Nat} {h : Hp} {Q : Pst} {l0 l1 l2 l4 : Value} {x : Int32} {st : List Value} : T d 142 36 [l0, l1, l2, .int x, l4] st h Q ↔ T d 142 37 [l0, l1, l2, .int x, l4] (.int x :: st) h Q := T_iload_n c142_36 rfl
theorem c142_37 : cod 142 37 = some (.iadd, 1) := cod_of b142 dX8_isWord_37
theorem t142_37 {d : Nat} {h : Hp} {Q : Pst} {x y : Int32} {ls : List Value} {st : List Value} : T d 142 37 ls (.int y :: .int x :: st) h Q ↔ T d 142 38 ls (.int (x + y) :: st) h Q := T_iadd c142_37
theorem c142_38 : cod 142 38 = some (.aload_n 0, 1) := cod_of b142 dX8_isWord_38
theorem t142_38 {d : Nat} {h : Hp} {Q : Pst} {l1 l2 l3 l4 : Value} {x : Nat} {st : List Value} : T d 142 38 [.ref x, l1, l2, l3, l4] st h Q ↔ T d 142 39 [.ref x, l1, l2, l3, l4] (.ref x :: st) h Q := T_aload_n c142_38 rfl
theorem c142_39 : cod 142 39 = some (.getfield 68, 3) := cod_of b142 dX8_isWord_39
theorem t142_39 {d : Nat} {h : Hp} {Q : Pst} {a : Nat} {ls : List Value} {st : List Value} : T d 142 39 ls (.ref a :: st) h Q ↔ gF (h.2.2 a) 7 9 (fun v => T d 142 42 ls (v :: st) h Q) := T_getfieldR m142 c142_39 f8_68
theorem c142_42 : cod 142 42 = some (.if_icmp .ge 17, 3) := cod_of b142 dX8_isWord_42
theorem t142_42 {d : Nat} {h : Hp} {Q : Pst} {x y : Int32} {ls : List Value} {st : List Value} : T d 142 42 ls (.int y :: .int x :: st) h Q ↔ (if y ≤ x then T d 142 59 ls st h Q else T d 142 45 ls st h Q) := T_icmp_ge c142_42 (by decide)
theorem c142_45 : cod 142 45 = some (.aload_n 0, 1) := cod_of b142 dX8_isWord_45
theorem t142_45 {d : Nat} {h : Hp} {Q : Pst} {l1 l2 l3 l4 : Value} {x : Nat} {st : List Value} : T d 142 45 [.ref x, l1, l2, l3, l4] st h Q ↔ T d 142 46 [.ref x, l1, l2, l3, l4] (.ref x :: st) h Q := T_aload_n c142_45 rfl
theorem c142_46 : cod 142 46 = some (.getfield 24, 3) := cod_of b142 dX8_isWord_46
theorem t142_46 {d : Nat} {h : Hp} {Q : Pst} {a : Nat} {ls : List Value} {st : List Value} : T d 142 46 ls (.ref a :: st) h Q ↔ gF (h.2.2 a) 7 5 (fun v => T d 142 49 ls (v :: st) h Q) := T_getfieldR m142 c142_46 f8_24
theorem c142_49 : cod 142 49 = some (.aload_n 0, 1) := cod_of b142 dX8_isWord_49
theorem t142_49 {d : Nat} {h : Hp} {Q : Pst} {l1 l2 l3 l4 : Value} {x : Nat} {st : List Value} : T d 142 49 [.ref x, l1, l2, l3, l4] st h Q ↔ T d 142 50 [.ref x, l1, l2, l3, l4] (.ref x :: st) h Q := T_aload_n c142_49 rfl
theorem c142_50 : cod 142 50 = some (.getfield 71, 3) := cod_of b142 dX8_isWord_50
theorem t142_50 {d : Nat} {h : Hp} {Q : Pst} {a : Nat} {ls : List Value} {st : List Value} : T d 142 50 ls (.ref a :: st) h Q ↔ gF (h.2.2 a) 7 8 (fun v => T d 142 53 ls (v :: st) h Q) := T_getfieldR m142 c142_50 f8_71
theorem c142_53 : cod 142 53 = some (.iload_n 3, 1) := cod_of b142 dX8_isWord_53
theorem t142_53 {d : Nat} {h : Hp} {Q : Pst} {l0 l1 l2 l4 : Value} {x : Int32} {st : List Value} : T d 142 53 [l0, l1, l2, .int x, l4] st h Q ↔ T d 142 54 [l0, l1, l2, .int x, l4] (.int x :: st) h Q := T_iload_n c142_53 rfl
theorem c142_54 : cod 142 54 = some (.iadd, 1) := cod_of b142 dX8_isWord_54
theorem t142_54 {d : Nat} {h : Hp} {Q : Pst} {x y : Int32} {ls : List Value} {st : List Value} : T d 142 54 ls (.int y :: .int x :: st) h Q ↔ T d 142 55 ls (.int (x + y) :: st) h Q := T_iadd c142_54
theorem c142_55 : cod 142 55 = some (.iaload, 1) := cod_of b142 dX8_isWord_55
theorem t142_55 {d : Nat} {h : Hp} {Q : Pst} {a : Nat} {i : Int32} {ls : List Value} {st : List Value} : T d 142 55 ls (.int i :: .ref a :: st) h Q ↔ aL (h.2.2 a) i (fun x => T d 142 56 ls (.int x :: st) h Q) := T_iaload c142_55
theorem c142_56 : cod 142 56 = some (.goto 4, 3) := cod_of b142 dX8_isWord_56
theorem t142_56 {d : Nat} {h : Hp} {Q : Pst} {ls : List Value} {st : List Value} : T d 142 56 ls st h Q ↔ T d 142 60 ls st h Q := T_goto c142_56 (by decide)
theorem c142_60 : cod 142 60 = some (.istore 4, 2) := cod_of b142 dX8_isWord_60
theorem t142_60 {d : Nat} {h : Hp} {Q : Pst} {l0 l1 l2 l3 l4 : Value} {x : Int32} {st : List Value} : T d 142 60 [l0, l1, l2, l3, l4] (.int x :: st) h Q ↔ T d 142 62 [l0, l1, l2, kil l3, .int x] st h Q := T_istore c142_60 (Nat.le_of_ble_eq_true rfl)
theorem c142_62 : cod 142 62 = some (.iload 4, 2) := cod_of b142 dX8_isWord_62
theorem t142_62 {d : Nat} {h : Hp} {Q : Pst} {l0 l1 l2 l3 : Value} {x : Int32} {st : List Value} : T d 142 62 [l0, l1, l2, l3, .int x] st h Q ↔ T d 142 64 [l0, l1, l2, l3, .int x] (.int x :: st) h Q := T_iload c142_62 rfl
theorem c142_64 : cod 142 64 = some (.aload_n 0, 1) := cod_of b142 dX8_isWord_64
theorem t142_64 {d : Nat} {h : Hp} {Q : Pst} {l1 l2 l3 l4 : Value} {x : Nat} {st : List Value} : T d 142 64 [.ref x, l1, l2, l3, l4] st h Q ↔ T d 142 65 [.ref x, l1, l2, l3, l4] (.ref x :: st) h Q := T_aload_n c142_64 rfl
theorem c142_65 : cod 142 65 = some (.getfield 27, 3) := cod_of b142 dX8_isWord_65
theorem t142_65 {d : Nat} {h : Hp} {Q : Pst} {a : Nat} {ls : List Value} {st : List Value} : T d 142 65 ls (.ref a :: st) h Q ↔ gF (h.2.2 a) 7 7 (fun v => T d 142 68 ls (v :: st) h Q) := T_getfieldR m142 c142_65 f8_27
theorem c142_68 : cod 142 68 = some (.bipush 8, 2) := cod_of b142 dX8_isWord_68
theorem t142_68 {d : Nat} {h : Hp} {Q : Pst} {ls : List Value} {st : List Value} : T d 142 68 ls st h Q ↔ T d 142 70 ls (.int 8 :: st) h Q := T_bipushV c142_68 (by decide)
theorem c142_70 : cod 142 70 = some (.iload_n 1, 1) := cod_of b142 dX8_isWord_70
theorem t142_70 {d : Nat} {h : Hp} {Q : Pst} {l0 l2 l3 l4 : Value} {x : Int32} {st : List Value} : T d 142 70 [l0, .int x, l2, l3, l4] st h Q ↔ T d 142 71 [l0, .int x, l2, l3, l4] (.int x :: st) h Q := T_iload_n c142_70 rfl
theorem c142_71 : cod 142 71 = some (.imul, 1) := cod_of b142 dX8_isWord_71
theorem t142_71 {d : Nat} {h : Hp} {Q : Pst} {x y : Int32} {ls : List Value} {st : List Value} : T d 142 71 ls (.int y :: .int x :: st) h Q ↔ T d 142 72 ls (.int (x * y) :: st) h Q := T_imul c142_71
theorem c142_72 : cod 142 72 = some (.iload_n 3, 1) := cod_of b142 dX8_isWord_72
theorem t142_72 {d : Nat} {h : Hp} {Q : Pst} {l0 l1 l2 l4 : Value} {x : Int32} {st : List Value} : T d 142 72 [l0, l1, l2, .int x, l4] st h Q ↔ T d 142 73 [l0, l1, l2, .int x, l4] (.int x :: st) h Q := T_iload_n c142_72 rfl
theorem c142_73 : cod 142 73 = some (.iadd, 1) := cod_of b142 dX8_isWord_73
theorem t142_73 {d : Nat} {h : Hp} {Q : Pst} {x y : Int32} {ls : List Value} {st : List Value} : T d 142 73 ls (.int y :: .int x :: st) h Q ↔ T d 142 74 ls (.int (x + y) :: st) h Q := T_iadd c142_73
theorem c142_74 : cod 142 74 = some (.iaload, 1) := cod_of b142 dX8_isWord_74
theorem t142_74 {d : Nat} {h : Hp} {Q : Pst} {a : Nat} {i : Int32} {ls : List Value} {st : List Value} : T d 142 74 ls (.int i :: .ref a :: st) h Q ↔ aL (h.2.2 a) i (fun x => T d 142 75 ls (.int x :: st) h Q) := T_iaload c142_74
theorem c142_75 : cod 142 75 = some (.if_icmp .ne 7, 3) := cod_of b142 dX8_isWord_75
theorem t142_75 {d : Nat} {h : Hp} {Q : Pst} {x y : Int32} {ls : List Value} {st : List Value} : T d 142 75 ls (.int y :: .int x :: st) h Q ↔ (if ¬ x = y then T d 142 82 ls st h Q else T d 142 78 ls st h Q) := T_icmp_ne c142_75 (by decide)
theorem c142_78 : cod 142 78 = some (.iconst 1, 1) := cod_of b142 dX8_isWord_78
theorem t142_78 {d : Nat} {h : Hp} {Q : Pst} {ls : List Value} {st : List Value} : T d 142 78 ls st h Q ↔ T d 142 79 ls (.int 1 :: st) h Q := T_iconstV c142_78 (by decide)
theorem c142_79 : cod 142 79 = some (.goto 4, 3) := cod_of b142 dX8_isWord_79
theorem t142_79 {d : Nat} {h : Hp} {Q : Pst} {ls : List Value} {st : List Value} : T d 142 79 ls st h Q ↔ T d 142 83 ls st h Q := T_goto c142_79 (by decide)
theorem c142_83 : cod 142 83 = some (.istore_n 2, 1) := cod_of b142 dX8_isWord_83
theorem t142_83 {d : Nat} {h : Hp} {Q : Pst} {l0 l1 l2 l3 l4 : Value} {x : Int32} {st : List Value} : T d 142 83 [l0, l1, l2, l3, l4] (.int x :: st) h Q ↔ T d 142 84 [l0, kil l1, .int x, l3, l4] st h Q := T_istore_n c142_83 (Nat.le_of_ble_eq_true rfl)
theorem c142_84 : cod 142 84 = some (.iinc 3 1, 3) := cod_of b142 dX8_isWord_84
theorem t142_84 {d : Nat} {h : Hp} {Q : Pst} {l0 l1 l2 l4 : Value} {x : Int32} {st : List Value} : T d 142 84 [l0, l1, l2, .int x, l4] st h Q ↔ T d 142 87 [l0, l1, kil l2, .int (x + 1), l4] st h Q := T_iincV c142_84 rfl (Nat.le_of_ble_eq_true rfl) (by decide) rfl
theorem c142_87 : cod 142 87 = some (.goto (-65), 3) := cod_of b142 dX8_isWord_87
theorem t142_87 {d : Nat} {h : Hp} {Q : Pst} {ls : List Value} {st : List Value} : T d 142 87 ls st h Q ↔ T d 142 22 ls st h Q := T_goto c142_87 (by decide)
theorem c142_82 : cod 142 82 = some (.iconst 0, 1) := cod_of b142 dX8_isWord_82
theorem t142_82 {d : Nat} {h : Hp} {Q : Pst} {ls : List Value} {st : List Value} : T d 142 82 ls st h Q ↔ T d 142 83 ls (.int 0 :: st) h Q := T_iconstV c142_82 (by decide)
theorem c142_59 : cod 142 59 = some (.iconst 0, 1) := cod_of b142 dX8_isWord_59
theorem t142_59 {d : Nat} {h : Hp} {Q : Pst} {ls : List Value} {st : List Value} : T d 142 59 ls st h Q ↔ T d 142 60 ls (.int 0 :: st) h Q := T_iconstV c142_59 (by decide)
theorem c142_90 : cod 142 90 = some (.iload_n 2, 1) := cod_of b142 dX8_isWord_90
theorem t142_90 {d : Nat} {h : Hp} {Q : Pst} {l0 l1 l3 l4 : Value} {x : Int32} {st : List Value} : T d 142 90 [l0, l1, .int x, l3, l4] st h Q ↔ T d 142 91 [l0, l1, .int x, l3, l4] (.int x :: st) h Q := T_iload_n c142_90 rfl
theorem c142_91 : cod 142 91 = some (.ireturn, 1) := cod_of b142 dX8_isWord_91
theorem t142_91 {d : Nat} {h : Hp} {Q : Pst} {x : Int32} {ls : List Value} : T d 142 91 ls [.int x] h Q ↔ (narrow .boolean (.int x) = .int x ∧ Q (some (.int x)) h) := T_zretR m142 c142_91 rfl
theorem c142_18 : cod 142 18 = some (.iconst 0, 1) := cod_of b142 dX8_isWord_18
theorem t142_18 {d : Nat} {h : Hp} {Q : Pst} {ls : List Value} {st : List Value} : T d 142 18 ls st h Q ↔ T d 142 19 ls (.int 0 :: st) h Q := T_iconstV c142_18 (by decide)
theorem b143 : (mR 143).2.2.1 = cX8_wordHere := by rw [m143]
theorem c143_0 : cod 143 0 = some (.iconst 0, 1) := cod_of b143 dX8_wordHere_0
theorem t143_0 {d : Nat} {h : Hp} {Q : Pst} {ls : List Value} {st : List Value} : T d 143 0 ls st h Q ↔ T d 143 1 ls (.int 0 :: st) h Q := T_iconstV c143_0 (by decide)
theorem c143_1 : cod 143 1 = some (.istore_n 1, 1) := cod_of b143 dX8_wordHere_1
theorem t143_1 {d : Nat} {h : Hp} {Q : Pst} {l0 l1 : Value} {x : Int32} {st : List Value} : T d 143 1 [l0, l1] (.int x :: st) h Q ↔ T d 143 2 [kil l0, .int x] st h Q := T_istore_n c143_1 (Nat.le_of_ble_eq_true rfl)
theorem c143_2 : cod 143 2 = some (.iload_n 1, 1) := cod_of b143 dX8_wordHere_2
theorem t143_2 {d : Nat} {h : Hp} {Q : Pst} {l0 : Value} {x : Int32} {st : List Value} : T d 143 2 [l0, .int x] st h Q ↔ T d 143 3 [l0, .int x] (.int x :: st) h Q := T_iload_n c143_2 rfl
theorem c143_3 : cod 143 3 = some (.bipush 6, 2) := cod_of b143 dX8_wordHere_3
theorem t143_3 {d : Nat} {h : Hp} {Q : Pst} {ls : List Value} {st : List Value} : T d 143 3 ls st h Q ↔ T d 143 5 ls (.int 6 :: st) h Q := T_bipushV c143_3 (by decide)
theorem c143_5 : cod 143 5 = some (.if_icmp .ge 30, 3) := cod_of b143 dX8_wordHere_5
theorem t143_5 {d : Nat} {h : Hp} {Q : Pst} {x y : Int32} {ls : List Value} {st : List Value} : T d 143 5 ls (.int y :: .int x :: st) h Q ↔ (if y ≤ x then T d 143 35 ls st h Q else T d 143 8 ls st h Q) := T_icmp_ge c143_5 (by decide)
theorem c143_8 : cod 143 8 = some (.aload_n 0, 1) := cod_of b143 dX8_wordHere_8
theorem t143_8 {d : Nat} {h : Hp} {Q : Pst} {l1 : Value} {x : Nat} {st : List Value} : T d 143 8 [.ref x, l1] st h Q ↔ T d 143 9 [.ref x, l1] (.ref x :: st) h Q := T_aload_n c143_8 rfl
theorem c143_9 : cod 143 9 = some (.aload_n 0, 1) := cod_of b143 dX8_wordHere_9
theorem t143_9 {d : Nat} {h : Hp} {Q : Pst} {l1 : Value} {x : Nat} {st : List Value} : T d 143 9 [.ref x, l1] st h Q ↔ T d 143 10 [.ref x, l1] (.ref x :: st) h Q := T_aload_n c143_9 rfl
theorem c143_10 : cod 143 10 = some (.getfield 71, 3) := cod_of b143 dX8_wordHere_10
theorem t143_10 {d : Nat} {h : Hp} {Q : Pst} {a : Nat} {ls : List Value} {st : List Value} : T d 143 10 ls (.ref a :: st) h Q ↔ gF (h.2.2 a) 7 8 (fun v => T d 143 13 ls (v :: st) h Q) := T_getfieldR m143 c143_10 f8_71
theorem c143_13 : cod 143 13 = some (.invokevirtual 74, 3) := cod_of b143 dX8_wordHere_13
theorem t143_13 {d : Nat} {h : Hp} {Q : Pst} {a0 : Int32} {a : Nat} {ls : List Value} (ho : isO (h.2.2 a) 7) : T (d + 1) 143 13 ls [.int a0, .ref a] h Q ↔ T d 139 0 [.ref a, .int a0] [] h (fun x h2 => T (d + 1) 143 16 ls (rl x []) h2 Q) := T_virtualR (as := [.int a0]) (r := []) m143 m139 c143_13 k8_74  rfl (by decide) rfl (by simp [wrd, Value.category]) (by simp [stk, Value.category]) rfl (by decide +kernel) ho
theorem c143_16 : cod 143 16 = some (.ifCond .eq 13, 3) := cod_of b143 dX8_wordHere_16
theorem t143_16 {d : Nat} {h : Hp} {Q : Pst} {x : Int32} {ls : List Value} {st : List Value} : T d 143 16 ls (.int x :: st) h Q ↔ (if x = 0 then T d 143 29 ls st h Q else T d 143 19 ls st h Q) := T_if_eq c143_16 (by decide)
theorem c143_19 : cod 143 19 = some (.aload_n 0, 1) := cod_of b143 dX8_wordHere_19
theorem t143_19 {d : Nat} {h : Hp} {Q : Pst} {l1 : Value} {x : Nat} {st : List Value} : T d 143 19 [.ref x, l1] st h Q ↔ T d 143 20 [.ref x, l1] (.ref x :: st) h Q := T_aload_n c143_19 rfl
theorem c143_20 : cod 143 20 = some (.iload_n 1, 1) := cod_of b143 dX8_wordHere_20
theorem t143_20 {d : Nat} {h : Hp} {Q : Pst} {l0 : Value} {x : Int32} {st : List Value} : T d 143 20 [l0, .int x] st h Q ↔ T d 143 21 [l0, .int x] (.int x :: st) h Q := T_iload_n c143_20 rfl
theorem c143_21 : cod 143 21 = some (.invokevirtual 81, 3) := cod_of b143 dX8_wordHere_21
theorem t143_21 {d : Nat} {h : Hp} {Q : Pst} {a0 : Int32} {a : Nat} {ls : List Value} (ho : isO (h.2.2 a) 7) : T (d + 1) 143 21 ls [.int a0, .ref a] h Q ↔ T d 142 0 [.ref a, .int a0, un, un, un] [] h (fun x h2 => T (d + 1) 143 24 ls (rl x []) h2 Q) := T_virtualR (as := [.int a0]) (r := []) m143 m142 c143_21 k8_81  rfl (by decide) rfl (by simp [wrd, Value.category]) (by simp [stk, Value.category]) rfl (by decide +kernel) ho
theorem c143_24 : cod 143 24 = some (.ifCond .eq 5, 3) := cod_of b143 dX8_wordHere_24
theorem t143_24 {d : Nat} {h : Hp} {Q : Pst} {x : Int32} {ls : List Value} {st : List Value} : T d 143 24 ls (.int x :: st) h Q ↔ (if x = 0 then T d 143 29 ls st h Q else T d 143 27 ls st h Q) := T_if_eq c143_24 (by decide)
theorem c143_27 : cod 143 27 = some (.iload_n 1, 1) := cod_of b143 dX8_wordHere_27
theorem t143_27 {d : Nat} {h : Hp} {Q : Pst} {l0 : Value} {x : Int32} {st : List Value} : T d 143 27 [l0, .int x] st h Q ↔ T d 143 28 [l0, .int x] (.int x :: st) h Q := T_iload_n c143_27 rfl
theorem c143_28 : cod 143 28 = some (.ireturn, 1) := cod_of b143 dX8_wordHere_28
theorem t143_28 {d : Nat} {h : Hp} {Q : Pst} {x : Int32} {ls : List Value} : T d 143 28 ls [.int x] h Q ↔ Q (some (.int x)) h := T_iretR m143 c143_28 rfl
theorem c143_29 : cod 143 29 = some (.iinc 1 1, 3) := cod_of b143 dX8_wordHere_29
theorem t143_29 {d : Nat} {h : Hp} {Q : Pst} {l0 : Value} {x : Int32} {st : List Value} : T d 143 29 [l0, .int x] st h Q ↔ T d 143 32 [kil l0, .int (x + 1)] st h Q := T_iincV c143_29 rfl (Nat.le_of_ble_eq_true rfl) (by decide) rfl
theorem c143_32 : cod 143 32 = some (.goto (-30), 3) := cod_of b143 dX8_wordHere_32
theorem t143_32 {d : Nat} {h : Hp} {Q : Pst} {ls : List Value} {st : List Value} : T d 143 32 ls st h Q ↔ T d 143 2 ls st h Q := T_goto c143_32 (by decide)
theorem c143_35 : cod 143 35 = some (.iconst (-1), 1) := cod_of b143 dX8_wordHere_35
theorem t143_35 {d : Nat} {h : Hp} {Q : Pst} {ls : List Value} {st : List Value} : T d 143 35 ls st h Q ↔ T d 143 36 ls (.int (-1) :: st) h Q := T_iconstV c143_35 (by decide)
theorem c143_36 : cod 143 36 = some (.ireturn, 1) := cod_of b143 dX8_wordHere_36
theorem t143_36 {d : Nat} {h : Hp} {Q : Pst} {x : Int32} {ls : List Value} : T d 143 36 ls [.int x] h Q ↔ Q (some (.int x)) h := T_iretR m143 c143_36 rfl
theorem b144 : (mR 144).2.2.1 = cX8_number := by rw [m144]
theorem c144_0 : cod 144 0 = some (.aload_n 0, 1) := cod_of b144 dX8_number_0
theorem t144_0 {d : Nat} {h : Hp} {Q : Pst} {l1 l2 l3 : Value} {x : Nat} {st : List Value} : T d 144 0 [.ref x, l1, l2, l3] st h Q ↔ T d 144 1 [.ref x, l1, l2, l3] (.ref x :: st) h Q := T_aload_n c144_0 rfl
theorem c144_1 : cod 144 1 = some (.invokevirtual 84, 3) := cod_of b144 dX8_number_1
theorem t144_1 {d : Nat} {h : Hp} {Q : Pst} {a : Nat} {ls : List Value} (ho : isO (h.2.2 a) 7) : T (d + 1) 144 1 ls [.ref a] h Q ↔ T d 141 0 [.ref a] [] h (fun x h2 => T (d + 1) 144 4 ls (rl x []) h2 Q) := T_virtualR (as := []) (r := []) m144 m141 c144_1 k8_84  rfl (by decide) rfl (by simp [wrd, Value.category]) (by simp [stk, Value.category]) rfl (by decide +kernel) ho
theorem c144_4 : cod 144 4 = some (.aload_n 0, 1) := cod_of b144 dX8_number_4
theorem t144_4 {d : Nat} {h : Hp} {Q : Pst} {l1 l2 l3 : Value} {x : Nat} {st : List Value} : T d 144 4 [.ref x, l1, l2, l3] st h Q ↔ T d 144 5 [.ref x, l1, l2, l3] (.ref x :: st) h Q := T_aload_n c144_4 rfl
theorem c144_5 : cod 144 5 = some (.aload_n 0, 1) := cod_of b144 dX8_number_5
theorem t144_5 {d : Nat} {h : Hp} {Q : Pst} {l1 l2 l3 : Value} {x : Nat} {st : List Value} : T d 144 5 [.ref x, l1, l2, l3] st h Q ↔ T d 144 6 [.ref x, l1, l2, l3] (.ref x :: st) h Q := T_aload_n c144_5 rfl
theorem c144_6 : cod 144 6 = some (.getfield 71, 3) := cod_of b144 dX8_number_6
theorem t144_6 {d : Nat} {h : Hp} {Q : Pst} {a : Nat} {ls : List Value} {st : List Value} : T d 144 6 ls (.ref a :: st) h Q ↔ gF (h.2.2 a) 7 8 (fun v => T d 144 9 ls (v :: st) h Q) := T_getfieldR m144 c144_6 f8_71
theorem c144_9 : cod 144 9 = some (.invokevirtual 78, 3) := cod_of b144 dX8_number_9
theorem t144_9 {d : Nat} {h : Hp} {Q : Pst} {a0 : Int32} {a : Nat} {ls : List Value} (ho : isO (h.2.2 a) 7) : T (d + 1) 144 9 ls [.int a0, .ref a] h Q ↔ T d 140 0 [.ref a, .int a0] [] h (fun x h2 => T (d + 1) 144 12 ls (rl x []) h2 Q) := T_virtualR (as := [.int a0]) (r := []) m144 m140 c144_9 k8_78  rfl (by decide) rfl (by simp [wrd, Value.category]) (by simp [stk, Value.category]) rfl (by decide +kernel) ho
theorem c144_12 : cod 144 12 = some (.ifCond .eq 16, 3) := cod_of b144 dX8_number_12
theorem t144_12 {d : Nat} {h : Hp} {Q : Pst} {x : Int32} {ls : List Value} {st : List Value} : T d 144 12 ls (.int x :: st) h Q ↔ (if x = 0 then T d 144 28 ls st h Q else T d 144 15 ls st h Q) := T_if_eq c144_12 (by decide)
theorem c144_15 : cod 144 15 = some (.aload_n 0, 1) := cod_of b144 dX8_number_15
theorem t144_15 {d : Nat} {h : Hp} {Q : Pst} {l1 l2 l3 : Value} {x : Nat} {st : List Value} : T d 144 15 [.ref x, l1, l2, l3] st h Q ↔ T d 144 16 [.ref x, l1, l2, l3] (.ref x :: st) h Q := T_aload_n c144_15 rfl
theorem c144_16 : cod 144 16 = some (.getfield 68, 3) := cod_of b144 dX8_number_16
theorem t144_16 {d : Nat} {h : Hp} {Q : Pst} {a : Nat} {ls : List Value} {st : List Value} : T d 144 16 ls (.ref a :: st) h Q ↔ gF (h.2.2 a) 7 9 (fun v => T d 144 19 ls (v :: st) h Q) := T_getfieldR m144 c144_16 f8_68
theorem c144_19 : cod 144 19 = some (.aload_n 0, 1) := cod_of b144 dX8_number_19
theorem t144_19 {d : Nat} {h : Hp} {Q : Pst} {l1 l2 l3 : Value} {x : Nat} {st : List Value} : T d 144 19 [.ref x, l1, l2, l3] st h Q ↔ T d 144 20 [.ref x, l1, l2, l3] (.ref x :: st) h Q := T_aload_n c144_19 rfl
theorem c144_20 : cod 144 20 = some (.getfield 71, 3) := cod_of b144 dX8_number_20
theorem t144_20 {d : Nat} {h : Hp} {Q : Pst} {a : Nat} {ls : List Value} {st : List Value} : T d 144 20 ls (.ref a :: st) h Q ↔ gF (h.2.2 a) 7 8 (fun v => T d 144 23 ls (v :: st) h Q) := T_getfieldR m144 c144_20 f8_71
theorem c144_23 : cod 144 23 = some (.isub, 1) := cod_of b144 dX8_number_23
theorem t144_23 {d : Nat} {h : Hp} {Q : Pst} {x y : Int32} {ls : List Value} {st : List Value} : T d 144 23 ls (.int y :: .int x :: st) h Q ↔ T d 144 24 ls (.int (x - y) :: st) h Q := T_isub c144_23
theorem c144_24 : cod 144 24 = some (.iconst 2, 1) := cod_of b144 dX8_number_24
theorem t144_24 {d : Nat} {h : Hp} {Q : Pst} {ls : List Value} {st : List Value} : T d 144 24 ls st h Q ↔ T d 144 25 ls (.int 2 :: st) h Q := T_iconstV c144_24 (by decide)
theorem c144_25 : cod 144 25 = some (.if_icmp .le 5, 3) := cod_of b144 dX8_number_25
theorem t144_25 {d : Nat} {h : Hp} {Q : Pst} {x y : Int32} {ls : List Value} {st : List Value} : T d 144 25 ls (.int y :: .int x :: st) h Q ↔ (if x ≤ y then T d 144 30 ls st h Q else T d 144 28 ls st h Q) := T_icmp_le c144_25 (by decide)
theorem c144_30 : cod 144 30 = some (.aload_n 0, 1) := cod_of b144 dX8_number_30
theorem t144_30 {d : Nat} {h : Hp} {Q : Pst} {l1 l2 l3 : Value} {x : Nat} {st : List Value} : T d 144 30 [.ref x, l1, l2, l3] st h Q ↔ T d 144 31 [.ref x, l1, l2, l3] (.ref x :: st) h Q := T_aload_n c144_30 rfl
theorem c144_31 : cod 144 31 = some (.getfield 24, 3) := cod_of b144 dX8_number_31
theorem t144_31 {d : Nat} {h : Hp} {Q : Pst} {a : Nat} {ls : List Value} {st : List Value} : T d 144 31 ls (.ref a :: st) h Q ↔ gF (h.2.2 a) 7 5 (fun v => T d 144 34 ls (v :: st) h Q) := T_getfieldR m144 c144_31 f8_24
theorem c144_34 : cod 144 34 = some (.aload_n 0, 1) := cod_of b144 dX8_number_34
theorem t144_34 {d : Nat} {h : Hp} {Q : Pst} {l1 l2 l3 : Value} {x : Nat} {st : List Value} : T d 144 34 [.ref x, l1, l2, l3] st h Q ↔ T d 144 35 [.ref x, l1, l2, l3] (.ref x :: st) h Q := T_aload_n c144_34 rfl
theorem c144_35 : cod 144 35 = some (.getfield 71, 3) := cod_of b144 dX8_number_35
theorem t144_35 {d : Nat} {h : Hp} {Q : Pst} {a : Nat} {ls : List Value} {st : List Value} : T d 144 35 ls (.ref a :: st) h Q ↔ gF (h.2.2 a) 7 8 (fun v => T d 144 38 ls (v :: st) h Q) := T_getfieldR m144 c144_35 f8_71
theorem c144_38 : cod 144 38 = some (.iaload, 1) := cod_of b144 dX8_number_38
theorem t144_38 {d : Nat} {h : Hp} {Q : Pst} {a : Nat} {i : Int32} {ls : List Value} {st : List Value} : T d 144 38 ls (.int i :: .ref a :: st) h Q ↔ aL (h.2.2 a) i (fun x => T d 144 39 ls (.int x :: st) h Q) := T_iaload c144_38
theorem c144_39 : cod 144 39 = some (.bipush 48, 2) := cod_of b144 dX8_number_39
theorem t144_39 {d : Nat} {h : Hp} {Q : Pst} {ls : List Value} {st : List Value} : T d 144 39 ls st h Q ↔ T d 144 41 ls (.int 48 :: st) h Q := T_bipushV c144_39 (by decide)
theorem c144_41 : cod 144 41 = some (.isub, 1) := cod_of b144 dX8_number_41
theorem t144_41 {d : Nat} {h : Hp} {Q : Pst} {x y : Int32} {ls : List Value} {st : List Value} : T d 144 41 ls (.int y :: .int x :: st) h Q ↔ T d 144 42 ls (.int (x - y) :: st) h Q := T_isub c144_41
theorem c144_42 : cod 144 42 = some (.istore_n 3, 1) := cod_of b144 dX8_number_42
theorem t144_42 {d : Nat} {h : Hp} {Q : Pst} {l0 l1 l2 l3 : Value} {x : Int32} {st : List Value} : T d 144 42 [l0, l1, l2, l3] (.int x :: st) h Q ↔ T d 144 43 [l0, l1, kil l2, .int x] st h Q := T_istore_n c144_42 (Nat.le_of_ble_eq_true rfl)
theorem c144_43 : cod 144 43 = some (.aload_n 0, 1) := cod_of b144 dX8_number_43
theorem t144_43 {d : Nat} {h : Hp} {Q : Pst} {l1 l2 l3 : Value} {x : Nat} {st : List Value} : T d 144 43 [.ref x, l1, l2, l3] st h Q ↔ T d 144 44 [.ref x, l1, l2, l3] (.ref x :: st) h Q := T_aload_n c144_43 rfl
theorem c144_44 : cod 144 44 = some (.getfield 68, 3) := cod_of b144 dX8_number_44
theorem t144_44 {d : Nat} {h : Hp} {Q : Pst} {a : Nat} {ls : List Value} {st : List Value} : T d 144 44 ls (.ref a :: st) h Q ↔ gF (h.2.2 a) 7 9 (fun v => T d 144 47 ls (v :: st) h Q) := T_getfieldR m144 c144_44 f8_68
theorem c144_47 : cod 144 47 = some (.aload_n 0, 1) := cod_of b144 dX8_number_47
theorem t144_47 {d : Nat} {h : Hp} {Q : Pst} {l1 l2 l3 : Value} {x : Nat} {st : List Value} : T d 144 47 [.ref x, l1, l2, l3] st h Q ↔ T d 144 48 [.ref x, l1, l2, l3] (.ref x :: st) h Q := T_aload_n c144_47 rfl
theorem c144_48 : cod 144 48 = some (.getfield 71, 3) := cod_of b144 dX8_number_48
theorem t144_48 {d : Nat} {h : Hp} {Q : Pst} {a : Nat} {ls : List Value} {st : List Value} : T d 144 48 ls (.ref a :: st) h Q ↔ gF (h.2.2 a) 7 8 (fun v => T d 144 51 ls (v :: st) h Q) := T_getfieldR m144 c144_48 f8_71
theorem c144_51 : cod 144 51 = some (.isub, 1) := cod_of b144 dX8_number_51
theorem t144_51 {d : Nat} {h : Hp} {Q : Pst} {x y : Int32} {ls : List Value} {st : List Value} : T d 144 51 ls (.int y :: .int x :: st) h Q ↔ T d 144 52 ls (.int (x - y) :: st) h Q := T_isub c144_51
theorem c144_52 : cod 144 52 = some (.iconst 2, 1) := cod_of b144 dX8_number_52
theorem t144_52 {d : Nat} {h : Hp} {Q : Pst} {ls : List Value} {st : List Value} : T d 144 52 ls st h Q ↔ T d 144 53 ls (.int 2 :: st) h Q := T_iconstV c144_52 (by decide)
theorem c144_53 : cod 144 53 = some (.if_icmp .ne 25, 3) := cod_of b144 dX8_number_53
theorem t144_53 {d : Nat} {h : Hp} {Q : Pst} {x y : Int32} {ls : List Value} {st : List Value} : T d 144 53 ls (.int y :: .int x :: st) h Q ↔ (if ¬ x = y then T d 144 78 ls st h Q else T d 144 56 ls st h Q) := T_icmp_ne c144_53 (by decide)
theorem c144_56 : cod 144 56 = some (.bipush 10, 2) := cod_of b144 dX8_number_56
theorem t144_56 {d : Nat} {h : Hp} {Q : Pst} {ls : List Value} {st : List Value} : T d 144 56 ls st h Q ↔ T d 144 58 ls (.int 10 :: st) h Q := T_bipushV c144_56 (by decide)
theorem c144_58 : cod 144 58 = some (.iload_n 3, 1) := cod_of b144 dX8_number_58
theorem t144_58 {d : Nat} {h : Hp} {Q : Pst} {l0 l1 l2 : Value} {x : Int32} {st : List Value} : T d 144 58 [l0, l1, l2, .int x] st h Q ↔ T d 144 59 [l0, l1, l2, .int x] (.int x :: st) h Q := T_iload_n c144_58 rfl
theorem c144_59 : cod 144 59 = some (.imul, 1) := cod_of b144 dX8_number_59
theorem t144_59 {d : Nat} {h : Hp} {Q : Pst} {x y : Int32} {ls : List Value} {st : List Value} : T d 144 59 ls (.int y :: .int x :: st) h Q ↔ T d 144 60 ls (.int (x * y) :: st) h Q := T_imul c144_59
theorem c144_60 : cod 144 60 = some (.aload_n 0, 1) := cod_of b144 dX8_number_60
theorem t144_60 {d : Nat} {h : Hp} {Q : Pst} {l1 l2 l3 : Value} {x : Nat} {st : List Value} : T d 144 60 [.ref x, l1, l2, l3] st h Q ↔ T d 144 61 [.ref x, l1, l2, l3] (.ref x :: st) h Q := T_aload_n c144_60 rfl
theorem c144_61 : cod 144 61 = some (.getfield 24, 3) := cod_of b144 dX8_number_61
theorem t144_61 {d : Nat} {h : Hp} {Q : Pst} {a : Nat} {ls : List Value} {st : List Value} : T d 144 61 ls (.ref a :: st) h Q ↔ gF (h.2.2 a) 7 5 (fun v => T d 144 64 ls (v :: st) h Q) := T_getfieldR m144 c144_61 f8_24
theorem c144_64 : cod 144 64 = some (.aload_n 0, 1) := cod_of b144 dX8_number_64
theorem t144_64 {d : Nat} {h : Hp} {Q : Pst} {l1 l2 l3 : Value} {x : Nat} {st : List Value} : T d 144 64 [.ref x, l1, l2, l3] st h Q ↔ T d 144 65 [.ref x, l1, l2, l3] (.ref x :: st) h Q := T_aload_n c144_64 rfl
theorem c144_65 : cod 144 65 = some (.getfield 71, 3) := cod_of b144 dX8_number_65
theorem t144_65 {d : Nat} {h : Hp} {Q : Pst} {a : Nat} {ls : List Value} {st : List Value} : T d 144 65 ls (.ref a :: st) h Q ↔ gF (h.2.2 a) 7 8 (fun v => T d 144 68 ls (v :: st) h Q) := T_getfieldR m144 c144_65 f8_71
theorem c144_68 : cod 144 68 = some (.iconst 1, 1) := cod_of b144 dX8_number_68
theorem t144_68 {d : Nat} {h : Hp} {Q : Pst} {ls : List Value} {st : List Value} : T d 144 68 ls st h Q ↔ T d 144 69 ls (.int 1 :: st) h Q := T_iconstV c144_68 (by decide)
theorem c144_69 : cod 144 69 = some (.iadd, 1) := cod_of b144 dX8_number_69
theorem t144_69 {d : Nat} {h : Hp} {Q : Pst} {x y : Int32} {ls : List Value} {st : List Value} : T d 144 69 ls (.int y :: .int x :: st) h Q ↔ T d 144 70 ls (.int (x + y) :: st) h Q := T_iadd c144_69
theorem c144_70 : cod 144 70 = some (.iaload, 1) := cod_of b144 dX8_number_70
theorem t144_70 {d : Nat} {h : Hp} {Q : Pst} {a : Nat} {i : Int32} {ls : List Value} {st : List Value} : T d 144 70 ls (.int i :: .ref a :: st) h Q ↔ aL (h.2.2 a) i (fun x => T d 144 71 ls (.int x :: st) h Q) := T_iaload c144_70
theorem c144_71 : cod 144 71 = some (.iadd, 1) := cod_of b144 dX8_number_71
theorem t144_71 {d : Nat} {h : Hp} {Q : Pst} {x y : Int32} {ls : List Value} {st : List Value} : T d 144 71 ls (.int y :: .int x :: st) h Q ↔ T d 144 72 ls (.int (x + y) :: st) h Q := T_iadd c144_71
theorem c144_72 : cod 144 72 = some (.bipush 48, 2) := cod_of b144 dX8_number_72
theorem t144_72 {d : Nat} {h : Hp} {Q : Pst} {ls : List Value} {st : List Value} : T d 144 72 ls st h Q ↔ T d 144 74 ls (.int 48 :: st) h Q := T_bipushV c144_72 (by decide)
theorem c144_74 : cod 144 74 = some (.isub, 1) := cod_of b144 dX8_number_74
theorem t144_74 {d : Nat} {h : Hp} {Q : Pst} {x y : Int32} {ls : List Value} {st : List Value} : T d 144 74 ls (.int y :: .int x :: st) h Q ↔ T d 144 75 ls (.int (x - y) :: st) h Q := T_isub c144_74
theorem c144_75 : cod 144 75 = some (.goto 4, 3) := cod_of b144 dX8_number_75
theorem t144_75 {d : Nat} {h : Hp} {Q : Pst} {ls : List Value} {st : List Value} : T d 144 75 ls st h Q ↔ T d 144 79 ls st h Q := T_goto c144_75 (by decide)
theorem c144_79 : cod 144 79 = some (.istore_n 3, 1) := cod_of b144 dX8_number_79
theorem t144_79 {d : Nat} {h : Hp} {Q : Pst} {l0 l1 l2 l3 : Value} {x : Int32} {st : List Value} : T d 144 79 [l0, l1, l2, l3] (.int x :: st) h Q ↔ T d 144 80 [l0, l1, kil l2, .int x] st h Q := T_istore_n c144_79 (Nat.le_of_ble_eq_true rfl)
theorem c144_80 : cod 144 80 = some (.iload_n 3, 1) := cod_of b144 dX8_number_80
theorem t144_80 {d : Nat} {h : Hp} {Q : Pst} {l0 l1 l2 : Value} {x : Int32} {st : List Value} : T d 144 80 [l0, l1, l2, .int x] st h Q ↔ T d 144 81 [l0, l1, l2, .int x] (.int x :: st) h Q := T_iload_n c144_80 rfl
theorem c144_81 : cod 144 81 = some (.iload_n 1, 1) := cod_of b144 dX8_number_81
theorem t144_81 {d : Nat} {h : Hp} {Q : Pst} {l0 l2 l3 : Value} {x : Int32} {st : List Value} : T d 144 81 [l0, .int x, l2, l3] st h Q ↔ T d 144 82 [l0, .int x, l2, l3] (.int x :: st) h Q := T_iload_n c144_81 rfl
theorem c144_82 : cod 144 82 = some (.iload_n 2, 1) := cod_of b144 dX8_number_82
theorem t144_82 {d : Nat} {h : Hp} {Q : Pst} {l0 l1 l3 : Value} {x : Int32} {st : List Value} : T d 144 82 [l0, l1, .int x, l3] st h Q ↔ T d 144 83 [l0, l1, .int x, l3] (.int x :: st) h Q := T_iload_n c144_82 rfl
theorem c144_83 : cod 144 83 = some (.invokestatic 49, 3) := cod_of b144 dX8_number_83
theorem t144_83 {d : Nat} {h : Hp} {Q : Pst} {a0 a1 a2 : Int32} {ls : List Value} : T (d + 1) 144 83 ls [.int a2, .int a1, .int a0] h Q ↔ T d 126 0 [.int a0, .int a1, .int a2] [] h (fun x h2 => T (d + 1) 144 86 ls (rl x []) h2 Q) := T_staticR (as := [.int a0, .int a1, .int a2]) (r := []) m144 m126 c144_83 k8_49 (Or.inl rfl) rfl (by decide) rfl (by simp [wrd, Value.category]) (by simp [stk, Value.category]) rfl
theorem c144_86 : cod 144 86 = some (.ifCond .eq 7, 3) := cod_of b144 dX8_number_86
theorem t144_86 {d : Nat} {h : Hp} {Q : Pst} {x : Int32} {ls : List Value} {st : List Value} : T d 144 86 ls (.int x :: st) h Q ↔ (if x = 0 then T d 144 93 ls st h Q else T d 144 89 ls st h Q) := T_if_eq c144_86 (by decide)
theorem c144_89 : cod 144 89 = some (.iload_n 3, 1) := cod_of b144 dX8_number_89
theorem t144_89 {d : Nat} {h : Hp} {Q : Pst} {l0 l1 l2 : Value} {x : Int32} {st : List Value} : T d 144 89 [l0, l1, l2, .int x] st h Q ↔ T d 144 90 [l0, l1, l2, .int x] (.int x :: st) h Q := T_iload_n c144_89 rfl
theorem c144_90 : cod 144 90 = some (.goto 4, 3) := cod_of b144 dX8_number_90
theorem t144_90 {d : Nat} {h : Hp} {Q : Pst} {ls : List Value} {st : List Value} : T d 144 90 ls st h Q ↔ T d 144 94 ls st h Q := T_goto c144_90 (by decide)
theorem c144_94 : cod 144 94 = some (.ireturn, 1) := cod_of b144 dX8_number_94
theorem t144_94 {d : Nat} {h : Hp} {Q : Pst} {x : Int32} {ls : List Value} : T d 144 94 ls [.int x] h Q ↔ Q (some (.int x)) h := T_iretR m144 c144_94 rfl
theorem c144_93 : cod 144 93 = some (.iconst (-1), 1) := cod_of b144 dX8_number_93
theorem t144_93 {d : Nat} {h : Hp} {Q : Pst} {ls : List Value} {st : List Value} : T d 144 93 ls st h Q ↔ T d 144 94 ls (.int (-1) :: st) h Q := T_iconstV c144_93 (by decide)
theorem c144_78 : cod 144 78 = some (.iload_n 3, 1) := cod_of b144 dX8_number_78
theorem t144_78 {d : Nat} {h : Hp} {Q : Pst} {l0 l1 l2 : Value} {x : Int32} {st : List Value} : T d 144 78 [l0, l1, l2, .int x] st h Q ↔ T d 144 79 [l0, l1, l2, .int x] (.int x :: st) h Q := T_iload_n c144_78 rfl
theorem c144_28 : cod 144 28 = some (.iconst (-1), 1) := cod_of b144 dX8_number_28
theorem t144_28 {d : Nat} {h : Hp} {Q : Pst} {ls : List Value} {st : List Value} : T d 144 28 ls st h Q ↔ T d 144 29 ls (.int (-1) :: st) h Q := T_iconstV c144_28 (by decide)
theorem c144_29 : cod 144 29 = some (.ireturn, 1) := cod_of b144 dX8_number_29
theorem t144_29 {d : Nat} {h : Hp} {Q : Pst} {x : Int32} {ls : List Value} : T d 144 29 ls [.int x] h Q ↔ Q (some (.int x)) h := T_iretR m144 c144_29 rfl
theorem b145 : (mR 145).2.2.1 = cX8_readsUplands := by rw [m145]
theorem c145_0 : cod 145 0 = some (.aload_n 0, 1) := cod_of b145 dX8_readsUplands_0
theorem t145_0 {d : Nat} {h : Hp} {Q : Pst} {l1 : Value} {x : Nat} {st : List Value} : T d 145 0 [.ref x, l1] st h Q ↔ T d 145 1 [.ref x, l1] (.ref x :: st) h Q := T_aload_n c145_0 rfl
theorem c145_1 : cod 145 1 = some (.iconst 0, 1) := cod_of b145 dX8_readsUplands_1
theorem t145_1 {d : Nat} {h : Hp} {Q : Pst} {ls : List Value} {st : List Value} : T d 145 1 ls st h Q ↔ T d 145 2 ls (.int 0 :: st) h Q := T_iconstV c145_1 (by decide)
theorem c145_2 : cod 145 2 = some (.iconst 4, 1) := cod_of b145 dX8_readsUplands_2
theorem t145_2 {d : Nat} {h : Hp} {Q : Pst} {ls : List Value} {st : List Value} : T d 145 2 ls st h Q ↔ T d 145 3 ls (.int 4 :: st) h Q := T_iconstV c145_2 (by decide)
theorem c145_3 : cod 145 3 = some (.invokevirtual 87, 3) := cod_of b145 dX8_readsUplands_3
theorem t145_3 {d : Nat} {h : Hp} {Q : Pst} {a0 a1 : Int32} {a : Nat} {ls : List Value} (ho : isO (h.2.2 a) 7) : T (d + 1) 145 3 ls [.int a1, .int a0, .ref a] h Q ↔ T d 144 0 [.ref a, .int a0, .int a1, un] [] h (fun x h2 => T (d + 1) 145 6 ls (rl x []) h2 Q) := T_virtualR (as := [.int a0, .int a1]) (r := []) m145 m144 c145_3 k8_87  rfl (by decide) rfl (by simp [wrd, Value.category]) (by simp [stk, Value.category]) rfl (by decide +kernel) ho
theorem c145_6 : cod 145 6 = some (.istore_n 1, 1) := cod_of b145 dX8_readsUplands_6
theorem t145_6 {d : Nat} {h : Hp} {Q : Pst} {l0 l1 : Value} {x : Int32} {st : List Value} : T d 145 6 [l0, l1] (.int x :: st) h Q ↔ T d 145 7 [kil l0, .int x] st h Q := T_istore_n c145_6 (Nat.le_of_ble_eq_true rfl)
theorem c145_7 : cod 145 7 = some (.iload_n 1, 1) := cod_of b145 dX8_readsUplands_7
theorem t145_7 {d : Nat} {h : Hp} {Q : Pst} {l0 : Value} {x : Int32} {st : List Value} : T d 145 7 [l0, .int x] st h Q ↔ T d 145 8 [l0, .int x] (.int x :: st) h Q := T_iload_n c145_7 rfl
theorem c145_8 : cod 145 8 = some (.iconst (-1), 1) := cod_of b145 dX8_readsUplands_8
theorem t145_8 {d : Nat} {h : Hp} {Q : Pst} {ls : List Value} {st : List Value} : T d 145 8 ls st h Q ↔ T d 145 9 ls (.int (-1) :: st) h Q := T_iconstV c145_8 (by decide)
theorem c145_9 : cod 145 9 = some (.if_icmp .eq 15, 3) := cod_of b145 dX8_readsUplands_9
theorem t145_9 {d : Nat} {h : Hp} {Q : Pst} {x y : Int32} {ls : List Value} {st : List Value} : T d 145 9 ls (.int y :: .int x :: st) h Q ↔ (if x = y then T d 145 24 ls st h Q else T d 145 12 ls st h Q) := T_icmp_eq c145_9 (by decide)
theorem c145_12 : cod 145 12 = some (.aload_n 0, 1) := cod_of b145 dX8_readsUplands_12
theorem t145_12 {d : Nat} {h : Hp} {Q : Pst} {l1 : Value} {x : Nat} {st : List Value} : T d 145 12 [.ref x, l1] st h Q ↔ T d 145 13 [.ref x, l1] (.ref x :: st) h Q := T_aload_n c145_12 rfl
theorem c145_13 : cod 145 13 = some (.getfield 91, 3) := cod_of b145 dX8_readsUplands_13
theorem t145_13 {d : Nat} {h : Hp} {Q : Pst} {a : Nat} {ls : List Value} {st : List Value} : T d 145 13 ls (.ref a :: st) h Q ↔ gF (h.2.2 a) 7 12 (fun v => T d 145 16 ls (v :: st) h Q) := T_getfieldR m145 c145_13 f8_91
theorem c145_16 : cod 145 16 = some (.ifCond .eq 8, 3) := cod_of b145 dX8_readsUplands_16
theorem t145_16 {d : Nat} {h : Hp} {Q : Pst} {x : Int32} {ls : List Value} {st : List Value} : T d 145 16 ls (.int x :: st) h Q ↔ (if x = 0 then T d 145 24 ls st h Q else T d 145 19 ls st h Q) := T_if_eq c145_16 (by decide)
theorem c145_19 : cod 145 19 = some (.aload_n 0, 1) := cod_of b145 dX8_readsUplands_19
theorem t145_19 {d : Nat} {h : Hp} {Q : Pst} {l1 : Value} {x : Nat} {st : List Value} : T d 145 19 [.ref x, l1] st h Q ↔ T d 145 20 [.ref x, l1] (.ref x :: st) h Q := T_aload_n c145_19 rfl
theorem c145_20 : cod 145 20 = some (.iload_n 1, 1) := cod_of b145 dX8_readsUplands_20
theorem t145_20 {d : Nat} {h : Hp} {Q : Pst} {l0 : Value} {x : Int32} {st : List Value} : T d 145 20 [l0, .int x] st h Q ↔ T d 145 21 [l0, .int x] (.int x :: st) h Q := T_iload_n c145_20 rfl
theorem c145_21 : cod 145 21 = some (.invokevirtual 53, 3) := cod_of b145 dX8_readsUplands_21
theorem t145_21 {d : Nat} {h : Hp} {Q : Pst} {a0 : Int32} {a : Nat} {ls : List Value} (ho : isO (h.2.2 a) 7) : T (d + 1) 145 21 ls [.int a0, .ref a] h Q ↔ T d 131 0 [.ref a, .int a0, un] [] h (fun x h2 => T (d + 1) 145 24 ls (rl x []) h2 Q) := T_virtualR (as := [.int a0]) (r := []) m145 m131 c145_21 k8_53  rfl (by decide) rfl (by simp [wrd, Value.category]) (by simp [stk, Value.category]) rfl (by decide +kernel) ho
theorem c145_24 : cod 145 24 = some (.iload_n 1, 1) := cod_of b145 dX8_readsUplands_24
theorem t145_24 {d : Nat} {h : Hp} {Q : Pst} {l0 : Value} {x : Int32} {st : List Value} : T d 145 24 [l0, .int x] st h Q ↔ T d 145 25 [l0, .int x] (.int x :: st) h Q := T_iload_n c145_24 rfl
theorem c145_25 : cod 145 25 = some (.iconst (-1), 1) := cod_of b145 dX8_readsUplands_25
theorem t145_25 {d : Nat} {h : Hp} {Q : Pst} {ls : List Value} {st : List Value} : T d 145 25 ls st h Q ↔ T d 145 26 ls (.int (-1) :: st) h Q := T_iconstV c145_25 (by decide)
theorem c145_26 : cod 145 26 = some (.if_icmp .eq 7, 3) := cod_of b145 dX8_readsUplands_26
theorem t145_26 {d : Nat} {h : Hp} {Q : Pst} {x y : Int32} {ls : List Value} {st : List Value} : T d 145 26 ls (.int y :: .int x :: st) h Q ↔ (if x = y then T d 145 33 ls st h Q else T d 145 29 ls st h Q) := T_icmp_eq c145_26 (by decide)
theorem c145_29 : cod 145 29 = some (.iconst 1, 1) := cod_of b145 dX8_readsUplands_29
theorem t145_29 {d : Nat} {h : Hp} {Q : Pst} {ls : List Value} {st : List Value} : T d 145 29 ls st h Q ↔ T d 145 30 ls (.int 1 :: st) h Q := T_iconstV c145_29 (by decide)
theorem c145_30 : cod 145 30 = some (.goto 4, 3) := cod_of b145 dX8_readsUplands_30
theorem t145_30 {d : Nat} {h : Hp} {Q : Pst} {ls : List Value} {st : List Value} : T d 145 30 ls st h Q ↔ T d 145 34 ls st h Q := T_goto c145_30 (by decide)
theorem c145_34 : cod 145 34 = some (.ireturn, 1) := cod_of b145 dX8_readsUplands_34
theorem t145_34 {d : Nat} {h : Hp} {Q : Pst} {x : Int32} {ls : List Value} : T d 145 34 ls [.int x] h Q ↔ (narrow .boolean (.int x) = .int x ∧ Q (some (.int x)) h) := T_zretR m145 c145_34 rfl
theorem c145_33 : cod 145 33 = some (.iconst 0, 1) := cod_of b145 dX8_readsUplands_33
theorem t145_33 {d : Nat} {h : Hp} {Q : Pst} {ls : List Value} {st : List Value} : T d 145 33 ls st h Q ↔ T d 145 34 ls (.int 0 :: st) h Q := T_iconstV c145_33 (by decide)
theorem b146 : (mR 146).2.2.1 = cX8_readsGuest := by rw [m146]
theorem c146_0 : cod 146 0 = some (.aload_n 0, 1) := cod_of b146 dX8_readsGuest_0
theorem t146_0 {d : Nat} {h : Hp} {Q : Pst} {l1 l2 : Value} {x : Nat} {st : List Value} : T d 146 0 [.ref x, l1, l2] st h Q ↔ T d 146 1 [.ref x, l1, l2] (.ref x :: st) h Q := T_aload_n c146_0 rfl
theorem c146_1 : cod 146 1 = some (.getfield 95, 3) := cod_of b146 dX8_readsGuest_1
theorem t146_1 {d : Nat} {h : Hp} {Q : Pst} {a : Nat} {ls : List Value} {st : List Value} : T d 146 1 ls (.ref a :: st) h Q ↔ gF (h.2.2 a) 7 10 (fun v => T d 146 4 ls (v :: st) h Q) := T_getfieldR m146 c146_1 f8_95
theorem c146_4 : cod 146 4 = some (.bipush 6, 2) := cod_of b146 dX8_readsGuest_4
theorem t146_4 {d : Nat} {h : Hp} {Q : Pst} {ls : List Value} {st : List Value} : T d 146 4 ls st h Q ↔ T d 146 6 ls (.int 6 :: st) h Q := T_bipushV c146_4 (by decide)
theorem c146_6 : cod 146 6 = some (.if_icmp .ne 5, 3) := cod_of b146 dX8_readsGuest_6
theorem t146_6 {d : Nat} {h : Hp} {Q : Pst} {x y : Int32} {ls : List Value} {st : List Value} : T d 146 6 ls (.int y :: .int x :: st) h Q ↔ (if ¬ x = y then T d 146 11 ls st h Q else T d 146 9 ls st h Q) := T_icmp_ne c146_6 (by decide)
theorem c146_9 : cod 146 9 = some (.iconst 0, 1) := cod_of b146 dX8_readsGuest_9
theorem t146_9 {d : Nat} {h : Hp} {Q : Pst} {ls : List Value} {st : List Value} : T d 146 9 ls st h Q ↔ T d 146 10 ls (.int 0 :: st) h Q := T_iconstV c146_9 (by decide)
theorem c146_10 : cod 146 10 = some (.ireturn, 1) := cod_of b146 dX8_readsGuest_10
theorem t146_10 {d : Nat} {h : Hp} {Q : Pst} {x : Int32} {ls : List Value} : T d 146 10 ls [.int x] h Q ↔ (narrow .boolean (.int x) = .int x ∧ Q (some (.int x)) h) := T_zretR m146 c146_10 rfl
theorem c146_11 : cod 146 11 = some (.aload_n 0, 1) := cod_of b146 dX8_readsGuest_11
theorem t146_11 {d : Nat} {h : Hp} {Q : Pst} {l1 l2 : Value} {x : Nat} {st : List Value} : T d 146 11 [.ref x, l1, l2] st h Q ↔ T d 146 12 [.ref x, l1, l2] (.ref x :: st) h Q := T_aload_n c146_11 rfl
theorem c146_12 : cod 146 12 = some (.iconst 0, 1) := cod_of b146 dX8_readsGuest_12
theorem t146_12 {d : Nat} {h : Hp} {Q : Pst} {ls : List Value} {st : List Value} : T d 146 12 ls st h Q ↔ T d 146 13 ls (.int 0 :: st) h Q := T_iconstV c146_12 (by decide)
theorem c146_13 : cod 146 13 = some (.iconst 5, 1) := cod_of b146 dX8_readsGuest_13
theorem t146_13 {d : Nat} {h : Hp} {Q : Pst} {ls : List Value} {st : List Value} : T d 146 13 ls st h Q ↔ T d 146 14 ls (.int 5 :: st) h Q := T_iconstV c146_13 (by decide)
theorem c146_14 : cod 146 14 = some (.invokevirtual 87, 3) := cod_of b146 dX8_readsGuest_14
theorem t146_14 {d : Nat} {h : Hp} {Q : Pst} {a0 a1 : Int32} {a : Nat} {ls : List Value} (ho : isO (h.2.2 a) 7) : T (d + 1) 146 14 ls [.int a1, .int a0, .ref a] h Q ↔ T d 144 0 [.ref a, .int a0, .int a1, un] [] h (fun x h2 => T (d + 1) 146 17 ls (rl x []) h2 Q) := T_virtualR (as := [.int a0, .int a1]) (r := []) m146 m144 c146_14 k8_87  rfl (by decide) rfl (by simp [wrd, Value.category]) (by simp [stk, Value.category]) rfl (by decide +kernel) ho
theorem c146_17 : cod 146 17 = some (.istore_n 1, 1) := cod_of b146 dX8_readsGuest_17
theorem t146_17 {d : Nat} {h : Hp} {Q : Pst} {l0 l1 l2 : Value} {x : Int32} {st : List Value} : T d 146 17 [l0, l1, l2] (.int x :: st) h Q ↔ T d 146 18 [kil l0, .int x, l2] st h Q := T_istore_n c146_17 (Nat.le_of_ble_eq_true rfl)
theorem c146_18 : cod 146 18 = some (.iload_n 1, 1) := cod_of b146 dX8_readsGuest_18
theorem t146_18 {d : Nat} {h : Hp} {Q : Pst} {l0 l2 : Value} {x : Int32} {st : List Value} : T d 146 18 [l0, .int x, l2] st h Q ↔ T d 146 19 [l0, .int x, l2] (.int x :: st) h Q := T_iload_n c146_18 rfl
theorem c146_19 : cod 146 19 = some (.iconst (-1), 1) := cod_of b146 dX8_readsGuest_19
theorem t146_19 {d : Nat} {h : Hp} {Q : Pst} {ls : List Value} {st : List Value} : T d 146 19 ls st h Q ↔ T d 146 20 ls (.int (-1) :: st) h Q := T_iconstV c146_19 (by decide)
theorem c146_20 : cod 146 20 = some (.if_icmp .ne 7, 3) := cod_of b146 dX8_readsGuest_20
theorem t146_20 {d : Nat} {h : Hp} {Q : Pst} {x y : Int32} {ls : List Value} {st : List Value} : T d 146 20 ls (.int y :: .int x :: st) h Q ↔ (if ¬ x = y then T d 146 27 ls st h Q else T d 146 23 ls st h Q) := T_icmp_ne c146_20 (by decide)
theorem c146_23 : cod 146 23 = some (.iconst (-1), 1) := cod_of b146 dX8_readsGuest_23
theorem t146_23 {d : Nat} {h : Hp} {Q : Pst} {ls : List Value} {st : List Value} : T d 146 23 ls st h Q ↔ T d 146 24 ls (.int (-1) :: st) h Q := T_iconstV c146_23 (by decide)
theorem c146_24 : cod 146 24 = some (.goto 10, 3) := cod_of b146 dX8_readsGuest_24
theorem t146_24 {d : Nat} {h : Hp} {Q : Pst} {ls : List Value} {st : List Value} : T d 146 24 ls st h Q ↔ T d 146 34 ls st h Q := T_goto c146_24 (by decide)
theorem c146_34 : cod 146 34 = some (.istore_n 2, 1) := cod_of b146 dX8_readsGuest_34
theorem t146_34 {d : Nat} {h : Hp} {Q : Pst} {l0 l1 l2 : Value} {x : Int32} {st : List Value} : T d 146 34 [l0, l1, l2] (.int x :: st) h Q ↔ T d 146 35 [l0, kil l1, .int x] st h Q := T_istore_n c146_34 (Nat.le_of_ble_eq_true rfl)
theorem c146_35 : cod 146 35 = some (.iload_n 2, 1) := cod_of b146 dX8_readsGuest_35
theorem t146_35 {d : Nat} {h : Hp} {Q : Pst} {l0 l1 : Value} {x : Int32} {st : List Value} : T d 146 35 [l0, l1, .int x] st h Q ↔ T d 146 36 [l0, l1, .int x] (.int x :: st) h Q := T_iload_n c146_35 rfl
theorem c146_36 : cod 146 36 = some (.iconst (-1), 1) := cod_of b146 dX8_readsGuest_36
theorem t146_36 {d : Nat} {h : Hp} {Q : Pst} {ls : List Value} {st : List Value} : T d 146 36 ls st h Q ↔ T d 146 37 ls (.int (-1) :: st) h Q := T_iconstV c146_36 (by decide)
theorem c146_37 : cod 146 37 = some (.if_icmp .ne 5, 3) := cod_of b146 dX8_readsGuest_37
theorem t146_37 {d : Nat} {h : Hp} {Q : Pst} {x y : Int32} {ls : List Value} {st : List Value} : T d 146 37 ls (.int y :: .int x :: st) h Q ↔ (if ¬ x = y then T d 146 42 ls st h Q else T d 146 40 ls st h Q) := T_icmp_ne c146_37 (by decide)
theorem c146_40 : cod 146 40 = some (.iconst 0, 1) := cod_of b146 dX8_readsGuest_40
theorem t146_40 {d : Nat} {h : Hp} {Q : Pst} {ls : List Value} {st : List Value} : T d 146 40 ls st h Q ↔ T d 146 41 ls (.int 0 :: st) h Q := T_iconstV c146_40 (by decide)
theorem c146_41 : cod 146 41 = some (.ireturn, 1) := cod_of b146 dX8_readsGuest_41
theorem t146_41 {d : Nat} {h : Hp} {Q : Pst} {x : Int32} {ls : List Value} : T d 146 41 ls [.int x] h Q ↔ (narrow .boolean (.int x) = .int x ∧ Q (some (.int x)) h) := T_zretR m146 c146_41 rfl
theorem c146_42 : cod 146 42 = some (.aload_n 0, 1) := cod_of b146 dX8_readsGuest_42
theorem t146_42 {d : Nat} {h : Hp} {Q : Pst} {l1 l2 : Value} {x : Nat} {st : List Value} : T d 146 42 [.ref x, l1, l2] st h Q ↔ T d 146 43 [.ref x, l1, l2] (.ref x :: st) h Q := T_aload_n c146_42 rfl
theorem c146_43 : cod 146 43 = some (.dup, 1) := cod_of b146 dX8_readsGuest_43
theorem t146_43 {d : Nat} {h : Hp} {Q : Pst} {x : Nat} {ls : List Value} {st : List Value} : T d 146 43 ls (.ref x :: st) h Q ↔ T d 146 44 ls (.ref x :: .ref x :: st) h Q := T_dup c146_43 rfl
theorem c146_44 : cod 146 44 = some (.getfield 95, 3) := cod_of b146 dX8_readsGuest_44
theorem t146_44 {d : Nat} {h : Hp} {Q : Pst} {a : Nat} {ls : List Value} {st : List Value} : T d 146 44 ls (.ref a :: st) h Q ↔ gF (h.2.2 a) 7 10 (fun v => T d 146 47 ls (v :: st) h Q) := T_getfieldR m146 c146_44 f8_95
theorem c146_47 : cod 146 47 = some (.iconst 1, 1) := cod_of b146 dX8_readsGuest_47
theorem t146_47 {d : Nat} {h : Hp} {Q : Pst} {ls : List Value} {st : List Value} : T d 146 47 ls st h Q ↔ T d 146 48 ls (.int 1 :: st) h Q := T_iconstV c146_47 (by decide)
theorem c146_48 : cod 146 48 = some (.iadd, 1) := cod_of b146 dX8_readsGuest_48
theorem t146_48 {d : Nat} {h : Hp} {Q : Pst} {x y : Int32} {ls : List Value} {st : List Value} : T d 146 48 ls (.int y :: .int x :: st) h Q ↔ T d 146 49 ls (.int (x + y) :: st) h Q := T_iadd c146_48
theorem c146_49 : cod 146 49 = some (.putfield 95, 3) := cod_of b146 dX8_readsGuest_49
theorem t146_49 {d : Nat} {h : Hp} {Q : Pst} {a : Nat} {x : Int32} {ls : List Value} {st : List Value} : T d 146 49 ls (.int x :: .ref a :: st) h Q ↔ pF (h.2.2 a) 7 10 (.int x) (fun cell => T d 146 52 ls st (hup h a cell) Q) := T_putfieldR m146 c146_49 f8_95 (by decide +kernel)
theorem c146_52 : cod 146 52 = some (.aload_n 0, 1) := cod_of b146 dX8_readsGuest_52
theorem t146_52 {d : Nat} {h : Hp} {Q : Pst} {l1 l2 : Value} {x : Nat} {st : List Value} : T d 146 52 [.ref x, l1, l2] st h Q ↔ T d 146 53 [.ref x, l1, l2] (.ref x :: st) h Q := T_aload_n c146_52 rfl
theorem c146_53 : cod 146 53 = some (.getfield 91, 3) := cod_of b146 dX8_readsGuest_53
theorem t146_53 {d : Nat} {h : Hp} {Q : Pst} {a : Nat} {ls : List Value} {st : List Value} : T d 146 53 ls (.ref a :: st) h Q ↔ gF (h.2.2 a) 7 12 (fun v => T d 146 56 ls (v :: st) h Q) := T_getfieldR m146 c146_53 f8_91
theorem c146_56 : cod 146 56 = some (.ifCond .eq 9, 3) := cod_of b146 dX8_readsGuest_56
theorem t146_56 {d : Nat} {h : Hp} {Q : Pst} {x : Int32} {ls : List Value} {st : List Value} : T d 146 56 ls (.int x :: st) h Q ↔ (if x = 0 then T d 146 65 ls st h Q else T d 146 59 ls st h Q) := T_if_eq c146_56 (by decide)
theorem c146_59 : cod 146 59 = some (.aload_n 0, 1) := cod_of b146 dX8_readsGuest_59
theorem t146_59 {d : Nat} {h : Hp} {Q : Pst} {l1 l2 : Value} {x : Nat} {st : List Value} : T d 146 59 [.ref x, l1, l2] st h Q ↔ T d 146 60 [.ref x, l1, l2] (.ref x :: st) h Q := T_aload_n c146_59 rfl
theorem c146_60 : cod 146 60 = some (.iload_n 1, 1) := cod_of b146 dX8_readsGuest_60
theorem t146_60 {d : Nat} {h : Hp} {Q : Pst} {l0 l2 : Value} {x : Int32} {st : List Value} : T d 146 60 [l0, .int x, l2] st h Q ↔ T d 146 61 [l0, .int x, l2] (.int x :: st) h Q := T_iload_n c146_60 rfl
theorem c146_61 : cod 146 61 = some (.iload_n 2, 1) := cod_of b146 dX8_readsGuest_61
theorem t146_61 {d : Nat} {h : Hp} {Q : Pst} {l0 l1 : Value} {x : Int32} {st : List Value} : T d 146 61 [l0, l1, .int x] st h Q ↔ T d 146 62 [l0, l1, .int x] (.int x :: st) h Q := T_iload_n c146_61 rfl
theorem c146_62 : cod 146 62 = some (.invokevirtual 57, 3) := cod_of b146 dX8_readsGuest_62
theorem t146_62 {d : Nat} {h : Hp} {Q : Pst} {a0 a1 : Int32} {a : Nat} {ls : List Value} (ho : isO (h.2.2 a) 7) : T (d + 1) 146 62 ls [.int a1, .int a0, .ref a] h Q ↔ T d 133 0 [.ref a, .int a0, .int a1, un] [] h (fun x h2 => T (d + 1) 146 65 ls (rl x []) h2 Q) := T_virtualR (as := [.int a0, .int a1]) (r := []) m146 m133 c146_62 k8_57  rfl (by decide) rfl (by simp [wrd, Value.category]) (by simp [stk, Value.category]) rfl (by decide +kernel) ho
theorem c146_65 : cod 146 65 = some (.iconst 1, 1) := cod_of b146 dX8_readsGuest_65
theorem t146_65 {d : Nat} {h : Hp} {Q : Pst} {ls : List Value} {st : List Value} : T d 146 65 ls st h Q ↔ T d 146 66 ls (.int 1 :: st) h Q := T_iconstV c146_65 (by decide)
theorem c146_66 : cod 146 66 = some (.ireturn, 1) := cod_of b146 dX8_readsGuest_66
theorem t146_66 {d : Nat} {h : Hp} {Q : Pst} {x : Int32} {ls : List Value} : T d 146 66 ls [.int x] h Q ↔ (narrow .boolean (.int x) = .int x ∧ Q (some (.int x)) h) := T_zretR m146 c146_66 rfl
theorem c146_27 : cod 146 27 = some (.aload_n 0, 1) := cod_of b146 dX8_readsGuest_27
theorem t146_27 {d : Nat} {h : Hp} {Q : Pst} {l1 l2 : Value} {x : Nat} {st : List Value} : T d 146 27 [.ref x, l1, l2] st h Q ↔ T d 146 28 [.ref x, l1, l2] (.ref x :: st) h Q := T_aload_n c146_27 rfl
theorem c146_28 : cod 146 28 = some (.iconst 1, 1) := cod_of b146 dX8_readsGuest_28
theorem t146_28 {d : Nat} {h : Hp} {Q : Pst} {ls : List Value} {st : List Value} : T d 146 28 ls st h Q ↔ T d 146 29 ls (.int 1 :: st) h Q := T_iconstV c146_28 (by decide)
theorem c146_29 : cod 146 29 = some (.bipush 30, 2) := cod_of b146 dX8_readsGuest_29
theorem t146_29 {d : Nat} {h : Hp} {Q : Pst} {ls : List Value} {st : List Value} : T d 146 29 ls st h Q ↔ T d 146 31 ls (.int 30 :: st) h Q := T_bipushV c146_29 (by decide)
theorem c146_31 : cod 146 31 = some (.invokevirtual 87, 3) := cod_of b146 dX8_readsGuest_31
theorem t146_31 {d : Nat} {h : Hp} {Q : Pst} {a0 a1 : Int32} {a : Nat} {ls : List Value} (ho : isO (h.2.2 a) 7) : T (d + 1) 146 31 ls [.int a1, .int a0, .ref a] h Q ↔ T d 144 0 [.ref a, .int a0, .int a1, un] [] h (fun x h2 => T (d + 1) 146 34 ls (rl x []) h2 Q) := T_virtualR (as := [.int a0, .int a1]) (r := []) m146 m144 c146_31 k8_87  rfl (by decide) rfl (by simp [wrd, Value.category]) (by simp [stk, Value.category]) rfl (by decide +kernel) ho
theorem b147 : (mR 147).2.2.1 = cX8_readsHouse := by rw [m147]
theorem c147_0 : cod 147 0 = some (.aload_n 0, 1) := cod_of b147 dX8_readsHouse_0
theorem t147_0 {d : Nat} {h : Hp} {Q : Pst} {l1 l2 : Value} {x : Nat} {st : List Value} : T d 147 0 [.ref x, l1, l2] st h Q ↔ T d 147 1 [.ref x, l1, l2] (.ref x :: st) h Q := T_aload_n c147_0 rfl
theorem c147_1 : cod 147 1 = some (.getfield 98, 3) := cod_of b147 dX8_readsHouse_1
theorem t147_1 {d : Nat} {h : Hp} {Q : Pst} {a : Nat} {ls : List Value} {st : List Value} : T d 147 1 ls (.ref a :: st) h Q ↔ gF (h.2.2 a) 7 11 (fun v => T d 147 4 ls (v :: st) h Q) := T_getfieldR m147 c147_1 f8_98
theorem c147_4 : cod 147 4 = some (.iconst 4, 1) := cod_of b147 dX8_readsHouse_4
theorem t147_4 {d : Nat} {h : Hp} {Q : Pst} {ls : List Value} {st : List Value} : T d 147 4 ls st h Q ↔ T d 147 5 ls (.int 4 :: st) h Q := T_iconstV c147_4 (by decide)
theorem c147_5 : cod 147 5 = some (.if_icmp .ne 5, 3) := cod_of b147 dX8_readsHouse_5
theorem t147_5 {d : Nat} {h : Hp} {Q : Pst} {x y : Int32} {ls : List Value} {st : List Value} : T d 147 5 ls (.int y :: .int x :: st) h Q ↔ (if ¬ x = y then T d 147 10 ls st h Q else T d 147 8 ls st h Q) := T_icmp_ne c147_5 (by decide)
theorem c147_8 : cod 147 8 = some (.iconst 0, 1) := cod_of b147 dX8_readsHouse_8
theorem t147_8 {d : Nat} {h : Hp} {Q : Pst} {ls : List Value} {st : List Value} : T d 147 8 ls st h Q ↔ T d 147 9 ls (.int 0 :: st) h Q := T_iconstV c147_8 (by decide)
theorem c147_9 : cod 147 9 = some (.ireturn, 1) := cod_of b147 dX8_readsHouse_9
theorem t147_9 {d : Nat} {h : Hp} {Q : Pst} {x : Int32} {ls : List Value} : T d 147 9 ls [.int x] h Q ↔ (narrow .boolean (.int x) = .int x ∧ Q (some (.int x)) h) := T_zretR m147 c147_9 rfl
theorem c147_10 : cod 147 10 = some (.aload_n 0, 1) := cod_of b147 dX8_readsHouse_10
theorem t147_10 {d : Nat} {h : Hp} {Q : Pst} {l1 l2 : Value} {x : Nat} {st : List Value} : T d 147 10 [.ref x, l1, l2] st h Q ↔ T d 147 11 [.ref x, l1, l2] (.ref x :: st) h Q := T_aload_n c147_10 rfl
theorem c147_11 : cod 147 11 = some (.iconst 0, 1) := cod_of b147 dX8_readsHouse_11
theorem t147_11 {d : Nat} {h : Hp} {Q : Pst} {ls : List Value} {st : List Value} : T d 147 11 ls st h Q ↔ T d 147 12 ls (.int 0 :: st) h Q := T_iconstV c147_11 (by decide)
theorem c147_12 : cod 147 12 = some (.iconst 5, 1) := cod_of b147 dX8_readsHouse_12
theorem t147_12 {d : Nat} {h : Hp} {Q : Pst} {ls : List Value} {st : List Value} : T d 147 12 ls st h Q ↔ T d 147 13 ls (.int 5 :: st) h Q := T_iconstV c147_12 (by decide)
theorem c147_13 : cod 147 13 = some (.invokevirtual 87, 3) := cod_of b147 dX8_readsHouse_13
theorem t147_13 {d : Nat} {h : Hp} {Q : Pst} {a0 a1 : Int32} {a : Nat} {ls : List Value} (ho : isO (h.2.2 a) 7) : T (d + 1) 147 13 ls [.int a1, .int a0, .ref a] h Q ↔ T d 144 0 [.ref a, .int a0, .int a1, un] [] h (fun x h2 => T (d + 1) 147 16 ls (rl x []) h2 Q) := T_virtualR (as := [.int a0, .int a1]) (r := []) m147 m144 c147_13 k8_87  rfl (by decide) rfl (by simp [wrd, Value.category]) (by simp [stk, Value.category]) rfl (by decide +kernel) ho
theorem c147_16 : cod 147 16 = some (.istore_n 1, 1) := cod_of b147 dX8_readsHouse_16
theorem t147_16 {d : Nat} {h : Hp} {Q : Pst} {l0 l1 l2 : Value} {x : Int32} {st : List Value} : T d 147 16 [l0, l1, l2] (.int x :: st) h Q ↔ T d 147 17 [kil l0, .int x, l2] st h Q := T_istore_n c147_16 (Nat.le_of_ble_eq_true rfl)
theorem c147_17 : cod 147 17 = some (.iload_n 1, 1) := cod_of b147 dX8_readsHouse_17
theorem t147_17 {d : Nat} {h : Hp} {Q : Pst} {l0 l2 : Value} {x : Int32} {st : List Value} : T d 147 17 [l0, .int x, l2] st h Q ↔ T d 147 18 [l0, .int x, l2] (.int x :: st) h Q := T_iload_n c147_17 rfl
theorem c147_18 : cod 147 18 = some (.iconst (-1), 1) := cod_of b147 dX8_readsHouse_18
theorem t147_18 {d : Nat} {h : Hp} {Q : Pst} {ls : List Value} {st : List Value} : T d 147 18 ls st h Q ↔ T d 147 19 ls (.int (-1) :: st) h Q := T_iconstV c147_18 (by decide)
theorem c147_19 : cod 147 19 = some (.if_icmp .ne 7, 3) := cod_of b147 dX8_readsHouse_19
theorem t147_19 {d : Nat} {h : Hp} {Q : Pst} {x y : Int32} {ls : List Value} {st : List Value} : T d 147 19 ls (.int y :: .int x :: st) h Q ↔ (if ¬ x = y then T d 147 26 ls st h Q else T d 147 22 ls st h Q) := T_icmp_ne c147_19 (by decide)
theorem c147_22 : cod 147 22 = some (.iconst (-1), 1) := cod_of b147 dX8_readsHouse_22
theorem t147_22 {d : Nat} {h : Hp} {Q : Pst} {ls : List Value} {st : List Value} : T d 147 22 ls st h Q ↔ T d 147 23 ls (.int (-1) :: st) h Q := T_iconstV c147_22 (by decide)
theorem c147_23 : cod 147 23 = some (.goto 10, 3) := cod_of b147 dX8_readsHouse_23
theorem t147_23 {d : Nat} {h : Hp} {Q : Pst} {ls : List Value} {st : List Value} : T d 147 23 ls st h Q ↔ T d 147 33 ls st h Q := T_goto c147_23 (by decide)
theorem c147_33 : cod 147 33 = some (.istore_n 2, 1) := cod_of b147 dX8_readsHouse_33
theorem t147_33 {d : Nat} {h : Hp} {Q : Pst} {l0 l1 l2 : Value} {x : Int32} {st : List Value} : T d 147 33 [l0, l1, l2] (.int x :: st) h Q ↔ T d 147 34 [l0, kil l1, .int x] st h Q := T_istore_n c147_33 (Nat.le_of_ble_eq_true rfl)
theorem c147_34 : cod 147 34 = some (.iload_n 2, 1) := cod_of b147 dX8_readsHouse_34
theorem t147_34 {d : Nat} {h : Hp} {Q : Pst} {l0 l1 : Value} {x : Int32} {st : List Value} : T d 147 34 [l0, l1, .int x] st h Q ↔ T d 147 35 [l0, l1, .int x] (.int x :: st) h Q := T_iload_n c147_34 rfl
theorem c147_35 : cod 147 35 = some (.iconst (-1), 1) := cod_of b147 dX8_readsHouse_35
theorem t147_35 {d : Nat} {h : Hp} {Q : Pst} {ls : List Value} {st : List Value} : T d 147 35 ls st h Q ↔ T d 147 36 ls (.int (-1) :: st) h Q := T_iconstV c147_35 (by decide)
theorem c147_36 : cod 147 36 = some (.if_icmp .ne 5, 3) := cod_of b147 dX8_readsHouse_36
theorem t147_36 {d : Nat} {h : Hp} {Q : Pst} {x y : Int32} {ls : List Value} {st : List Value} : T d 147 36 ls (.int y :: .int x :: st) h Q ↔ (if ¬ x = y then T d 147 41 ls st h Q else T d 147 39 ls st h Q) := T_icmp_ne c147_36 (by decide)
theorem c147_39 : cod 147 39 = some (.iconst 0, 1) := cod_of b147 dX8_readsHouse_39
theorem t147_39 {d : Nat} {h : Hp} {Q : Pst} {ls : List Value} {st : List Value} : T d 147 39 ls st h Q ↔ T d 147 40 ls (.int 0 :: st) h Q := T_iconstV c147_39 (by decide)
theorem c147_40 : cod 147 40 = some (.ireturn, 1) := cod_of b147 dX8_readsHouse_40
theorem t147_40 {d : Nat} {h : Hp} {Q : Pst} {x : Int32} {ls : List Value} : T d 147 40 ls [.int x] h Q ↔ (narrow .boolean (.int x) = .int x ∧ Q (some (.int x)) h) := T_zretR m147 c147_40 rfl
theorem c147_41 : cod 147 41 = some (.aload_n 0, 1) := cod_of b147 dX8_readsHouse_41
theorem t147_41 {d : Nat} {h : Hp} {Q : Pst} {l1 l2 : Value} {x : Nat} {st : List Value} : T d 147 41 [.ref x, l1, l2] st h Q ↔ T d 147 42 [.ref x, l1, l2] (.ref x :: st) h Q := T_aload_n c147_41 rfl
theorem c147_42 : cod 147 42 = some (.dup, 1) := cod_of b147 dX8_readsHouse_42
theorem t147_42 {d : Nat} {h : Hp} {Q : Pst} {x : Nat} {ls : List Value} {st : List Value} : T d 147 42 ls (.ref x :: st) h Q ↔ T d 147 43 ls (.ref x :: .ref x :: st) h Q := T_dup c147_42 rfl
theorem c147_43 : cod 147 43 = some (.getfield 98, 3) := cod_of b147 dX8_readsHouse_43
theorem t147_43 {d : Nat} {h : Hp} {Q : Pst} {a : Nat} {ls : List Value} {st : List Value} : T d 147 43 ls (.ref a :: st) h Q ↔ gF (h.2.2 a) 7 11 (fun v => T d 147 46 ls (v :: st) h Q) := T_getfieldR m147 c147_43 f8_98
theorem c147_46 : cod 147 46 = some (.iconst 1, 1) := cod_of b147 dX8_readsHouse_46
theorem t147_46 {d : Nat} {h : Hp} {Q : Pst} {ls : List Value} {st : List Value} : T d 147 46 ls st h Q ↔ T d 147 47 ls (.int 1 :: st) h Q := T_iconstV c147_46 (by decide)
theorem c147_47 : cod 147 47 = some (.iadd, 1) := cod_of b147 dX8_readsHouse_47
theorem t147_47 {d : Nat} {h : Hp} {Q : Pst} {x y : Int32} {ls : List Value} {st : List Value} : T d 147 47 ls (.int y :: .int x :: st) h Q ↔ T d 147 48 ls (.int (x + y) :: st) h Q := T_iadd c147_47
theorem c147_48 : cod 147 48 = some (.putfield 98, 3) := cod_of b147 dX8_readsHouse_48
theorem t147_48 {d : Nat} {h : Hp} {Q : Pst} {a : Nat} {x : Int32} {ls : List Value} {st : List Value} : T d 147 48 ls (.int x :: .ref a :: st) h Q ↔ pF (h.2.2 a) 7 11 (.int x) (fun cell => T d 147 51 ls st (hup h a cell) Q) := T_putfieldR m147 c147_48 f8_98 (by decide +kernel)
theorem c147_51 : cod 147 51 = some (.aload_n 0, 1) := cod_of b147 dX8_readsHouse_51
theorem t147_51 {d : Nat} {h : Hp} {Q : Pst} {l1 l2 : Value} {x : Nat} {st : List Value} : T d 147 51 [.ref x, l1, l2] st h Q ↔ T d 147 52 [.ref x, l1, l2] (.ref x :: st) h Q := T_aload_n c147_51 rfl
theorem c147_52 : cod 147 52 = some (.getfield 91, 3) := cod_of b147 dX8_readsHouse_52
theorem t147_52 {d : Nat} {h : Hp} {Q : Pst} {a : Nat} {ls : List Value} {st : List Value} : T d 147 52 ls (.ref a :: st) h Q ↔ gF (h.2.2 a) 7 12 (fun v => T d 147 55 ls (v :: st) h Q) := T_getfieldR m147 c147_52 f8_91
theorem c147_55 : cod 147 55 = some (.ifCond .eq 9, 3) := cod_of b147 dX8_readsHouse_55
theorem t147_55 {d : Nat} {h : Hp} {Q : Pst} {x : Int32} {ls : List Value} {st : List Value} : T d 147 55 ls (.int x :: st) h Q ↔ (if x = 0 then T d 147 64 ls st h Q else T d 147 58 ls st h Q) := T_if_eq c147_55 (by decide)
theorem c147_58 : cod 147 58 = some (.aload_n 0, 1) := cod_of b147 dX8_readsHouse_58
theorem t147_58 {d : Nat} {h : Hp} {Q : Pst} {l1 l2 : Value} {x : Nat} {st : List Value} : T d 147 58 [.ref x, l1, l2] st h Q ↔ T d 147 59 [.ref x, l1, l2] (.ref x :: st) h Q := T_aload_n c147_58 rfl
theorem c147_59 : cod 147 59 = some (.iload_n 1, 1) := cod_of b147 dX8_readsHouse_59
theorem t147_59 {d : Nat} {h : Hp} {Q : Pst} {l0 l2 : Value} {x : Int32} {st : List Value} : T d 147 59 [l0, .int x, l2] st h Q ↔ T d 147 60 [l0, .int x, l2] (.int x :: st) h Q := T_iload_n c147_59 rfl
theorem c147_60 : cod 147 60 = some (.iload_n 2, 1) := cod_of b147 dX8_readsHouse_60
theorem t147_60 {d : Nat} {h : Hp} {Q : Pst} {l0 l1 : Value} {x : Int32} {st : List Value} : T d 147 60 [l0, l1, .int x] st h Q ↔ T d 147 61 [l0, l1, .int x] (.int x :: st) h Q := T_iload_n c147_60 rfl
theorem c147_61 : cod 147 61 = some (.invokevirtual 61, 3) := cod_of b147 dX8_readsHouse_61
theorem t147_61 {d : Nat} {h : Hp} {Q : Pst} {a0 a1 : Int32} {a : Nat} {ls : List Value} (ho : isO (h.2.2 a) 7) : T (d + 1) 147 61 ls [.int a1, .int a0, .ref a] h Q ↔ T d 135 0 [.ref a, .int a0, .int a1, un] [] h (fun x h2 => T (d + 1) 147 64 ls (rl x []) h2 Q) := T_virtualR (as := [.int a0, .int a1]) (r := []) m147 m135 c147_61 k8_61  rfl (by decide) rfl (by simp [wrd, Value.category]) (by simp [stk, Value.category]) rfl (by decide +kernel) ho
theorem c147_64 : cod 147 64 = some (.iconst 1, 1) := cod_of b147 dX8_readsHouse_64
theorem t147_64 {d : Nat} {h : Hp} {Q : Pst} {ls : List Value} {st : List Value} : T d 147 64 ls st h Q ↔ T d 147 65 ls (.int 1 :: st) h Q := T_iconstV c147_64 (by decide)
theorem c147_65 : cod 147 65 = some (.ireturn, 1) := cod_of b147 dX8_readsHouse_65
theorem t147_65 {d : Nat} {h : Hp} {Q : Pst} {x : Int32} {ls : List Value} : T d 147 65 ls [.int x] h Q ↔ (narrow .boolean (.int x) = .int x ∧ Q (some (.int x)) h) := T_zretR m147 c147_65 rfl
theorem c147_26 : cod 147 26 = some (.aload_n 0, 1) := cod_of b147 dX8_readsHouse_26
theorem t147_26 {d : Nat} {h : Hp} {Q : Pst} {l1 l2 : Value} {x : Nat} {st : List Value} : T d 147 26 [.ref x, l1, l2] st h Q ↔ T d 147 27 [.ref x, l1, l2] (.ref x :: st) h Q := T_aload_n c147_26 rfl
theorem c147_27 : cod 147 27 = some (.iconst 1, 1) := cod_of b147 dX8_readsHouse_27
theorem t147_27 {d : Nat} {h : Hp} {Q : Pst} {ls : List Value} {st : List Value} : T d 147 27 ls st h Q ↔ T d 147 28 ls (.int 1 :: st) h Q := T_iconstV c147_27 (by decide)
theorem c147_28 : cod 147 28 = some (.bipush 30, 2) := cod_of b147 dX8_readsHouse_28
theorem t147_28 {d : Nat} {h : Hp} {Q : Pst} {ls : List Value} {st : List Value} : T d 147 28 ls st h Q ↔ T d 147 30 ls (.int 30 :: st) h Q := T_bipushV c147_28 (by decide)
theorem c147_30 : cod 147 30 = some (.invokevirtual 87, 3) := cod_of b147 dX8_readsHouse_30
theorem t147_30 {d : Nat} {h : Hp} {Q : Pst} {a0 a1 : Int32} {a : Nat} {ls : List Value} (ho : isO (h.2.2 a) 7) : T (d + 1) 147 30 ls [.int a1, .int a0, .ref a] h Q ↔ T d 144 0 [.ref a, .int a0, .int a1, un] [] h (fun x h2 => T (d + 1) 147 33 ls (rl x []) h2 Q) := T_virtualR (as := [.int a0, .int a1]) (r := []) m147 m144 c147_30 k8_87  rfl (by decide) rfl (by simp [wrd, Value.category]) (by simp [stk, Value.category]) rfl (by decide +kernel) ho
theorem b148 : (mR 148).2.2.1 = cX8_readsGoing := by rw [m148]
theorem c148_0 : cod 148 0 = some (.aload_n 0, 1) := cod_of b148 dX8_readsGoing_0
theorem t148_0 {d : Nat} {h : Hp} {Q : Pst} {l1 l2 l3 : Value} {x : Nat} {st : List Value} : T d 148 0 [.ref x, l1, l2, l3] st h Q ↔ T d 148 1 [.ref x, l1, l2, l3] (.ref x :: st) h Q := T_aload_n c148_0 rfl
theorem c148_1 : cod 148 1 = some (.iconst 0, 1) := cod_of b148 dX8_readsGoing_1
theorem t148_1 {d : Nat} {h : Hp} {Q : Pst} {ls : List Value} {st : List Value} : T d 148 1 ls st h Q ↔ T d 148 2 ls (.int 0 :: st) h Q := T_iconstV c148_1 (by decide)
theorem c148_2 : cod 148 2 = some (.aload_n 0, 1) := cod_of b148 dX8_readsGoing_2
theorem t148_2 {d : Nat} {h : Hp} {Q : Pst} {l1 l2 l3 : Value} {x : Nat} {st : List Value} : T d 148 2 [.ref x, l1, l2, l3] st h Q ↔ T d 148 3 [.ref x, l1, l2, l3] (.ref x :: st) h Q := T_aload_n c148_2 rfl
theorem c148_3 : cod 148 3 = some (.getfield 95, 3) := cod_of b148 dX8_readsGoing_3
theorem t148_3 {d : Nat} {h : Hp} {Q : Pst} {a : Nat} {ls : List Value} {st : List Value} : T d 148 3 ls (.ref a :: st) h Q ↔ gF (h.2.2 a) 7 10 (fun v => T d 148 6 ls (v :: st) h Q) := T_getfieldR m148 c148_3 f8_95
theorem c148_6 : cod 148 6 = some (.iconst 1, 1) := cod_of b148 dX8_readsGoing_6
theorem t148_6 {d : Nat} {h : Hp} {Q : Pst} {ls : List Value} {st : List Value} : T d 148 6 ls st h Q ↔ T d 148 7 ls (.int 1 :: st) h Q := T_iconstV c148_6 (by decide)
theorem c148_7 : cod 148 7 = some (.isub, 1) := cod_of b148 dX8_readsGoing_7
theorem t148_7 {d : Nat} {h : Hp} {Q : Pst} {x y : Int32} {ls : List Value} {st : List Value} : T d 148 7 ls (.int y :: .int x :: st) h Q ↔ T d 148 8 ls (.int (x - y) :: st) h Q := T_isub c148_7
theorem c148_8 : cod 148 8 = some (.invokevirtual 87, 3) := cod_of b148 dX8_readsGoing_8
theorem t148_8 {d : Nat} {h : Hp} {Q : Pst} {a0 a1 : Int32} {a : Nat} {ls : List Value} (ho : isO (h.2.2 a) 7) : T (d + 1) 148 8 ls [.int a1, .int a0, .ref a] h Q ↔ T d 144 0 [.ref a, .int a0, .int a1, un] [] h (fun x h2 => T (d + 1) 148 11 ls (rl x []) h2 Q) := T_virtualR (as := [.int a0, .int a1]) (r := []) m148 m144 c148_8 k8_87  rfl (by decide) rfl (by simp [wrd, Value.category]) (by simp [stk, Value.category]) rfl (by decide +kernel) ho
theorem c148_11 : cod 148 11 = some (.istore_n 2, 1) := cod_of b148 dX8_readsGoing_11
theorem t148_11 {d : Nat} {h : Hp} {Q : Pst} {l0 l1 l2 l3 : Value} {x : Int32} {st : List Value} : T d 148 11 [l0, l1, l2, l3] (.int x :: st) h Q ↔ T d 148 12 [l0, kil l1, .int x, l3] st h Q := T_istore_n c148_11 (Nat.le_of_ble_eq_true rfl)
theorem c148_12 : cod 148 12 = some (.iload_n 2, 1) := cod_of b148 dX8_readsGoing_12
theorem t148_12 {d : Nat} {h : Hp} {Q : Pst} {l0 l1 l3 : Value} {x : Int32} {st : List Value} : T d 148 12 [l0, l1, .int x, l3] st h Q ↔ T d 148 13 [l0, l1, .int x, l3] (.int x :: st) h Q := T_iload_n c148_12 rfl
theorem c148_13 : cod 148 13 = some (.iconst (-1), 1) := cod_of b148 dX8_readsGoing_13
theorem t148_13 {d : Nat} {h : Hp} {Q : Pst} {ls : List Value} {st : List Value} : T d 148 13 ls st h Q ↔ T d 148 14 ls (.int (-1) :: st) h Q := T_iconstV c148_13 (by decide)
theorem c148_14 : cod 148 14 = some (.if_icmp .ne 7, 3) := cod_of b148 dX8_readsGoing_14
theorem t148_14 {d : Nat} {h : Hp} {Q : Pst} {x y : Int32} {ls : List Value} {st : List Value} : T d 148 14 ls (.int y :: .int x :: st) h Q ↔ (if ¬ x = y then T d 148 21 ls st h Q else T d 148 17 ls st h Q) := T_icmp_ne c148_14 (by decide)
theorem c148_17 : cod 148 17 = some (.iconst (-1), 1) := cod_of b148 dX8_readsGoing_17
theorem t148_17 {d : Nat} {h : Hp} {Q : Pst} {ls : List Value} {st : List Value} : T d 148 17 ls st h Q ↔ T d 148 18 ls (.int (-1) :: st) h Q := T_iconstV c148_17 (by decide)
theorem c148_18 : cod 148 18 = some (.goto 22, 3) := cod_of b148 dX8_readsGoing_18
theorem t148_18 {d : Nat} {h : Hp} {Q : Pst} {ls : List Value} {st : List Value} : T d 148 18 ls st h Q ↔ T d 148 40 ls st h Q := T_goto c148_18 (by decide)
theorem c148_40 : cod 148 40 = some (.istore_n 3, 1) := cod_of b148 dX8_readsGoing_40
theorem t148_40 {d : Nat} {h : Hp} {Q : Pst} {l0 l1 l2 l3 : Value} {x : Int32} {st : List Value} : T d 148 40 [l0, l1, l2, l3] (.int x :: st) h Q ↔ T d 148 41 [l0, l1, kil l2, .int x] st h Q := T_istore_n c148_40 (Nat.le_of_ble_eq_true rfl)
theorem c148_41 : cod 148 41 = some (.iload_n 3, 1) := cod_of b148 dX8_readsGoing_41
theorem t148_41 {d : Nat} {h : Hp} {Q : Pst} {l0 l1 l2 : Value} {x : Int32} {st : List Value} : T d 148 41 [l0, l1, l2, .int x] st h Q ↔ T d 148 42 [l0, l1, l2, .int x] (.int x :: st) h Q := T_iload_n c148_41 rfl
theorem c148_42 : cod 148 42 = some (.iconst (-1), 1) := cod_of b148 dX8_readsGoing_42
theorem t148_42 {d : Nat} {h : Hp} {Q : Pst} {ls : List Value} {st : List Value} : T d 148 42 ls st h Q ↔ T d 148 43 ls (.int (-1) :: st) h Q := T_iconstV c148_42 (by decide)
theorem c148_43 : cod 148 43 = some (.if_icmp .eq 27, 3) := cod_of b148 dX8_readsGoing_43
theorem t148_43 {d : Nat} {h : Hp} {Q : Pst} {x y : Int32} {ls : List Value} {st : List Value} : T d 148 43 ls (.int y :: .int x :: st) h Q ↔ (if x = y then T d 148 70 ls st h Q else T d 148 46 ls st h Q) := T_icmp_eq c148_43 (by decide)
theorem c148_46 : cod 148 46 = some (.aload_n 0, 1) := cod_of b148 dX8_readsGoing_46
theorem t148_46 {d : Nat} {h : Hp} {Q : Pst} {l1 l2 l3 : Value} {x : Nat} {st : List Value} : T d 148 46 [.ref x, l1, l2, l3] st h Q ↔ T d 148 47 [.ref x, l1, l2, l3] (.ref x :: st) h Q := T_aload_n c148_46 rfl
theorem c148_47 : cod 148 47 = some (.getfield 91, 3) := cod_of b148 dX8_readsGoing_47
theorem t148_47 {d : Nat} {h : Hp} {Q : Pst} {a : Nat} {ls : List Value} {st : List Value} : T d 148 47 ls (.ref a :: st) h Q ↔ gF (h.2.2 a) 7 12 (fun v => T d 148 50 ls (v :: st) h Q) := T_getfieldR m148 c148_47 f8_91
theorem c148_50 : cod 148 50 = some (.ifCond .eq 20, 3) := cod_of b148 dX8_readsGoing_50
theorem t148_50 {d : Nat} {h : Hp} {Q : Pst} {x : Int32} {ls : List Value} {st : List Value} : T d 148 50 ls (.int x :: st) h Q ↔ (if x = 0 then T d 148 70 ls st h Q else T d 148 53 ls st h Q) := T_if_eq c148_50 (by decide)
theorem c148_53 : cod 148 53 = some (.aload_n 0, 1) := cod_of b148 dX8_readsGoing_53
theorem t148_53 {d : Nat} {h : Hp} {Q : Pst} {l1 l2 l3 : Value} {x : Nat} {st : List Value} : T d 148 53 [.ref x, l1, l2, l3] st h Q ↔ T d 148 54 [.ref x, l1, l2, l3] (.ref x :: st) h Q := T_aload_n c148_53 rfl
theorem c148_54 : cod 148 54 = some (.getfield 7, 3) := cod_of b148 dX8_readsGoing_54
theorem t148_54 {d : Nat} {h : Hp} {Q : Pst} {a : Nat} {ls : List Value} {st : List Value} : T d 148 54 ls (.ref a :: st) h Q ↔ gF (h.2.2 a) 7 0 (fun v => T d 148 57 ls (v :: st) h Q) := T_getfieldR m148 c148_54 f8_7
theorem c148_57 : cod 148 57 = some (.iconst 0, 1) := cod_of b148 dX8_readsGoing_57
theorem t148_57 {d : Nat} {h : Hp} {Q : Pst} {ls : List Value} {st : List Value} : T d 148 57 ls st h Q ↔ T d 148 58 ls (.int 0 :: st) h Q := T_iconstV c148_57 (by decide)
theorem c148_58 : cod 148 58 = some (.iload_n 2, 1) := cod_of b148 dX8_readsGoing_58
theorem t148_58 {d : Nat} {h : Hp} {Q : Pst} {l0 l1 l3 : Value} {x : Int32} {st : List Value} : T d 148 58 [l0, l1, .int x, l3] st h Q ↔ T d 148 59 [l0, l1, .int x, l3] (.int x :: st) h Q := T_iload_n c148_58 rfl
theorem c148_59 : cod 148 59 = some (.iadd, 1) := cod_of b148 dX8_readsGoing_59
theorem t148_59 {d : Nat} {h : Hp} {Q : Pst} {x y : Int32} {ls : List Value} {st : List Value} : T d 148 59 ls (.int y :: .int x :: st) h Q ↔ T d 148 60 ls (.int (x + y) :: st) h Q := T_iadd c148_59
theorem c148_60 : cod 148 60 = some (.iload_n 1, 1) := cod_of b148 dX8_readsGoing_60
theorem t148_60 {d : Nat} {h : Hp} {Q : Pst} {l0 l2 l3 : Value} {x : Int32} {st : List Value} : T d 148 60 [l0, .int x, l2, l3] st h Q ↔ T d 148 61 [l0, .int x, l2, l3] (.int x :: st) h Q := T_iload_n c148_60 rfl
theorem c148_61 : cod 148 61 = some (.ifCond .eq 7, 3) := cod_of b148 dX8_readsGoing_61
theorem t148_61 {d : Nat} {h : Hp} {Q : Pst} {x : Int32} {ls : List Value} {st : List Value} : T d 148 61 ls (.int x :: st) h Q ↔ (if x = 0 then T d 148 68 ls st h Q else T d 148 64 ls st h Q) := T_if_eq c148_61 (by decide)
theorem c148_64 : cod 148 64 = some (.iconst (-1), 1) := cod_of b148 dX8_readsGoing_64
theorem t148_64 {d : Nat} {h : Hp} {Q : Pst} {ls : List Value} {st : List Value} : T d 148 64 ls st h Q ↔ T d 148 65 ls (.int (-1) :: st) h Q := T_iconstV c148_64 (by decide)
theorem c148_65 : cod 148 65 = some (.goto 4, 3) := cod_of b148 dX8_readsGoing_65
theorem t148_65 {d : Nat} {h : Hp} {Q : Pst} {ls : List Value} {st : List Value} : T d 148 65 ls st h Q ↔ T d 148 69 ls st h Q := T_goto c148_65 (by decide)
theorem c148_69 : cod 148 69 = some (.iastore, 1) := cod_of b148 dX8_readsGoing_69
theorem t148_69 {d : Nat} {h : Hp} {Q : Pst} {a : Nat} {i x : Int32} {ls : List Value} {st : List Value} : T d 148 69 ls (.int x :: .int i :: .ref a :: st) h Q ↔ aS (h.2.2 a) i x (fun cell => T d 148 70 ls st (hup h a cell) Q) := T_iastore c148_69
theorem c148_68 : cod 148 68 = some (.iload_n 3, 1) := cod_of b148 dX8_readsGoing_68
theorem t148_68 {d : Nat} {h : Hp} {Q : Pst} {l0 l1 l2 : Value} {x : Int32} {st : List Value} : T d 148 68 [l0, l1, l2, .int x] st h Q ↔ T d 148 69 [l0, l1, l2, .int x] (.int x :: st) h Q := T_iload_n c148_68 rfl
theorem c148_70 : cod 148 70 = some (.iload_n 3, 1) := cod_of b148 dX8_readsGoing_70
theorem t148_70 {d : Nat} {h : Hp} {Q : Pst} {l0 l1 l2 : Value} {x : Int32} {st : List Value} : T d 148 70 [l0, l1, l2, .int x] st h Q ↔ T d 148 71 [l0, l1, l2, .int x] (.int x :: st) h Q := T_iload_n c148_70 rfl
theorem c148_71 : cod 148 71 = some (.iconst (-1), 1) := cod_of b148 dX8_readsGoing_71
theorem t148_71 {d : Nat} {h : Hp} {Q : Pst} {ls : List Value} {st : List Value} : T d 148 71 ls st h Q ↔ T d 148 72 ls (.int (-1) :: st) h Q := T_iconstV c148_71 (by decide)
theorem c148_72 : cod 148 72 = some (.if_icmp .eq 7, 3) := cod_of b148 dX8_readsGoing_72
theorem t148_72 {d : Nat} {h : Hp} {Q : Pst} {x y : Int32} {ls : List Value} {st : List Value} : T d 148 72 ls (.int y :: .int x :: st) h Q ↔ (if x = y then T d 148 79 ls st h Q else T d 148 75 ls st h Q) := T_icmp_eq c148_72 (by decide)
theorem c148_75 : cod 148 75 = some (.iconst 1, 1) := cod_of b148 dX8_readsGoing_75
theorem t148_75 {d : Nat} {h : Hp} {Q : Pst} {ls : List Value} {st : List Value} : T d 148 75 ls st h Q ↔ T d 148 76 ls (.int 1 :: st) h Q := T_iconstV c148_75 (by decide)
theorem c148_76 : cod 148 76 = some (.goto 4, 3) := cod_of b148 dX8_readsGoing_76
theorem t148_76 {d : Nat} {h : Hp} {Q : Pst} {ls : List Value} {st : List Value} : T d 148 76 ls st h Q ↔ T d 148 80 ls st h Q := T_goto c148_76 (by decide)
theorem c148_80 : cod 148 80 = some (.ireturn, 1) := cod_of b148 dX8_readsGoing_80
theorem t148_80 {d : Nat} {h : Hp} {Q : Pst} {x : Int32} {ls : List Value} : T d 148 80 ls [.int x] h Q ↔ (narrow .boolean (.int x) = .int x ∧ Q (some (.int x)) h) := T_zretR m148 c148_80 rfl
theorem c148_79 : cod 148 79 = some (.iconst 0, 1) := cod_of b148 dX8_readsGoing_79
theorem t148_79 {d : Nat} {h : Hp} {Q : Pst} {ls : List Value} {st : List Value} : T d 148 79 ls st h Q ↔ T d 148 80 ls (.int 0 :: st) h Q := T_iconstV c148_79 (by decide)
theorem c148_21 : cod 148 21 = some (.iload_n 1, 1) := cod_of b148 dX8_readsGoing_21
theorem t148_21 {d : Nat} {h : Hp} {Q : Pst} {l0 l2 l3 : Value} {x : Int32} {st : List Value} : T d 148 21 [l0, .int x, l2, l3] st h Q ↔ T d 148 22 [l0, .int x, l2, l3] (.int x :: st) h Q := T_iload_n c148_21 rfl
theorem c148_22 : cod 148 22 = some (.ifCond .eq 7, 3) := cod_of b148 dX8_readsGoing_22
theorem t148_22 {d : Nat} {h : Hp} {Q : Pst} {x : Int32} {ls : List Value} {st : List Value} : T d 148 22 ls (.int x :: st) h Q ↔ (if x = 0 then T d 148 29 ls st h Q else T d 148 25 ls st h Q) := T_if_eq c148_22 (by decide)
theorem c148_25 : cod 148 25 = some (.iconst 0, 1) := cod_of b148 dX8_readsGoing_25
theorem t148_25 {d : Nat} {h : Hp} {Q : Pst} {ls : List Value} {st : List Value} : T d 148 25 ls st h Q ↔ T d 148 26 ls (.int 0 :: st) h Q := T_iconstV c148_25 (by decide)
theorem c148_26 : cod 148 26 = some (.goto 14, 3) := cod_of b148 dX8_readsGoing_26
theorem t148_26 {d : Nat} {h : Hp} {Q : Pst} {ls : List Value} {st : List Value} : T d 148 26 ls st h Q ↔ T d 148 40 ls st h Q := T_goto c148_26 (by decide)
theorem c148_29 : cod 148 29 = some (.aload_n 0, 1) := cod_of b148 dX8_readsGoing_29
theorem t148_29 {d : Nat} {h : Hp} {Q : Pst} {l1 l2 l3 : Value} {x : Nat} {st : List Value} : T d 148 29 [.ref x, l1, l2, l3] st h Q ↔ T d 148 30 [.ref x, l1, l2, l3] (.ref x :: st) h Q := T_aload_n c148_29 rfl
theorem c148_30 : cod 148 30 = some (.iconst 0, 1) := cod_of b148 dX8_readsGoing_30
theorem t148_30 {d : Nat} {h : Hp} {Q : Pst} {ls : List Value} {st : List Value} : T d 148 30 ls st h Q ↔ T d 148 31 ls (.int 0 :: st) h Q := T_iconstV c148_30 (by decide)
theorem c148_31 : cod 148 31 = some (.aload_n 0, 1) := cod_of b148 dX8_readsGoing_31
theorem t148_31 {d : Nat} {h : Hp} {Q : Pst} {l1 l2 l3 : Value} {x : Nat} {st : List Value} : T d 148 31 [.ref x, l1, l2, l3] st h Q ↔ T d 148 32 [.ref x, l1, l2, l3] (.ref x :: st) h Q := T_aload_n c148_31 rfl
theorem c148_32 : cod 148 32 = some (.getfield 98, 3) := cod_of b148 dX8_readsGoing_32
theorem t148_32 {d : Nat} {h : Hp} {Q : Pst} {a : Nat} {ls : List Value} {st : List Value} : T d 148 32 ls (.ref a :: st) h Q ↔ gF (h.2.2 a) 7 11 (fun v => T d 148 35 ls (v :: st) h Q) := T_getfieldR m148 c148_32 f8_98
theorem c148_35 : cod 148 35 = some (.iconst 1, 1) := cod_of b148 dX8_readsGoing_35
theorem t148_35 {d : Nat} {h : Hp} {Q : Pst} {ls : List Value} {st : List Value} : T d 148 35 ls st h Q ↔ T d 148 36 ls (.int 1 :: st) h Q := T_iconstV c148_35 (by decide)
theorem c148_36 : cod 148 36 = some (.isub, 1) := cod_of b148 dX8_readsGoing_36
theorem t148_36 {d : Nat} {h : Hp} {Q : Pst} {x y : Int32} {ls : List Value} {st : List Value} : T d 148 36 ls (.int y :: .int x :: st) h Q ↔ T d 148 37 ls (.int (x - y) :: st) h Q := T_isub c148_36
theorem c148_37 : cod 148 37 = some (.invokevirtual 87, 3) := cod_of b148 dX8_readsGoing_37
theorem t148_37 {d : Nat} {h : Hp} {Q : Pst} {a0 a1 : Int32} {a : Nat} {ls : List Value} (ho : isO (h.2.2 a) 7) : T (d + 1) 148 37 ls [.int a1, .int a0, .ref a] h Q ↔ T d 144 0 [.ref a, .int a0, .int a1, un] [] h (fun x h2 => T (d + 1) 148 40 ls (rl x []) h2 Q) := T_virtualR (as := [.int a0, .int a1]) (r := []) m148 m144 c148_37 k8_87  rfl (by decide) rfl (by simp [wrd, Value.category]) (by simp [stk, Value.category]) rfl (by decide +kernel) ho
theorem b149 : (mR 149).2.2.1 = cX8_readsItem := by rw [m149]
theorem c149_0 : cod 149 0 = some (.iload_n 1, 1) := cod_of b149 dX8_readsItem_0
theorem t149_0 {d : Nat} {h : Hp} {Q : Pst} {l0 l2 : Value} {x : Int32} {st : List Value} : T d 149 0 [l0, .int x, l2] st h Q ↔ T d 149 1 [l0, .int x, l2] (.int x :: st) h Q := T_iload_n c149_0 rfl
theorem c149_1 : cod 149 1 = some (.tableswitch 62 0 4 #[35, 40, 45, 50, 56], 35) := cod_of b149 dX8_readsItem_1
theorem t149_1 {d : Nat} {h : Hp} {Q : Pst} {x : Int32} {ls : List Value} {st : List Value} : T d 149 1 ls (.int x :: st) h Q ↔ swT (fun t => T d 149 t ls st h Q) x.toInt 0 [36, 41, 46, 51, 57] 63 := T_tsw c149_1 (by decide) (by decide) (by decide)
theorem c149_63 : cod 149 63 = some (.aload_n 0, 1) := cod_of b149 dX8_readsItem_63
theorem t149_63 {d : Nat} {h : Hp} {Q : Pst} {l1 l2 : Value} {x : Nat} {st : List Value} : T d 149 63 [.ref x, l1, l2] st h Q ↔ T d 149 64 [.ref x, l1, l2] (.ref x :: st) h Q := T_aload_n c149_63 rfl
theorem c149_64 : cod 149 64 = some (.iconst 1, 1) := cod_of b149 dX8_readsItem_64
theorem t149_64 {d : Nat} {h : Hp} {Q : Pst} {ls : List Value} {st : List Value} : T d 149 64 ls st h Q ↔ T d 149 65 ls (.int 1 :: st) h Q := T_iconstV c149_64 (by decide)
theorem c149_65 : cod 149 65 = some (.bipush 99, 2) := cod_of b149 dX8_readsItem_65
theorem t149_65 {d : Nat} {h : Hp} {Q : Pst} {ls : List Value} {st : List Value} : T d 149 65 ls st h Q ↔ T d 149 67 ls (.int 99 :: st) h Q := T_bipushV c149_65 (by decide)
theorem c149_67 : cod 149 67 = some (.invokevirtual 87, 3) := cod_of b149 dX8_readsItem_67
theorem t149_67 {d : Nat} {h : Hp} {Q : Pst} {a0 a1 : Int32} {a : Nat} {ls : List Value} (ho : isO (h.2.2 a) 7) : T (d + 1) 149 67 ls [.int a1, .int a0, .ref a] h Q ↔ T d 144 0 [.ref a, .int a0, .int a1, un] [] h (fun x h2 => T (d + 1) 149 70 ls (rl x []) h2 Q) := T_virtualR (as := [.int a0, .int a1]) (r := []) m149 m144 c149_67 k8_87  rfl (by decide) rfl (by simp [wrd, Value.category]) (by simp [stk, Value.category]) rfl (by decide +kernel) ho
theorem c149_70 : cod 149 70 = some (.istore_n 2, 1) := cod_of b149 dX8_readsItem_70
theorem t149_70 {d : Nat} {h : Hp} {Q : Pst} {l0 l1 l2 : Value} {x : Int32} {st : List Value} : T d 149 70 [l0, l1, l2] (.int x :: st) h Q ↔ T d 149 71 [l0, kil l1, .int x] st h Q := T_istore_n c149_70 (Nat.le_of_ble_eq_true rfl)
theorem c149_71 : cod 149 71 = some (.aload_n 0, 1) := cod_of b149 dX8_readsItem_71
theorem t149_71 {d : Nat} {h : Hp} {Q : Pst} {l1 l2 : Value} {x : Nat} {st : List Value} : T d 149 71 [.ref x, l1, l2] st h Q ↔ T d 149 72 [.ref x, l1, l2] (.ref x :: st) h Q := T_aload_n c149_71 rfl
theorem c149_72 : cod 149 72 = some (.getfield 91, 3) := cod_of b149 dX8_readsItem_72
theorem t149_72 {d : Nat} {h : Hp} {Q : Pst} {a : Nat} {ls : List Value} {st : List Value} : T d 149 72 ls (.ref a :: st) h Q ↔ gF (h.2.2 a) 7 12 (fun v => T d 149 75 ls (v :: st) h Q) := T_getfieldR m149 c149_72 f8_91
theorem c149_75 : cod 149 75 = some (.ifCond .eq 13, 3) := cod_of b149 dX8_readsItem_75
theorem t149_75 {d : Nat} {h : Hp} {Q : Pst} {x : Int32} {ls : List Value} {st : List Value} : T d 149 75 ls (.int x :: st) h Q ↔ (if x = 0 then T d 149 88 ls st h Q else T d 149 78 ls st h Q) := T_if_eq c149_75 (by decide)
theorem c149_78 : cod 149 78 = some (.iload_n 2, 1) := cod_of b149 dX8_readsItem_78
theorem t149_78 {d : Nat} {h : Hp} {Q : Pst} {l0 l1 : Value} {x : Int32} {st : List Value} : T d 149 78 [l0, l1, .int x] st h Q ↔ T d 149 79 [l0, l1, .int x] (.int x :: st) h Q := T_iload_n c149_78 rfl
theorem c149_79 : cod 149 79 = some (.iconst (-1), 1) := cod_of b149 dX8_readsItem_79
theorem t149_79 {d : Nat} {h : Hp} {Q : Pst} {ls : List Value} {st : List Value} : T d 149 79 ls st h Q ↔ T d 149 80 ls (.int (-1) :: st) h Q := T_iconstV c149_79 (by decide)
theorem c149_80 : cod 149 80 = some (.if_icmp .eq 8, 3) := cod_of b149 dX8_readsItem_80
theorem t149_80 {d : Nat} {h : Hp} {Q : Pst} {x y : Int32} {ls : List Value} {st : List Value} : T d 149 80 ls (.int y :: .int x :: st) h Q ↔ (if x = y then T d 149 88 ls st h Q else T d 149 83 ls st h Q) := T_icmp_eq c149_80 (by decide)
theorem c149_83 : cod 149 83 = some (.aload_n 0, 1) := cod_of b149 dX8_readsItem_83
theorem t149_83 {d : Nat} {h : Hp} {Q : Pst} {l1 l2 : Value} {x : Nat} {st : List Value} : T d 149 83 [.ref x, l1, l2] st h Q ↔ T d 149 84 [.ref x, l1, l2] (.ref x :: st) h Q := T_aload_n c149_83 rfl
theorem c149_84 : cod 149 84 = some (.iload_n 2, 1) := cod_of b149 dX8_readsItem_84
theorem t149_84 {d : Nat} {h : Hp} {Q : Pst} {l0 l1 : Value} {x : Int32} {st : List Value} : T d 149 84 [l0, l1, .int x] st h Q ↔ T d 149 85 [l0, l1, .int x] (.int x :: st) h Q := T_iload_n c149_84 rfl
theorem c149_85 : cod 149 85 = some (.invokevirtual 115, 3) := cod_of b149 dX8_readsItem_85
theorem t149_85 {d : Nat} {h : Hp} {Q : Pst} {a0 : Int32} {a : Nat} {ls : List Value} (ho : isO (h.2.2 a) 7) : T (d + 1) 149 85 ls [.int a0, .ref a] h Q ↔ T d 160 0 [.ref a, .int a0, un] [] h (fun x h2 => T (d + 1) 149 88 ls (rl x []) h2 Q) := T_virtualR (as := [.int a0]) (r := []) m149 m160 c149_85 k8_115  rfl (by decide) rfl (by simp [wrd, Value.category]) (by simp [stk, Value.category]) rfl (by decide +kernel) ho
theorem c149_88 : cod 149 88 = some (.iload_n 2, 1) := cod_of b149 dX8_readsItem_88
theorem t149_88 {d : Nat} {h : Hp} {Q : Pst} {l0 l1 : Value} {x : Int32} {st : List Value} : T d 149 88 [l0, l1, .int x] st h Q ↔ T d 149 89 [l0, l1, .int x] (.int x :: st) h Q := T_iload_n c149_88 rfl
theorem c149_89 : cod 149 89 = some (.iconst (-1), 1) := cod_of b149 dX8_readsItem_89
theorem t149_89 {d : Nat} {h : Hp} {Q : Pst} {ls : List Value} {st : List Value} : T d 149 89 ls st h Q ↔ T d 149 90 ls (.int (-1) :: st) h Q := T_iconstV c149_89 (by decide)
theorem c149_90 : cod 149 90 = some (.if_icmp .eq 7, 3) := cod_of b149 dX8_readsItem_90
theorem t149_90 {d : Nat} {h : Hp} {Q : Pst} {x y : Int32} {ls : List Value} {st : List Value} : T d 149 90 ls (.int y :: .int x :: st) h Q ↔ (if x = y then T d 149 97 ls st h Q else T d 149 93 ls st h Q) := T_icmp_eq c149_90 (by decide)
theorem c149_93 : cod 149 93 = some (.iconst 1, 1) := cod_of b149 dX8_readsItem_93
theorem t149_93 {d : Nat} {h : Hp} {Q : Pst} {ls : List Value} {st : List Value} : T d 149 93 ls st h Q ↔ T d 149 94 ls (.int 1 :: st) h Q := T_iconstV c149_93 (by decide)
theorem c149_94 : cod 149 94 = some (.goto 4, 3) := cod_of b149 dX8_readsItem_94
theorem t149_94 {d : Nat} {h : Hp} {Q : Pst} {ls : List Value} {st : List Value} : T d 149 94 ls st h Q ↔ T d 149 98 ls st h Q := T_goto c149_94 (by decide)
theorem c149_98 : cod 149 98 = some (.ireturn, 1) := cod_of b149 dX8_readsItem_98
theorem t149_98 {d : Nat} {h : Hp} {Q : Pst} {x : Int32} {ls : List Value} : T d 149 98 ls [.int x] h Q ↔ (narrow .boolean (.int x) = .int x ∧ Q (some (.int x)) h) := T_zretR m149 c149_98 rfl
theorem c149_97 : cod 149 97 = some (.iconst 0, 1) := cod_of b149 dX8_readsItem_97
theorem t149_97 {d : Nat} {h : Hp} {Q : Pst} {ls : List Value} {st : List Value} : T d 149 97 ls st h Q ↔ T d 149 98 ls (.int 0 :: st) h Q := T_iconstV c149_97 (by decide)
theorem c149_57 : cod 149 57 = some (.aload_n 0, 1) := cod_of b149 dX8_readsItem_57
theorem t149_57 {d : Nat} {h : Hp} {Q : Pst} {l1 l2 : Value} {x : Nat} {st : List Value} : T d 149 57 [.ref x, l1, l2] st h Q ↔ T d 149 58 [.ref x, l1, l2] (.ref x :: st) h Q := T_aload_n c149_57 rfl
theorem c149_58 : cod 149 58 = some (.iconst 1, 1) := cod_of b149 dX8_readsItem_58
theorem t149_58 {d : Nat} {h : Hp} {Q : Pst} {ls : List Value} {st : List Value} : T d 149 58 ls st h Q ↔ T d 149 59 ls (.int 1 :: st) h Q := T_iconstV c149_58 (by decide)
theorem c149_59 : cod 149 59 = some (.invokevirtual 111, 3) := cod_of b149 dX8_readsItem_59
theorem t149_59 {d : Nat} {h : Hp} {Q : Pst} {a0 : Int32} {a : Nat} {ls : List Value} (ho : isO (h.2.2 a) 7) : T (d + 1) 149 59 ls [.int a0, .ref a] h Q ↔ T d 148 0 [.ref a, .int a0, un, un] [] h (fun x h2 => T (d + 1) 149 62 ls (rl x []) h2 Q) := T_virtualR (as := [.int a0]) (r := []) m149 m148 c149_59 k8_111  rfl (by decide) rfl (by simp [wrd, Value.category]) (by simp [stk, Value.category]) rfl (by decide +kernel) ho
theorem c149_62 : cod 149 62 = some (.ireturn, 1) := cod_of b149 dX8_readsItem_62
theorem t149_62 {d : Nat} {h : Hp} {Q : Pst} {x : Int32} {ls : List Value} : T d 149 62 ls [.int x] h Q ↔ (narrow .boolean (.int x) = .int x ∧ Q (some (.int x)) h) := T_zretR m149 c149_62 rfl
theorem c149_51 : cod 149 51 = some (.aload_n 0, 1) := cod_of b149 dX8_readsItem_51
theorem t149_51 {d : Nat} {h : Hp} {Q : Pst} {l1 l2 : Value} {x : Nat} {st : List Value} : T d 149 51 [.ref x, l1, l2] st h Q ↔ T d 149 52 [.ref x, l1, l2] (.ref x :: st) h Q := T_aload_n c149_51 rfl
theorem c149_52 : cod 149 52 = some (.iconst 0, 1) := cod_of b149 dX8_readsItem_52
theorem t149_52 {d : Nat} {h : Hp} {Q : Pst} {ls : List Value} {st : List Value} : T d 149 52 ls st h Q ↔ T d 149 53 ls (.int 0 :: st) h Q := T_iconstV c149_52 (by decide)
theorem c149_53 : cod 149 53 = some (.invokevirtual 111, 3) := cod_of b149 dX8_readsItem_53
theorem t149_53 {d : Nat} {h : Hp} {Q : Pst} {a0 : Int32} {a : Nat} {ls : List Value} (ho : isO (h.2.2 a) 7) : T (d + 1) 149 53 ls [.int a0, .ref a] h Q ↔ T d 148 0 [.ref a, .int a0, un, un] [] h (fun x h2 => T (d + 1) 149 56 ls (rl x []) h2 Q) := T_virtualR (as := [.int a0]) (r := []) m149 m148 c149_53 k8_111  rfl (by decide) rfl (by simp [wrd, Value.category]) (by simp [stk, Value.category]) rfl (by decide +kernel) ho
theorem c149_56 : cod 149 56 = some (.ireturn, 1) := cod_of b149 dX8_readsItem_56
theorem t149_56 {d : Nat} {h : Hp} {Q : Pst} {x : Int32} {ls : List Value} : T d 149 56 ls [.int x] h Q ↔ (narrow .boolean (.int x) = .int x ∧ Q (some (.int x)) h) := T_zretR m149 c149_56 rfl
theorem c149_46 : cod 149 46 = some (.aload_n 0, 1) := cod_of b149 dX8_readsItem_46
theorem t149_46 {d : Nat} {h : Hp} {Q : Pst} {l1 l2 : Value} {x : Nat} {st : List Value} : T d 149 46 [.ref x, l1, l2] st h Q ↔ T d 149 47 [.ref x, l1, l2] (.ref x :: st) h Q := T_aload_n c149_46 rfl
theorem c149_47 : cod 149 47 = some (.invokevirtual 108, 3) := cod_of b149 dX8_readsItem_47
theorem t149_47 {d : Nat} {h : Hp} {Q : Pst} {a : Nat} {ls : List Value} (ho : isO (h.2.2 a) 7) : T (d + 1) 149 47 ls [.ref a] h Q ↔ T d 147 0 [.ref a, un, un] [] h (fun x h2 => T (d + 1) 149 50 ls (rl x []) h2 Q) := T_virtualR (as := []) (r := []) m149 m147 c149_47 k8_108  rfl (by decide) rfl (by simp [wrd, Value.category]) (by simp [stk, Value.category]) rfl (by decide +kernel) ho
theorem c149_50 : cod 149 50 = some (.ireturn, 1) := cod_of b149 dX8_readsItem_50
theorem t149_50 {d : Nat} {h : Hp} {Q : Pst} {x : Int32} {ls : List Value} : T d 149 50 ls [.int x] h Q ↔ (narrow .boolean (.int x) = .int x ∧ Q (some (.int x)) h) := T_zretR m149 c149_50 rfl
theorem c149_41 : cod 149 41 = some (.aload_n 0, 1) := cod_of b149 dX8_readsItem_41
theorem t149_41 {d : Nat} {h : Hp} {Q : Pst} {l1 l2 : Value} {x : Nat} {st : List Value} : T d 149 41 [.ref x, l1, l2] st h Q ↔ T d 149 42 [.ref x, l1, l2] (.ref x :: st) h Q := T_aload_n c149_41 rfl
theorem c149_42 : cod 149 42 = some (.invokevirtual 105, 3) := cod_of b149 dX8_readsItem_42
theorem t149_42 {d : Nat} {h : Hp} {Q : Pst} {a : Nat} {ls : List Value} (ho : isO (h.2.2 a) 7) : T (d + 1) 149 42 ls [.ref a] h Q ↔ T d 146 0 [.ref a, un, un] [] h (fun x h2 => T (d + 1) 149 45 ls (rl x []) h2 Q) := T_virtualR (as := []) (r := []) m149 m146 c149_42 k8_105  rfl (by decide) rfl (by simp [wrd, Value.category]) (by simp [stk, Value.category]) rfl (by decide +kernel) ho
theorem c149_45 : cod 149 45 = some (.ireturn, 1) := cod_of b149 dX8_readsItem_45
theorem t149_45 {d : Nat} {h : Hp} {Q : Pst} {x : Int32} {ls : List Value} : T d 149 45 ls [.int x] h Q ↔ (narrow .boolean (.int x) = .int x ∧ Q (some (.int x)) h) := T_zretR m149 c149_45 rfl
theorem c149_36 : cod 149 36 = some (.aload_n 0, 1) := cod_of b149 dX8_readsItem_36
theorem t149_36 {d : Nat} {h : Hp} {Q : Pst} {l1 l2 : Value} {x : Nat} {st : List Value} : T d 149 36 [.ref x, l1, l2] st h Q ↔ T d 149 37 [.ref x, l1, l2] (.ref x :: st) h Q := T_aload_n c149_36 rfl
theorem c149_37 : cod 149 37 = some (.invokevirtual 101, 3) := cod_of b149 dX8_readsItem_37
theorem t149_37 {d : Nat} {h : Hp} {Q : Pst} {a : Nat} {ls : List Value} (ho : isO (h.2.2 a) 7) : T (d + 1) 149 37 ls [.ref a] h Q ↔ T d 145 0 [.ref a, un] [] h (fun x h2 => T (d + 1) 149 40 ls (rl x []) h2 Q) := T_virtualR (as := []) (r := []) m149 m145 c149_37 k8_101  rfl (by decide) rfl (by simp [wrd, Value.category]) (by simp [stk, Value.category]) rfl (by decide +kernel) ho
theorem c149_40 : cod 149 40 = some (.ireturn, 1) := cod_of b149 dX8_readsItem_40
theorem t149_40 {d : Nat} {h : Hp} {Q : Pst} {x : Int32} {ls : List Value} : T d 149 40 ls [.int x] h Q ↔ (narrow .boolean (.int x) = .int x ∧ Q (some (.int x)) h) := T_zretR m149 c149_40 rfl
theorem b150 : (mR 150).2.2.1 = cX8_readItems := by rw [m150]
theorem c150_0 : cod 150 0 = some (.aload_n 0, 1) := cod_of b150 dX8_readItems_0
theorem t150_0 {d : Nat} {h : Hp} {Q : Pst} {l1 l2 l3 : Value} {x : Nat} {st : List Value} : T d 150 0 [.ref x, l1, l2, l3] st h Q ↔ T d 150 1 [.ref x, l1, l2, l3] (.ref x :: st) h Q := T_aload_n c150_0 rfl
theorem c150_1 : cod 150 1 = some (.iload_n 1, 1) := cod_of b150 dX8_readItems_1
theorem t150_1 {d : Nat} {h : Hp} {Q : Pst} {l0 l2 l3 : Value} {x : Int32} {st : List Value} : T d 150 1 [l0, .int x, l2, l3] st h Q ↔ T d 150 2 [l0, .int x, l2, l3] (.int x :: st) h Q := T_iload_n c150_1 rfl
theorem c150_2 : cod 150 2 = some (.putfield 91, 3) := cod_of b150 dX8_readItems_2
theorem t150_2 {d : Nat} {h : Hp} {Q : Pst} {a : Nat} {x : Int32} {ls : List Value} {st : List Value} : T d 150 2 ls (.int x :: .ref a :: st) h Q ↔ pF (h.2.2 a) 7 12 (.int x) (fun cell => T d 150 5 ls st (hup h a cell) Q) := T_putfieldR m150 c150_2 f8_91 (by decide +kernel)
theorem c150_5 : cod 150 5 = some (.aload_n 0, 1) := cod_of b150 dX8_readItems_5
theorem t150_5 {d : Nat} {h : Hp} {Q : Pst} {l1 l2 l3 : Value} {x : Nat} {st : List Value} : T d 150 5 [.ref x, l1, l2, l3] st h Q ↔ T d 150 6 [.ref x, l1, l2, l3] (.ref x :: st) h Q := T_aload_n c150_5 rfl
theorem c150_6 : cod 150 6 = some (.iconst 0, 1) := cod_of b150 dX8_readItems_6
theorem t150_6 {d : Nat} {h : Hp} {Q : Pst} {ls : List Value} {st : List Value} : T d 150 6 ls st h Q ↔ T d 150 7 ls (.int 0 :: st) h Q := T_iconstV c150_6 (by decide)
theorem c150_7 : cod 150 7 = some (.putfield 68, 3) := cod_of b150 dX8_readItems_7
theorem t150_7 {d : Nat} {h : Hp} {Q : Pst} {a : Nat} {x : Int32} {ls : List Value} {st : List Value} : T d 150 7 ls (.int x :: .ref a :: st) h Q ↔ pF (h.2.2 a) 7 9 (.int x) (fun cell => T d 150 10 ls st (hup h a cell) Q) := T_putfieldR m150 c150_7 f8_68 (by decide +kernel)
theorem c150_10 : cod 150 10 = some (.aload_n 0, 1) := cod_of b150 dX8_readItems_10
theorem t150_10 {d : Nat} {h : Hp} {Q : Pst} {l1 l2 l3 : Value} {x : Nat} {st : List Value} : T d 150 10 [.ref x, l1, l2, l3] st h Q ↔ T d 150 11 [.ref x, l1, l2, l3] (.ref x :: st) h Q := T_aload_n c150_10 rfl
theorem c150_11 : cod 150 11 = some (.iconst 0, 1) := cod_of b150 dX8_readItems_11
theorem t150_11 {d : Nat} {h : Hp} {Q : Pst} {ls : List Value} {st : List Value} : T d 150 11 ls st h Q ↔ T d 150 12 ls (.int 0 :: st) h Q := T_iconstV c150_11 (by decide)
theorem c150_12 : cod 150 12 = some (.putfield 95, 3) := cod_of b150 dX8_readItems_12
theorem t150_12 {d : Nat} {h : Hp} {Q : Pst} {a : Nat} {x : Int32} {ls : List Value} {st : List Value} : T d 150 12 ls (.int x :: .ref a :: st) h Q ↔ pF (h.2.2 a) 7 10 (.int x) (fun cell => T d 150 15 ls st (hup h a cell) Q) := T_putfieldR m150 c150_12 f8_95 (by decide +kernel)
theorem c150_15 : cod 150 15 = some (.aload_n 0, 1) := cod_of b150 dX8_readItems_15
theorem t150_15 {d : Nat} {h : Hp} {Q : Pst} {l1 l2 l3 : Value} {x : Nat} {st : List Value} : T d 150 15 [.ref x, l1, l2, l3] st h Q ↔ T d 150 16 [.ref x, l1, l2, l3] (.ref x :: st) h Q := T_aload_n c150_15 rfl
theorem c150_16 : cod 150 16 = some (.iconst 0, 1) := cod_of b150 dX8_readItems_16
theorem t150_16 {d : Nat} {h : Hp} {Q : Pst} {ls : List Value} {st : List Value} : T d 150 16 ls st h Q ↔ T d 150 17 ls (.int 0 :: st) h Q := T_iconstV c150_16 (by decide)
theorem c150_17 : cod 150 17 = some (.putfield 98, 3) := cod_of b150 dX8_readItems_17
theorem t150_17 {d : Nat} {h : Hp} {Q : Pst} {a : Nat} {x : Int32} {ls : List Value} {st : List Value} : T d 150 17 ls (.int x :: .ref a :: st) h Q ↔ pF (h.2.2 a) 7 11 (.int x) (fun cell => T d 150 20 ls st (hup h a cell) Q) := T_putfieldR m150 c150_17 f8_98 (by decide +kernel)
theorem c150_20 : cod 150 20 = some (.iconst 0, 1) := cod_of b150 dX8_readItems_20
theorem t150_20 {d : Nat} {h : Hp} {Q : Pst} {ls : List Value} {st : List Value} : T d 150 20 ls st h Q ↔ T d 150 21 ls (.int 0 :: st) h Q := T_iconstV c150_20 (by decide)
theorem c150_21 : cod 150 21 = some (.istore_n 2, 1) := cod_of b150 dX8_readItems_21
theorem t150_21 {d : Nat} {h : Hp} {Q : Pst} {l0 l1 l2 l3 : Value} {x : Int32} {st : List Value} : T d 150 21 [l0, l1, l2, l3] (.int x :: st) h Q ↔ T d 150 22 [l0, kil l1, .int x, l3] st h Q := T_istore_n c150_21 (Nat.le_of_ble_eq_true rfl)
theorem c150_22 : cod 150 22 = some (.aload_n 0, 1) := cod_of b150 dX8_readItems_22
theorem t150_22 {d : Nat} {h : Hp} {Q : Pst} {l1 l2 l3 : Value} {x : Nat} {st : List Value} : T d 150 22 [.ref x, l1, l2, l3] st h Q ↔ T d 150 23 [.ref x, l1, l2, l3] (.ref x :: st) h Q := T_aload_n c150_22 rfl
theorem c150_23 : cod 150 23 = some (.invokevirtual 84, 3) := cod_of b150 dX8_readItems_23
theorem t150_23 {d : Nat} {h : Hp} {Q : Pst} {a : Nat} {ls : List Value} (ho : isO (h.2.2 a) 7) : T (d + 1) 150 23 ls [.ref a] h Q ↔ T d 141 0 [.ref a] [] h (fun x h2 => T (d + 1) 150 26 ls (rl x []) h2 Q) := T_virtualR (as := []) (r := []) m150 m141 c150_23 k8_84  rfl (by decide) rfl (by simp [wrd, Value.category]) (by simp [stk, Value.category]) rfl (by decide +kernel) ho
theorem c150_26 : cod 150 26 = some (.iload_n 2, 1) := cod_of b150 dX8_readItems_26
theorem t150_26 {d : Nat} {h : Hp} {Q : Pst} {l0 l1 l3 : Value} {x : Int32} {st : List Value} : T d 150 26 [l0, l1, .int x, l3] st h Q ↔ T d 150 27 [l0, l1, .int x, l3] (.int x :: st) h Q := T_iload_n c150_26 rfl
theorem c150_27 : cod 150 27 = some (.ifCond .eq 14, 3) := cod_of b150 dX8_readItems_27
theorem t150_27 {d : Nat} {h : Hp} {Q : Pst} {x : Int32} {ls : List Value} {st : List Value} : T d 150 27 ls (.int x :: st) h Q ↔ (if x = 0 then T d 150 41 ls st h Q else T d 150 30 ls st h Q) := T_if_eq c150_27 (by decide)
theorem c150_30 : cod 150 30 = some (.aload_n 0, 1) := cod_of b150 dX8_readItems_30
theorem t150_30 {d : Nat} {h : Hp} {Q : Pst} {l1 l2 l3 : Value} {x : Nat} {st : List Value} : T d 150 30 [.ref x, l1, l2, l3] st h Q ↔ T d 150 31 [.ref x, l1, l2, l3] (.ref x :: st) h Q := T_aload_n c150_30 rfl
theorem c150_31 : cod 150 31 = some (.getfield 71, 3) := cod_of b150 dX8_readItems_31
theorem t150_31 {d : Nat} {h : Hp} {Q : Pst} {a : Nat} {ls : List Value} {st : List Value} : T d 150 31 ls (.ref a :: st) h Q ↔ gF (h.2.2 a) 7 8 (fun v => T d 150 34 ls (v :: st) h Q) := T_getfieldR m150 c150_31 f8_71
theorem c150_34 : cod 150 34 = some (.aload_n 0, 1) := cod_of b150 dX8_readItems_34
theorem t150_34 {d : Nat} {h : Hp} {Q : Pst} {l1 l2 l3 : Value} {x : Nat} {st : List Value} : T d 150 34 [.ref x, l1, l2, l3] st h Q ↔ T d 150 35 [.ref x, l1, l2, l3] (.ref x :: st) h Q := T_aload_n c150_34 rfl
theorem c150_35 : cod 150 35 = some (.getfield 64, 3) := cod_of b150 dX8_readItems_35
theorem t150_35 {d : Nat} {h : Hp} {Q : Pst} {a : Nat} {ls : List Value} {st : List Value} : T d 150 35 ls (.ref a :: st) h Q ↔ gF (h.2.2 a) 7 6 (fun v => T d 150 38 ls (v :: st) h Q) := T_getfieldR m150 c150_35 f8_64
theorem c150_38 : cod 150 38 = some (.if_icmp .ge 85, 3) := cod_of b150 dX8_readItems_38
theorem t150_38 {d : Nat} {h : Hp} {Q : Pst} {x y : Int32} {ls : List Value} {st : List Value} : T d 150 38 ls (.int y :: .int x :: st) h Q ↔ (if y ≤ x then T d 150 123 ls st h Q else T d 150 41 ls st h Q) := T_icmp_ge c150_38 (by decide)
theorem c150_123 : cod 150 123 = some (.iload_n 2, 1) := cod_of b150 dX8_readItems_123
theorem t150_123 {d : Nat} {h : Hp} {Q : Pst} {l0 l1 l3 : Value} {x : Int32} {st : List Value} : T d 150 123 [l0, l1, .int x, l3] st h Q ↔ T d 150 124 [l0, l1, .int x, l3] (.int x :: st) h Q := T_iload_n c150_123 rfl
theorem c150_124 : cod 150 124 = some (.ireturn, 1) := cod_of b150 dX8_readItems_124
theorem t150_124 {d : Nat} {h : Hp} {Q : Pst} {x : Int32} {ls : List Value} : T d 150 124 ls [.int x] h Q ↔ Q (some (.int x)) h := T_iretR m150 c150_124 rfl
theorem c150_41 : cod 150 41 = some (.aload_n 0, 1) := cod_of b150 dX8_readItems_41
theorem t150_41 {d : Nat} {h : Hp} {Q : Pst} {l1 l2 l3 : Value} {x : Nat} {st : List Value} : T d 150 41 [.ref x, l1, l2, l3] st h Q ↔ T d 150 42 [.ref x, l1, l2, l3] (.ref x :: st) h Q := T_aload_n c150_41 rfl
theorem c150_42 : cod 150 42 = some (.invokevirtual 118, 3) := cod_of b150 dX8_readItems_42
theorem t150_42 {d : Nat} {h : Hp} {Q : Pst} {a : Nat} {ls : List Value} (ho : isO (h.2.2 a) 7) : T (d + 1) 150 42 ls [.ref a] h Q ↔ T d 143 0 [.ref a, un] [] h (fun x h2 => T (d + 1) 150 45 ls (rl x []) h2 Q) := T_virtualR (as := []) (r := []) m150 m143 c150_42 k8_118  rfl (by decide) rfl (by simp [wrd, Value.category]) (by simp [stk, Value.category]) rfl (by decide +kernel) ho
theorem c150_45 : cod 150 45 = some (.istore_n 3, 1) := cod_of b150 dX8_readItems_45
theorem t150_45 {d : Nat} {h : Hp} {Q : Pst} {l0 l1 l2 l3 : Value} {x : Int32} {st : List Value} : T d 150 45 [l0, l1, l2, l3] (.int x :: st) h Q ↔ T d 150 46 [l0, l1, kil l2, .int x] st h Q := T_istore_n c150_45 (Nat.le_of_ble_eq_true rfl)
theorem c150_46 : cod 150 46 = some (.iload_n 3, 1) := cod_of b150 dX8_readItems_46
theorem t150_46 {d : Nat} {h : Hp} {Q : Pst} {l0 l1 l2 : Value} {x : Int32} {st : List Value} : T d 150 46 [l0, l1, l2, .int x] st h Q ↔ T d 150 47 [l0, l1, l2, .int x] (.int x :: st) h Q := T_iload_n c150_46 rfl
theorem c150_47 : cod 150 47 = some (.iconst (-1), 1) := cod_of b150 dX8_readItems_47
theorem t150_47 {d : Nat} {h : Hp} {Q : Pst} {ls : List Value} {st : List Value} : T d 150 47 ls st h Q ↔ T d 150 48 ls (.int (-1) :: st) h Q := T_iconstV c150_47 (by decide)
theorem c150_48 : cod 150 48 = some (.if_icmp .eq 32, 3) := cod_of b150 dX8_readItems_48
theorem t150_48 {d : Nat} {h : Hp} {Q : Pst} {x y : Int32} {ls : List Value} {st : List Value} : T d 150 48 ls (.int y :: .int x :: st) h Q ↔ (if x = y then T d 150 80 ls st h Q else T d 150 51 ls st h Q) := T_icmp_eq c150_48 (by decide)
theorem c150_51 : cod 150 51 = some (.iload_n 3, 1) := cod_of b150 dX8_readItems_51
theorem t150_51 {d : Nat} {h : Hp} {Q : Pst} {l0 l1 l2 : Value} {x : Int32} {st : List Value} : T d 150 51 [l0, l1, l2, .int x] st h Q ↔ T d 150 52 [l0, l1, l2, .int x] (.int x :: st) h Q := T_iload_n c150_51 rfl
theorem c150_52 : cod 150 52 = some (.ifCond .ne 7, 3) := cod_of b150 dX8_readItems_52
theorem t150_52 {d : Nat} {h : Hp} {Q : Pst} {x : Int32} {ls : List Value} {st : List Value} : T d 150 52 ls (.int x :: st) h Q ↔ (if ¬ x = 0 then T d 150 59 ls st h Q else T d 150 55 ls st h Q) := T_if_ne c150_52 (by decide)
theorem c150_55 : cod 150 55 = some (.iconst 1, 1) := cod_of b150 dX8_readItems_55
theorem t150_55 {d : Nat} {h : Hp} {Q : Pst} {ls : List Value} {st : List Value} : T d 150 55 ls st h Q ↔ T d 150 56 ls (.int 1 :: st) h Q := T_iconstV c150_55 (by decide)
theorem c150_56 : cod 150 56 = some (.goto 4, 3) := cod_of b150 dX8_readItems_56
theorem t150_56 {d : Nat} {h : Hp} {Q : Pst} {ls : List Value} {st : List Value} : T d 150 56 ls st h Q ↔ T d 150 60 ls st h Q := T_goto c150_56 (by decide)
theorem c150_60 : cod 150 60 = some (.iload_n 2, 1) := cod_of b150 dX8_readItems_60
theorem t150_60 {d : Nat} {h : Hp} {Q : Pst} {l0 l1 l3 : Value} {x : Int32} {st : List Value} : T d 150 60 [l0, l1, .int x, l3] st h Q ↔ T d 150 61 [l0, l1, .int x, l3] (.int x :: st) h Q := T_iload_n c150_60 rfl
theorem c150_61 : cod 150 61 = some (.ifCond .ne 7, 3) := cod_of b150 dX8_readItems_61
theorem t150_61 {d : Nat} {h : Hp} {Q : Pst} {x : Int32} {ls : List Value} {st : List Value} : T d 150 61 ls (.int x :: st) h Q ↔ (if ¬ x = 0 then T d 150 68 ls st h Q else T d 150 64 ls st h Q) := T_if_ne c150_61 (by decide)
theorem c150_64 : cod 150 64 = some (.iconst 1, 1) := cod_of b150 dX8_readItems_64
theorem t150_64 {d : Nat} {h : Hp} {Q : Pst} {ls : List Value} {st : List Value} : T d 150 64 ls st h Q ↔ T d 150 65 ls (.int 1 :: st) h Q := T_iconstV c150_64 (by decide)
theorem c150_65 : cod 150 65 = some (.goto 4, 3) := cod_of b150 dX8_readItems_65
theorem t150_65 {d : Nat} {h : Hp} {Q : Pst} {ls : List Value} {st : List Value} : T d 150 65 ls st h Q ↔ T d 150 69 ls st h Q := T_goto c150_65 (by decide)
theorem c150_69 : cod 150 69 = some (.if_icmp .ne 11, 3) := cod_of b150 dX8_readItems_69
theorem t150_69 {d : Nat} {h : Hp} {Q : Pst} {x y : Int32} {ls : List Value} {st : List Value} : T d 150 69 ls (.int y :: .int x :: st) h Q ↔ (if ¬ x = y then T d 150 80 ls st h Q else T d 150 72 ls st h Q) := T_icmp_ne c150_69 (by decide)
theorem c150_72 : cod 150 72 = some (.aload_n 0, 1) := cod_of b150 dX8_readItems_72
theorem t150_72 {d : Nat} {h : Hp} {Q : Pst} {l1 l2 l3 : Value} {x : Nat} {st : List Value} : T d 150 72 [.ref x, l1, l2, l3] st h Q ↔ T d 150 73 [.ref x, l1, l2, l3] (.ref x :: st) h Q := T_aload_n c150_72 rfl
theorem c150_73 : cod 150 73 = some (.iload_n 3, 1) := cod_of b150 dX8_readItems_73
theorem t150_73 {d : Nat} {h : Hp} {Q : Pst} {l0 l1 l2 : Value} {x : Int32} {st : List Value} : T d 150 73 [l0, l1, l2, .int x] st h Q ↔ T d 150 74 [l0, l1, l2, .int x] (.int x :: st) h Q := T_iload_n c150_73 rfl
theorem c150_74 : cod 150 74 = some (.invokevirtual 122, 3) := cod_of b150 dX8_readItems_74
theorem t150_74 {d : Nat} {h : Hp} {Q : Pst} {a0 : Int32} {a : Nat} {ls : List Value} (ho : isO (h.2.2 a) 7) : T (d + 1) 150 74 ls [.int a0, .ref a] h Q ↔ T d 149 0 [.ref a, .int a0, un] [] h (fun x h2 => T (d + 1) 150 77 ls (rl x []) h2 Q) := T_virtualR (as := [.int a0]) (r := []) m150 m149 c150_74 k8_122  rfl (by decide) rfl (by simp [wrd, Value.category]) (by simp [stk, Value.category]) rfl (by decide +kernel) ho
theorem c150_77 : cod 150 77 = some (.ifCond .ne 5, 3) := cod_of b150 dX8_readItems_77
theorem t150_77 {d : Nat} {h : Hp} {Q : Pst} {x : Int32} {ls : List Value} {st : List Value} : T d 150 77 ls (.int x :: st) h Q ↔ (if ¬ x = 0 then T d 150 82 ls st h Q else T d 150 80 ls st h Q) := T_if_ne c150_77 (by decide)
theorem c150_82 : cod 150 82 = some (.aload_n 0, 1) := cod_of b150 dX8_readItems_82
theorem t150_82 {d : Nat} {h : Hp} {Q : Pst} {l1 l2 l3 : Value} {x : Nat} {st : List Value} : T d 150 82 [.ref x, l1, l2, l3] st h Q ↔ T d 150 83 [.ref x, l1, l2, l3] (.ref x :: st) h Q := T_aload_n c150_82 rfl
theorem c150_83 : cod 150 83 = some (.invokevirtual 84, 3) := cod_of b150 dX8_readItems_83
theorem t150_83 {d : Nat} {h : Hp} {Q : Pst} {a : Nat} {ls : List Value} (ho : isO (h.2.2 a) 7) : T (d + 1) 150 83 ls [.ref a] h Q ↔ T d 141 0 [.ref a] [] h (fun x h2 => T (d + 1) 150 86 ls (rl x []) h2 Q) := T_virtualR (as := []) (r := []) m150 m141 c150_83 k8_84  rfl (by decide) rfl (by simp [wrd, Value.category]) (by simp [stk, Value.category]) rfl (by decide +kernel) ho
theorem c150_86 : cod 150 86 = some (.aload_n 0, 1) := cod_of b150 dX8_readItems_86
theorem t150_86 {d : Nat} {h : Hp} {Q : Pst} {l1 l2 l3 : Value} {x : Nat} {st : List Value} : T d 150 86 [.ref x, l1, l2, l3] st h Q ↔ T d 150 87 [.ref x, l1, l2, l3] (.ref x :: st) h Q := T_aload_n c150_86 rfl
theorem c150_87 : cod 150 87 = some (.getfield 71, 3) := cod_of b150 dX8_readItems_87
theorem t150_87 {d : Nat} {h : Hp} {Q : Pst} {a : Nat} {ls : List Value} {st : List Value} : T d 150 87 ls (.ref a :: st) h Q ↔ gF (h.2.2 a) 7 8 (fun v => T d 150 90 ls (v :: st) h Q) := T_getfieldR m150 c150_87 f8_71
theorem c150_90 : cod 150 90 = some (.aload_n 0, 1) := cod_of b150 dX8_readItems_90
theorem t150_90 {d : Nat} {h : Hp} {Q : Pst} {l1 l2 l3 : Value} {x : Nat} {st : List Value} : T d 150 90 [.ref x, l1, l2, l3] st h Q ↔ T d 150 91 [.ref x, l1, l2, l3] (.ref x :: st) h Q := T_aload_n c150_90 rfl
theorem c150_91 : cod 150 91 = some (.getfield 64, 3) := cod_of b150 dX8_readItems_91
theorem t150_91 {d : Nat} {h : Hp} {Q : Pst} {a : Nat} {ls : List Value} {st : List Value} : T d 150 91 ls (.ref a :: st) h Q ↔ gF (h.2.2 a) 7 6 (fun v => T d 150 94 ls (v :: st) h Q) := T_getfieldR m150 c150_91 f8_64
theorem c150_94 : cod 150 94 = some (.if_icmp .eq 17, 3) := cod_of b150 dX8_readItems_94
theorem t150_94 {d : Nat} {h : Hp} {Q : Pst} {x y : Int32} {ls : List Value} {st : List Value} : T d 150 94 ls (.int y :: .int x :: st) h Q ↔ (if x = y then T d 150 111 ls st h Q else T d 150 97 ls st h Q) := T_icmp_eq c150_94 (by decide)
theorem c150_97 : cod 150 97 = some (.aload_n 0, 1) := cod_of b150 dX8_readItems_97
theorem t150_97 {d : Nat} {h : Hp} {Q : Pst} {l1 l2 l3 : Value} {x : Nat} {st : List Value} : T d 150 97 [.ref x, l1, l2, l3] st h Q ↔ T d 150 98 [.ref x, l1, l2, l3] (.ref x :: st) h Q := T_aload_n c150_97 rfl
theorem c150_98 : cod 150 98 = some (.getfield 24, 3) := cod_of b150 dX8_readItems_98
theorem t150_98 {d : Nat} {h : Hp} {Q : Pst} {a : Nat} {ls : List Value} {st : List Value} : T d 150 98 ls (.ref a :: st) h Q ↔ gF (h.2.2 a) 7 5 (fun v => T d 150 101 ls (v :: st) h Q) := T_getfieldR m150 c150_98 f8_24
theorem c150_101 : cod 150 101 = some (.aload_n 0, 1) := cod_of b150 dX8_readItems_101
theorem t150_101 {d : Nat} {h : Hp} {Q : Pst} {l1 l2 l3 : Value} {x : Nat} {st : List Value} : T d 150 101 [.ref x, l1, l2, l3] st h Q ↔ T d 150 102 [.ref x, l1, l2, l3] (.ref x :: st) h Q := T_aload_n c150_101 rfl
theorem c150_102 : cod 150 102 = some (.getfield 71, 3) := cod_of b150 dX8_readItems_102
theorem t150_102 {d : Nat} {h : Hp} {Q : Pst} {a : Nat} {ls : List Value} {st : List Value} : T d 150 102 ls (.ref a :: st) h Q ↔ gF (h.2.2 a) 7 8 (fun v => T d 150 105 ls (v :: st) h Q) := T_getfieldR m150 c150_102 f8_71
theorem c150_105 : cod 150 105 = some (.iaload, 1) := cod_of b150 dX8_readItems_105
theorem t150_105 {d : Nat} {h : Hp} {Q : Pst} {a : Nat} {i : Int32} {ls : List Value} {st : List Value} : T d 150 105 ls (.int i :: .ref a :: st) h Q ↔ aL (h.2.2 a) i (fun x => T d 150 106 ls (.int x :: st) h Q) := T_iaload c150_105
theorem c150_106 : cod 150 106 = some (.bipush 59, 2) := cod_of b150 dX8_readItems_106
theorem t150_106 {d : Nat} {h : Hp} {Q : Pst} {ls : List Value} {st : List Value} : T d 150 106 ls st h Q ↔ T d 150 108 ls (.int 59 :: st) h Q := T_bipushV c150_106 (by decide)
theorem c150_108 : cod 150 108 = some (.if_icmp .eq 5, 3) := cod_of b150 dX8_readItems_108
theorem t150_108 {d : Nat} {h : Hp} {Q : Pst} {x y : Int32} {ls : List Value} {st : List Value} : T d 150 108 ls (.int y :: .int x :: st) h Q ↔ (if x = y then T d 150 113 ls st h Q else T d 150 111 ls st h Q) := T_icmp_eq c150_108 (by decide)
theorem c150_113 : cod 150 113 = some (.iinc 2 1, 3) := cod_of b150 dX8_readItems_113
theorem t150_113 {d : Nat} {h : Hp} {Q : Pst} {l0 l1 l3 : Value} {x : Int32} {st : List Value} : T d 150 113 [l0, l1, .int x, l3] st h Q ↔ T d 150 116 [l0, kil l1, .int (x + 1), l3] st h Q := T_iincV c150_113 rfl (Nat.le_of_ble_eq_true rfl) (by decide) rfl
theorem c150_116 : cod 150 116 = some (.aload_n 0, 1) := cod_of b150 dX8_readItems_116
theorem t150_116 {d : Nat} {h : Hp} {Q : Pst} {l1 l2 l3 : Value} {x : Nat} {st : List Value} : T d 150 116 [.ref x, l1, l2, l3] st h Q ↔ T d 150 117 [.ref x, l1, l2, l3] (.ref x :: st) h Q := T_aload_n c150_116 rfl
theorem c150_117 : cod 150 117 = some (.invokevirtual 84, 3) := cod_of b150 dX8_readItems_117
theorem t150_117 {d : Nat} {h : Hp} {Q : Pst} {a : Nat} {ls : List Value} (ho : isO (h.2.2 a) 7) : T (d + 1) 150 117 ls [.ref a] h Q ↔ T d 141 0 [.ref a] [] h (fun x h2 => T (d + 1) 150 120 ls (rl x []) h2 Q) := T_virtualR (as := []) (r := []) m150 m141 c150_117 k8_84  rfl (by decide) rfl (by simp [wrd, Value.category]) (by simp [stk, Value.category]) rfl (by decide +kernel) ho
theorem c150_120 : cod 150 120 = some (.goto (-94), 3) := cod_of b150 dX8_readItems_120
theorem t150_120 {d : Nat} {h : Hp} {Q : Pst} {ls : List Value} {st : List Value} : T d 150 120 ls st h Q ↔ T d 150 26 ls st h Q := T_goto c150_120 (by decide)
theorem c150_111 : cod 150 111 = some (.iconst (-1), 1) := cod_of b150 dX8_readItems_111
theorem t150_111 {d : Nat} {h : Hp} {Q : Pst} {ls : List Value} {st : List Value} : T d 150 111 ls st h Q ↔ T d 150 112 ls (.int (-1) :: st) h Q := T_iconstV c150_111 (by decide)
theorem c150_112 : cod 150 112 = some (.ireturn, 1) := cod_of b150 dX8_readItems_112
theorem t150_112 {d : Nat} {h : Hp} {Q : Pst} {x : Int32} {ls : List Value} : T d 150 112 ls [.int x] h Q ↔ Q (some (.int x)) h := T_iretR m150 c150_112 rfl
theorem c150_68 : cod 150 68 = some (.iconst 0, 1) := cod_of b150 dX8_readItems_68
theorem t150_68 {d : Nat} {h : Hp} {Q : Pst} {ls : List Value} {st : List Value} : T d 150 68 ls st h Q ↔ T d 150 69 ls (.int 0 :: st) h Q := T_iconstV c150_68 (by decide)
theorem c150_59 : cod 150 59 = some (.iconst 0, 1) := cod_of b150 dX8_readItems_59
theorem t150_59 {d : Nat} {h : Hp} {Q : Pst} {ls : List Value} {st : List Value} : T d 150 59 ls st h Q ↔ T d 150 60 ls (.int 0 :: st) h Q := T_iconstV c150_59 (by decide)
theorem c150_80 : cod 150 80 = some (.iconst (-1), 1) := cod_of b150 dX8_readItems_80
theorem t150_80 {d : Nat} {h : Hp} {Q : Pst} {ls : List Value} {st : List Value} : T d 150 80 ls st h Q ↔ T d 150 81 ls (.int (-1) :: st) h Q := T_iconstV c150_80 (by decide)
theorem c150_81 : cod 150 81 = some (.ireturn, 1) := cod_of b150 dX8_readItems_81
theorem t150_81 {d : Nat} {h : Hp} {Q : Pst} {x : Int32} {ls : List Value} : T d 150 81 ls [.int x] h Q ↔ Q (some (.int x)) h := T_iretR m150 c150_81 rfl
theorem b151 : (mR 151).2.2.1 = cX8_read := by rw [m151]
theorem c151_0 : cod 151 0 = some (.aload_n 0, 1) := cod_of b151 dX8_read_0
theorem t151_0 {d : Nat} {h : Hp} {Q : Pst} {l1 : Value} {x : Nat} {st : List Value} : T d 151 0 [.ref x, l1] st h Q ↔ T d 151 1 [.ref x, l1] (.ref x :: st) h Q := T_aload_n c151_0 rfl
theorem c151_1 : cod 151 1 = some (.iconst 0, 1) := cod_of b151 dX8_read_1
theorem t151_1 {d : Nat} {h : Hp} {Q : Pst} {ls : List Value} {st : List Value} : T d 151 1 ls st h Q ↔ T d 151 2 ls (.int 0 :: st) h Q := T_iconstV c151_1 (by decide)
theorem c151_2 : cod 151 2 = some (.invokevirtual 125, 3) := cod_of b151 dX8_read_2
theorem t151_2 {d : Nat} {h : Hp} {Q : Pst} {a0 : Int32} {a : Nat} {ls : List Value} (ho : isO (h.2.2 a) 7) : T (d + 1) 151 2 ls [.int a0, .ref a] h Q ↔ T d 150 0 [.ref a, .int a0, un, un] [] h (fun x h2 => T (d + 1) 151 5 ls (rl x []) h2 Q) := T_virtualR (as := [.int a0]) (r := []) m151 m150 c151_2 k8_125  rfl (by decide) rfl (by simp [wrd, Value.category]) (by simp [stk, Value.category]) rfl (by decide +kernel) ho
theorem c151_5 : cod 151 5 = some (.istore_n 1, 1) := cod_of b151 dX8_read_5
theorem t151_5 {d : Nat} {h : Hp} {Q : Pst} {l0 l1 : Value} {x : Int32} {st : List Value} : T d 151 5 [l0, l1] (.int x :: st) h Q ↔ T d 151 6 [kil l0, .int x] st h Q := T_istore_n c151_5 (Nat.le_of_ble_eq_true rfl)
theorem c151_6 : cod 151 6 = some (.iload_n 1, 1) := cod_of b151 dX8_read_6
theorem t151_6 {d : Nat} {h : Hp} {Q : Pst} {l0 : Value} {x : Int32} {st : List Value} : T d 151 6 [l0, .int x] st h Q ↔ T d 151 7 [l0, .int x] (.int x :: st) h Q := T_iload_n c151_6 rfl
theorem c151_7 : cod 151 7 = some (.iconst (-1), 1) := cod_of b151 dX8_read_7
theorem t151_7 {d : Nat} {h : Hp} {Q : Pst} {ls : List Value} {st : List Value} : T d 151 7 ls st h Q ↔ T d 151 8 ls (.int (-1) :: st) h Q := T_iconstV c151_7 (by decide)
theorem c151_8 : cod 151 8 = some (.if_icmp .ne 11, 3) := cod_of b151 dX8_read_8
theorem t151_8 {d : Nat} {h : Hp} {Q : Pst} {x y : Int32} {ls : List Value} {st : List Value} : T d 151 8 ls (.int y :: .int x :: st) h Q ↔ (if ¬ x = y then T d 151 19 ls st h Q else T d 151 11 ls st h Q) := T_icmp_ne c151_8 (by decide)
theorem c151_11 : cod 151 11 = some (.bipush (-10), 2) := cod_of b151 dX8_read_11
theorem t151_11 {d : Nat} {h : Hp} {Q : Pst} {ls : List Value} {st : List Value} : T d 151 11 ls st h Q ↔ T d 151 13 ls (.int (-10) :: st) h Q := T_bipushV c151_11 (by decide)
theorem c151_13 : cod 151 13 = some (.aload_n 0, 1) := cod_of b151 dX8_read_13
theorem t151_13 {d : Nat} {h : Hp} {Q : Pst} {l1 : Value} {x : Nat} {st : List Value} : T d 151 13 [.ref x, l1] st h Q ↔ T d 151 14 [.ref x, l1] (.ref x :: st) h Q := T_aload_n c151_13 rfl
theorem c151_14 : cod 151 14 = some (.getfield 71, 3) := cod_of b151 dX8_read_14
theorem t151_14 {d : Nat} {h : Hp} {Q : Pst} {a : Nat} {ls : List Value} {st : List Value} : T d 151 14 ls (.ref a :: st) h Q ↔ gF (h.2.2 a) 7 8 (fun v => T d 151 17 ls (v :: st) h Q) := T_getfieldR m151 c151_14 f8_71
theorem c151_17 : cod 151 17 = some (.isub, 1) := cod_of b151 dX8_read_17
theorem t151_17 {d : Nat} {h : Hp} {Q : Pst} {x y : Int32} {ls : List Value} {st : List Value} : T d 151 17 ls (.int y :: .int x :: st) h Q ↔ T d 151 18 ls (.int (x - y) :: st) h Q := T_isub c151_17
theorem c151_18 : cod 151 18 = some (.ireturn, 1) := cod_of b151 dX8_read_18
theorem t151_18 {d : Nat} {h : Hp} {Q : Pst} {x : Int32} {ls : List Value} : T d 151 18 ls [.int x] h Q ↔ Q (some (.int x)) h := T_iretR m151 c151_18 rfl
theorem c151_19 : cod 151 19 = some (.aload_n 0, 1) := cod_of b151 dX8_read_19
theorem t151_19 {d : Nat} {h : Hp} {Q : Pst} {l1 : Value} {x : Nat} {st : List Value} : T d 151 19 [.ref x, l1] st h Q ↔ T d 151 20 [.ref x, l1] (.ref x :: st) h Q := T_aload_n c151_19 rfl
theorem c151_20 : cod 151 20 = some (.iconst 1, 1) := cod_of b151 dX8_read_20
theorem t151_20 {d : Nat} {h : Hp} {Q : Pst} {ls : List Value} {st : List Value} : T d 151 20 ls st h Q ↔ T d 151 21 ls (.int 1 :: st) h Q := T_iconstV c151_20 (by decide)
theorem c151_21 : cod 151 21 = some (.invokevirtual 125, 3) := cod_of b151 dX8_read_21
theorem t151_21 {d : Nat} {h : Hp} {Q : Pst} {a0 : Int32} {a : Nat} {ls : List Value} (ho : isO (h.2.2 a) 7) : T (d + 1) 151 21 ls [.int a0, .ref a] h Q ↔ T d 150 0 [.ref a, .int a0, un, un] [] h (fun x h2 => T (d + 1) 151 24 ls (rl x []) h2 Q) := T_virtualR (as := [.int a0]) (r := []) m151 m150 c151_21 k8_125  rfl (by decide) rfl (by simp [wrd, Value.category]) (by simp [stk, Value.category]) rfl (by decide +kernel) ho
theorem c151_24 : cod 151 24 = some (.pop, 1) := cod_of b151 dX8_read_24
theorem t151_24 {d : Nat} {h : Hp} {Q : Pst} {x : Int32} {ls : List Value} {st : List Value} : T d 151 24 ls (.int x :: st) h Q ↔ T d 151 25 ls st h Q := T_pop c151_24 rfl
theorem c151_25 : cod 151 25 = some (.aload_n 0, 1) := cod_of b151 dX8_read_25
theorem t151_25 {d : Nat} {h : Hp} {Q : Pst} {l1 : Value} {x : Nat} {st : List Value} : T d 151 25 [.ref x, l1] st h Q ↔ T d 151 26 [.ref x, l1] (.ref x :: st) h Q := T_aload_n c151_25 rfl
theorem c151_26 : cod 151 26 = some (.getfield 7, 3) := cod_of b151 dX8_read_26
theorem t151_26 {d : Nat} {h : Hp} {Q : Pst} {a : Nat} {ls : List Value} {st : List Value} : T d 151 26 ls (.ref a :: st) h Q ↔ gF (h.2.2 a) 7 0 (fun v => T d 151 29 ls (v :: st) h Q) := T_getfieldR m151 c151_26 f8_7
theorem c151_29 : cod 151 29 = some (.bipush 111, 2) := cod_of b151 dX8_read_29
theorem t151_29 {d : Nat} {h : Hp} {Q : Pst} {ls : List Value} {st : List Value} : T d 151 29 ls st h Q ↔ T d 151 31 ls (.int 111 :: st) h Q := T_bipushV c151_29 (by decide)
theorem c151_31 : cod 151 31 = some (.iconst 0, 1) := cod_of b151 dX8_read_31
theorem t151_31 {d : Nat} {h : Hp} {Q : Pst} {ls : List Value} {st : List Value} : T d 151 31 ls st h Q ↔ T d 151 32 ls (.int 0 :: st) h Q := T_iconstV c151_31 (by decide)
theorem c151_32 : cod 151 32 = some (.iastore, 1) := cod_of b151 dX8_read_32
theorem t151_32 {d : Nat} {h : Hp} {Q : Pst} {a : Nat} {i x : Int32} {ls : List Value} {st : List Value} : T d 151 32 ls (.int x :: .int i :: .ref a :: st) h Q ↔ aS (h.2.2 a) i x (fun cell => T d 151 33 ls st (hup h a cell) Q) := T_iastore c151_32
theorem c151_33 : cod 151 33 = some (.iload_n 1, 1) := cod_of b151 dX8_read_33
theorem t151_33 {d : Nat} {h : Hp} {Q : Pst} {l0 : Value} {x : Int32} {st : List Value} : T d 151 33 [l0, .int x] st h Q ↔ T d 151 34 [l0, .int x] (.int x :: st) h Q := T_iload_n c151_33 rfl
theorem c151_34 : cod 151 34 = some (.ireturn, 1) := cod_of b151 dX8_read_34
theorem t151_34 {d : Nat} {h : Hp} {Q : Pst} {x : Int32} {ls : List Value} : T d 151 34 ls [.int x] h Q ↔ Q (some (.int x)) h := T_iretR m151 c151_34 rfl
theorem b152 : (mR 152).2.2.1 = cX8_greatBy := by rw [m152]
theorem c152_0 : cod 152 0 = some (.iload_n 1, 1) := cod_of b152 dX8_greatBy_0
theorem t152_0 {d : Nat} {h : Hp} {Q : Pst} {l0 l2 l3 : Value} {x : Int32} {st : List Value} : T d 152 0 [l0, .int x, l2, l3] st h Q ↔ T d 152 1 [l0, .int x, l2, l3] (.int x :: st) h Q := T_iload_n c152_0 rfl
theorem c152_1 : cod 152 1 = some (.iconst 2, 1) := cod_of b152 dX8_greatBy_1
theorem t152_1 {d : Nat} {h : Hp} {Q : Pst} {ls : List Value} {st : List Value} : T d 152 1 ls st h Q ↔ T d 152 2 ls (.int 2 :: st) h Q := T_iconstV c152_1 (by decide)
theorem c152_2 : cod 152 2 = some (.iload_n 2, 1) := cod_of b152 dX8_greatBy_2
theorem t152_2 {d : Nat} {h : Hp} {Q : Pst} {l0 l1 l3 : Value} {x : Int32} {st : List Value} : T d 152 2 [l0, l1, .int x, l3] st h Q ↔ T d 152 3 [l0, l1, .int x, l3] (.int x :: st) h Q := T_iload_n c152_2 rfl
theorem c152_3 : cod 152 3 = some (.imul, 1) := cod_of b152 dX8_greatBy_3
theorem t152_3 {d : Nat} {h : Hp} {Q : Pst} {x y : Int32} {ls : List Value} {st : List Value} : T d 152 3 ls (.int y :: .int x :: st) h Q ↔ T d 152 4 ls (.int (x * y) :: st) h Q := T_imul c152_3
theorem c152_4 : cod 152 4 = some (.isub, 1) := cod_of b152 dX8_greatBy_4
theorem t152_4 {d : Nat} {h : Hp} {Q : Pst} {x y : Int32} {ls : List Value} {st : List Value} : T d 152 4 ls (.int y :: .int x :: st) h Q ↔ T d 152 5 ls (.int (x - y) :: st) h Q := T_isub c152_4
theorem c152_5 : cod 152 5 = some (.iconst 1, 1) := cod_of b152 dX8_greatBy_5
theorem t152_5 {d : Nat} {h : Hp} {Q : Pst} {ls : List Value} {st : List Value} : T d 152 5 ls st h Q ↔ T d 152 6 ls (.int 1 :: st) h Q := T_iconstV c152_5 (by decide)
theorem c152_6 : cod 152 6 = some (.if_icmp .ge 7, 3) := cod_of b152 dX8_greatBy_6
theorem t152_6 {d : Nat} {h : Hp} {Q : Pst} {x y : Int32} {ls : List Value} {st : List Value} : T d 152 6 ls (.int y :: .int x :: st) h Q ↔ (if y ≤ x then T d 152 13 ls st h Q else T d 152 9 ls st h Q) := T_icmp_ge c152_6 (by decide)
theorem c152_9 : cod 152 9 = some (.iconst 1, 1) := cod_of b152 dX8_greatBy_9
theorem t152_9 {d : Nat} {h : Hp} {Q : Pst} {ls : List Value} {st : List Value} : T d 152 9 ls st h Q ↔ T d 152 10 ls (.int 1 :: st) h Q := T_iconstV c152_9 (by decide)
theorem c152_10 : cod 152 10 = some (.goto 8, 3) := cod_of b152 dX8_greatBy_10
theorem t152_10 {d : Nat} {h : Hp} {Q : Pst} {ls : List Value} {st : List Value} : T d 152 10 ls st h Q ↔ T d 152 18 ls st h Q := T_goto c152_10 (by decide)
theorem c152_18 : cod 152 18 = some (.istore_n 3, 1) := cod_of b152 dX8_greatBy_18
theorem t152_18 {d : Nat} {h : Hp} {Q : Pst} {l0 l1 l2 l3 : Value} {x : Int32} {st : List Value} : T d 152 18 [l0, l1, l2, l3] (.int x :: st) h Q ↔ T d 152 19 [l0, l1, kil l2, .int x] st h Q := T_istore_n c152_18 (Nat.le_of_ble_eq_true rfl)
theorem c152_19 : cod 152 19 = some (.iload_n 0, 1) := cod_of b152 dX8_greatBy_19
theorem t152_19 {d : Nat} {h : Hp} {Q : Pst} {l1 l2 l3 : Value} {x : Int32} {st : List Value} : T d 152 19 [.int x, l1, l2, l3] st h Q ↔ T d 152 20 [.int x, l1, l2, l3] (.int x :: st) h Q := T_iload_n c152_19 rfl
theorem c152_20 : cod 152 20 = some (.tableswitch 76 1 5 #[36, 38, 44, 57, 61], 36) := cod_of b152 dX8_greatBy_20
theorem t152_20 {d : Nat} {h : Hp} {Q : Pst} {x : Int32} {ls : List Value} {st : List Value} : T d 152 20 ls (.int x :: st) h Q ↔ swT (fun t => T d 152 t ls st h Q) x.toInt 1 [56, 58, 64, 77, 81] 96 := T_tsw c152_20 (by decide) (by decide) (by decide)
theorem c152_96 : cod 152 96 = some (.iload_n 1, 1) := cod_of b152 dX8_greatBy_96
theorem t152_96 {d : Nat} {h : Hp} {Q : Pst} {l0 l2 l3 : Value} {x : Int32} {st : List Value} : T d 152 96 [l0, .int x, l2, l3] st h Q ↔ T d 152 97 [l0, .int x, l2, l3] (.int x :: st) h Q := T_iload_n c152_96 rfl
theorem c152_97 : cod 152 97 = some (.ireturn, 1) := cod_of b152 dX8_greatBy_97
theorem t152_97 {d : Nat} {h : Hp} {Q : Pst} {x : Int32} {ls : List Value} : T d 152 97 ls [.int x] h Q ↔ Q (some (.int x)) h := T_iretR m152 c152_97 rfl
theorem c152_81 : cod 152 81 = some (.iload_n 2, 1) := cod_of b152 dX8_greatBy_81
theorem t152_81 {d : Nat} {h : Hp} {Q : Pst} {l0 l1 l3 : Value} {x : Int32} {st : List Value} : T d 152 81 [l0, l1, .int x, l3] st h Q ↔ T d 152 82 [l0, l1, .int x, l3] (.int x :: st) h Q := T_iload_n c152_81 rfl
theorem c152_82 : cod 152 82 = some (.iconst 1, 1) := cod_of b152 dX8_greatBy_82
theorem t152_82 {d : Nat} {h : Hp} {Q : Pst} {ls : List Value} {st : List Value} : T d 152 82 ls st h Q ↔ T d 152 83 ls (.int 1 :: st) h Q := T_iconstV c152_82 (by decide)
theorem c152_83 : cod 152 83 = some (.if_icmp .le 7, 3) := cod_of b152 dX8_greatBy_83
theorem t152_83 {d : Nat} {h : Hp} {Q : Pst} {x y : Int32} {ls : List Value} {st : List Value} : T d 152 83 ls (.int y :: .int x :: st) h Q ↔ (if x ≤ y then T d 152 90 ls st h Q else T d 152 86 ls st h Q) := T_icmp_le c152_83 (by decide)
theorem c152_86 : cod 152 86 = some (.iconst 1, 1) := cod_of b152 dX8_greatBy_86
theorem t152_86 {d : Nat} {h : Hp} {Q : Pst} {ls : List Value} {st : List Value} : T d 152 86 ls st h Q ↔ T d 152 87 ls (.int 1 :: st) h Q := T_iconstV c152_86 (by decide)
theorem c152_87 : cod 152 87 = some (.goto 8, 3) := cod_of b152 dX8_greatBy_87
theorem t152_87 {d : Nat} {h : Hp} {Q : Pst} {ls : List Value} {st : List Value} : T d 152 87 ls st h Q ↔ T d 152 95 ls st h Q := T_goto c152_87 (by decide)
theorem c152_95 : cod 152 95 = some (.ireturn, 1) := cod_of b152 dX8_greatBy_95
theorem t152_95 {d : Nat} {h : Hp} {Q : Pst} {x : Int32} {ls : List Value} : T d 152 95 ls [.int x] h Q ↔ Q (some (.int x)) h := T_iretR m152 c152_95 rfl
theorem c152_90 : cod 152 90 = some (.iload_n 1, 1) := cod_of b152 dX8_greatBy_90
theorem t152_90 {d : Nat} {h : Hp} {Q : Pst} {l0 l2 l3 : Value} {x : Int32} {st : List Value} : T d 152 90 [l0, .int x, l2, l3] st h Q ↔ T d 152 91 [l0, .int x, l2, l3] (.int x :: st) h Q := T_iload_n c152_90 rfl
theorem c152_91 : cod 152 91 = some (.iconst 1, 1) := cod_of b152 dX8_greatBy_91
theorem t152_91 {d : Nat} {h : Hp} {Q : Pst} {ls : List Value} {st : List Value} : T d 152 91 ls st h Q ↔ T d 152 92 ls (.int 1 :: st) h Q := T_iconstV c152_91 (by decide)
theorem c152_92 : cod 152 92 = some (.iadd, 1) := cod_of b152 dX8_greatBy_92
theorem t152_92 {d : Nat} {h : Hp} {Q : Pst} {x y : Int32} {ls : List Value} {st : List Value} : T d 152 92 ls (.int y :: .int x :: st) h Q ↔ T d 152 93 ls (.int (x + y) :: st) h Q := T_iadd c152_92
theorem c152_93 : cod 152 93 = some (.iconst 2, 1) := cod_of b152 dX8_greatBy_93
theorem t152_93 {d : Nat} {h : Hp} {Q : Pst} {ls : List Value} {st : List Value} : T d 152 93 ls st h Q ↔ T d 152 94 ls (.int 2 :: st) h Q := T_iconstV c152_93 (by decide)
theorem c152_94 : cod 152 94 = some (.idiv, 1) := cod_of b152 dX8_greatBy_94
theorem t152_94 {d : Nat} {h : Hp} {Q : Pst} {x y : Int32} {ls : List Value} {st : List Value} : T d 152 94 ls (.int y :: .int x :: st) h Q ↔ (¬ y = 0 ∧ T d 152 95 ls (.int (x / y) :: st) h Q) := T_idiv c152_94
theorem c152_77 : cod 152 77 = some (.iload_n 1, 1) := cod_of b152 dX8_greatBy_77
theorem t152_77 {d : Nat} {h : Hp} {Q : Pst} {l0 l2 l3 : Value} {x : Int32} {st : List Value} : T d 152 77 [l0, .int x, l2, l3] st h Q ↔ T d 152 78 [l0, .int x, l2, l3] (.int x :: st) h Q := T_iload_n c152_77 rfl
theorem c152_78 : cod 152 78 = some (.iload_n 2, 1) := cod_of b152 dX8_greatBy_78
theorem t152_78 {d : Nat} {h : Hp} {Q : Pst} {l0 l1 l3 : Value} {x : Int32} {st : List Value} : T d 152 78 [l0, l1, .int x, l3] st h Q ↔ T d 152 79 [l0, l1, .int x, l3] (.int x :: st) h Q := T_iload_n c152_78 rfl
theorem c152_79 : cod 152 79 = some (.iadd, 1) := cod_of b152 dX8_greatBy_79
theorem t152_79 {d : Nat} {h : Hp} {Q : Pst} {x y : Int32} {ls : List Value} {st : List Value} : T d 152 79 ls (.int y :: .int x :: st) h Q ↔ T d 152 80 ls (.int (x + y) :: st) h Q := T_iadd c152_79
theorem c152_80 : cod 152 80 = some (.ireturn, 1) := cod_of b152 dX8_greatBy_80
theorem t152_80 {d : Nat} {h : Hp} {Q : Pst} {x : Int32} {ls : List Value} : T d 152 80 ls [.int x] h Q ↔ Q (some (.int x)) h := T_iretR m152 c152_80 rfl
theorem c152_64 : cod 152 64 = some (.iload_n 2, 1) := cod_of b152 dX8_greatBy_64
theorem t152_64 {d : Nat} {h : Hp} {Q : Pst} {l0 l1 l3 : Value} {x : Int32} {st : List Value} : T d 152 64 [l0, l1, .int x, l3] st h Q ↔ T d 152 65 [l0, l1, .int x, l3] (.int x :: st) h Q := T_iload_n c152_64 rfl
theorem c152_65 : cod 152 65 = some (.iconst 2, 1) := cod_of b152 dX8_greatBy_65
theorem t152_65 {d : Nat} {h : Hp} {Q : Pst} {ls : List Value} {st : List Value} : T d 152 65 ls st h Q ↔ T d 152 66 ls (.int 2 :: st) h Q := T_iconstV c152_65 (by decide)
theorem c152_66 : cod 152 66 = some (.irem, 1) := cod_of b152 dX8_greatBy_66
theorem t152_66 {d : Nat} {h : Hp} {Q : Pst} {x y : Int32} {ls : List Value} {st : List Value} : T d 152 66 ls (.int y :: .int x :: st) h Q ↔ (¬ y = 0 ∧ T d 152 67 ls (.int (x - x / y * y) :: st) h Q) := T_irem c152_66
theorem c152_67 : cod 152 67 = some (.iconst 1, 1) := cod_of b152 dX8_greatBy_67
theorem t152_67 {d : Nat} {h : Hp} {Q : Pst} {ls : List Value} {st : List Value} : T d 152 67 ls st h Q ↔ T d 152 68 ls (.int 1 :: st) h Q := T_iconstV c152_67 (by decide)
theorem c152_68 : cod 152 68 = some (.if_icmp .ne 7, 3) := cod_of b152 dX8_greatBy_68
theorem t152_68 {d : Nat} {h : Hp} {Q : Pst} {x y : Int32} {ls : List Value} {st : List Value} : T d 152 68 ls (.int y :: .int x :: st) h Q ↔ (if ¬ x = y then T d 152 75 ls st h Q else T d 152 71 ls st h Q) := T_icmp_ne c152_68 (by decide)
theorem c152_71 : cod 152 71 = some (.iconst 0, 1) := cod_of b152 dX8_greatBy_71
theorem t152_71 {d : Nat} {h : Hp} {Q : Pst} {ls : List Value} {st : List Value} : T d 152 71 ls st h Q ↔ T d 152 72 ls (.int 0 :: st) h Q := T_iconstV c152_71 (by decide)
theorem c152_72 : cod 152 72 = some (.goto 4, 3) := cod_of b152 dX8_greatBy_72
theorem t152_72 {d : Nat} {h : Hp} {Q : Pst} {ls : List Value} {st : List Value} : T d 152 72 ls st h Q ↔ T d 152 76 ls st h Q := T_goto c152_72 (by decide)
theorem c152_76 : cod 152 76 = some (.ireturn, 1) := cod_of b152 dX8_greatBy_76
theorem t152_76 {d : Nat} {h : Hp} {Q : Pst} {x : Int32} {ls : List Value} : T d 152 76 ls [.int x] h Q ↔ Q (some (.int x)) h := T_iretR m152 c152_76 rfl
theorem c152_75 : cod 152 75 = some (.iload_n 3, 1) := cod_of b152 dX8_greatBy_75
theorem t152_75 {d : Nat} {h : Hp} {Q : Pst} {l0 l1 l2 : Value} {x : Int32} {st : List Value} : T d 152 75 [l0, l1, l2, .int x] st h Q ↔ T d 152 76 [l0, l1, l2, .int x] (.int x :: st) h Q := T_iload_n c152_75 rfl
theorem c152_58 : cod 152 58 = some (.iload_n 1, 1) := cod_of b152 dX8_greatBy_58
theorem t152_58 {d : Nat} {h : Hp} {Q : Pst} {l0 l2 l3 : Value} {x : Int32} {st : List Value} : T d 152 58 [l0, .int x, l2, l3] st h Q ↔ T d 152 59 [l0, .int x, l2, l3] (.int x :: st) h Q := T_iload_n c152_58 rfl
theorem c152_59 : cod 152 59 = some (.iconst 1, 1) := cod_of b152 dX8_greatBy_59
theorem t152_59 {d : Nat} {h : Hp} {Q : Pst} {ls : List Value} {st : List Value} : T d 152 59 ls st h Q ↔ T d 152 60 ls (.int 1 :: st) h Q := T_iconstV c152_59 (by decide)
theorem c152_60 : cod 152 60 = some (.iadd, 1) := cod_of b152 dX8_greatBy_60
theorem t152_60 {d : Nat} {h : Hp} {Q : Pst} {x y : Int32} {ls : List Value} {st : List Value} : T d 152 60 ls (.int y :: .int x :: st) h Q ↔ T d 152 61 ls (.int (x + y) :: st) h Q := T_iadd c152_60
theorem c152_61 : cod 152 61 = some (.iconst 2, 1) := cod_of b152 dX8_greatBy_61
theorem t152_61 {d : Nat} {h : Hp} {Q : Pst} {ls : List Value} {st : List Value} : T d 152 61 ls st h Q ↔ T d 152 62 ls (.int 2 :: st) h Q := T_iconstV c152_61 (by decide)
theorem c152_62 : cod 152 62 = some (.idiv, 1) := cod_of b152 dX8_greatBy_62
theorem t152_62 {d : Nat} {h : Hp} {Q : Pst} {x y : Int32} {ls : List Value} {st : List Value} : T d 152 62 ls (.int y :: .int x :: st) h Q ↔ (¬ y = 0 ∧ T d 152 63 ls (.int (x / y) :: st) h Q) := T_idiv c152_62
theorem c152_63 : cod 152 63 = some (.ireturn, 1) := cod_of b152 dX8_greatBy_63
theorem t152_63 {d : Nat} {h : Hp} {Q : Pst} {x : Int32} {ls : List Value} : T d 152 63 ls [.int x] h Q ↔ Q (some (.int x)) h := T_iretR m152 c152_63 rfl
theorem c152_56 : cod 152 56 = some (.iload_n 3, 1) := cod_of b152 dX8_greatBy_56
theorem t152_56 {d : Nat} {h : Hp} {Q : Pst} {l0 l1 l2 : Value} {x : Int32} {st : List Value} : T d 152 56 [l0, l1, l2, .int x] st h Q ↔ T d 152 57 [l0, l1, l2, .int x] (.int x :: st) h Q := T_iload_n c152_56 rfl
theorem c152_57 : cod 152 57 = some (.ireturn, 1) := cod_of b152 dX8_greatBy_57
theorem t152_57 {d : Nat} {h : Hp} {Q : Pst} {x : Int32} {ls : List Value} : T d 152 57 ls [.int x] h Q ↔ Q (some (.int x)) h := T_iretR m152 c152_57 rfl
theorem c152_13 : cod 152 13 = some (.iload_n 1, 1) := cod_of b152 dX8_greatBy_13
theorem t152_13 {d : Nat} {h : Hp} {Q : Pst} {l0 l2 l3 : Value} {x : Int32} {st : List Value} : T d 152 13 [l0, .int x, l2, l3] st h Q ↔ T d 152 14 [l0, .int x, l2, l3] (.int x :: st) h Q := T_iload_n c152_13 rfl
theorem c152_14 : cod 152 14 = some (.iconst 2, 1) := cod_of b152 dX8_greatBy_14
theorem t152_14 {d : Nat} {h : Hp} {Q : Pst} {ls : List Value} {st : List Value} : T d 152 14 ls st h Q ↔ T d 152 15 ls (.int 2 :: st) h Q := T_iconstV c152_14 (by decide)
theorem c152_15 : cod 152 15 = some (.iload_n 2, 1) := cod_of b152 dX8_greatBy_15
theorem t152_15 {d : Nat} {h : Hp} {Q : Pst} {l0 l1 l3 : Value} {x : Int32} {st : List Value} : T d 152 15 [l0, l1, .int x, l3] st h Q ↔ T d 152 16 [l0, l1, .int x, l3] (.int x :: st) h Q := T_iload_n c152_15 rfl
theorem c152_16 : cod 152 16 = some (.imul, 1) := cod_of b152 dX8_greatBy_16
theorem t152_16 {d : Nat} {h : Hp} {Q : Pst} {x y : Int32} {ls : List Value} {st : List Value} : T d 152 16 ls (.int y :: .int x :: st) h Q ↔ T d 152 17 ls (.int (x * y) :: st) h Q := T_imul c152_16
theorem c152_17 : cod 152 17 = some (.isub, 1) := cod_of b152 dX8_greatBy_17
theorem t152_17 {d : Nat} {h : Hp} {Q : Pst} {x y : Int32} {ls : List Value} {st : List Value} : T d 152 17 ls (.int y :: .int x :: st) h Q ↔ T d 152 18 ls (.int (x - y) :: st) h Q := T_isub c152_17
theorem b153 : (mR 153).2.2.1 = cX8_atLeastOne := by rw [m153]
theorem c153_0 : cod 153 0 = some (.iload_n 0, 1) := cod_of b153 dX8_atLeastOne_0
theorem t153_0 {d : Nat} {h : Hp} {Q : Pst} {x : Int32} {st : List Value} : T d 153 0 [.int x] st h Q ↔ T d 153 1 [.int x] (.int x :: st) h Q := T_iload_n c153_0 rfl
theorem c153_1 : cod 153 1 = some (.iconst 1, 1) := cod_of b153 dX8_atLeastOne_1
theorem t153_1 {d : Nat} {h : Hp} {Q : Pst} {ls : List Value} {st : List Value} : T d 153 1 ls st h Q ↔ T d 153 2 ls (.int 1 :: st) h Q := T_iconstV c153_1 (by decide)
theorem c153_2 : cod 153 2 = some (.if_icmp .ge 7, 3) := cod_of b153 dX8_atLeastOne_2
theorem t153_2 {d : Nat} {h : Hp} {Q : Pst} {x y : Int32} {ls : List Value} {st : List Value} : T d 153 2 ls (.int y :: .int x :: st) h Q ↔ (if y ≤ x then T d 153 9 ls st h Q else T d 153 5 ls st h Q) := T_icmp_ge c153_2 (by decide)
theorem c153_5 : cod 153 5 = some (.iconst 1, 1) := cod_of b153 dX8_atLeastOne_5
theorem t153_5 {d : Nat} {h : Hp} {Q : Pst} {ls : List Value} {st : List Value} : T d 153 5 ls st h Q ↔ T d 153 6 ls (.int 1 :: st) h Q := T_iconstV c153_5 (by decide)
theorem c153_6 : cod 153 6 = some (.goto 4, 3) := cod_of b153 dX8_atLeastOne_6
theorem t153_6 {d : Nat} {h : Hp} {Q : Pst} {ls : List Value} {st : List Value} : T d 153 6 ls st h Q ↔ T d 153 10 ls st h Q := T_goto c153_6 (by decide)
theorem c153_10 : cod 153 10 = some (.ireturn, 1) := cod_of b153 dX8_atLeastOne_10
theorem t153_10 {d : Nat} {h : Hp} {Q : Pst} {x : Int32} {ls : List Value} : T d 153 10 ls [.int x] h Q ↔ Q (some (.int x)) h := T_iretR m153 c153_10 rfl
theorem c153_9 : cod 153 9 = some (.iload_n 0, 1) := cod_of b153 dX8_atLeastOne_9
theorem t153_9 {d : Nat} {h : Hp} {Q : Pst} {x : Int32} {st : List Value} : T d 153 9 [.int x] st h Q ↔ T d 153 10 [.int x] (.int x :: st) h Q := T_iload_n c153_9 rfl
theorem b154 : (mR 154).2.2.1 = cX8_needBy := by rw [m154]
theorem c154_0 : cod 154 0 = some (.iload_n 1, 1) := cod_of b154 dX8_needBy_0
theorem t154_0 {d : Nat} {h : Hp} {Q : Pst} {l0 l2 l3 l4 : Value} {x : Int32} {st : List Value} : T d 154 0 [l0, .int x, l2, l3, l4] st h Q ↔ T d 154 1 [l0, .int x, l2, l3, l4] (.int x :: st) h Q := T_iload_n c154_0 rfl
theorem c154_1 : cod 154 1 = some (.iconst 3, 1) := cod_of b154 dX8_needBy_1
theorem t154_1 {d : Nat} {h : Hp} {Q : Pst} {ls : List Value} {st : List Value} : T d 154 1 ls st h Q ↔ T d 154 2 ls (.int 3 :: st) h Q := T_iconstV c154_1 (by decide)
theorem c154_2 : cod 154 2 = some (.isub, 1) := cod_of b154 dX8_needBy_2
theorem t154_2 {d : Nat} {h : Hp} {Q : Pst} {x y : Int32} {ls : List Value} {st : List Value} : T d 154 2 ls (.int y :: .int x :: st) h Q ↔ T d 154 3 ls (.int (x - y) :: st) h Q := T_isub c154_2
theorem c154_3 : cod 154 3 = some (.invokestatic 129, 3) := cod_of b154 dX8_needBy_3
theorem t154_3 {d : Nat} {h : Hp} {Q : Pst} {a0 : Int32} {ls : List Value} : T (d + 1) 154 3 ls [.int a0] h Q ↔ T d 153 0 [.int a0] [] h (fun x h2 => T (d + 1) 154 6 ls (rl x []) h2 Q) := T_staticR (as := [.int a0]) (r := []) m154 m153 c154_3 k8_129 (Or.inl rfl) rfl (by decide) rfl (by simp [wrd, Value.category]) (by simp [stk, Value.category]) rfl
theorem c154_6 : cod 154 6 = some (.istore_n 3, 1) := cod_of b154 dX8_needBy_6
theorem t154_6 {d : Nat} {h : Hp} {Q : Pst} {l0 l1 l2 l3 l4 : Value} {x : Int32} {st : List Value} : T d 154 6 [l0, l1, l2, l3, l4] (.int x :: st) h Q ↔ T d 154 7 [l0, l1, kil l2, .int x, l4] st h Q := T_istore_n c154_6 (Nat.le_of_ble_eq_true rfl)
theorem c154_7 : cod 154 7 = some (.iload_n 3, 1) := cod_of b154 dX8_needBy_7
theorem t154_7 {d : Nat} {h : Hp} {Q : Pst} {l0 l1 l2 l4 : Value} {x : Int32} {st : List Value} : T d 154 7 [l0, l1, l2, .int x, l4] st h Q ↔ T d 154 8 [l0, l1, l2, .int x, l4] (.int x :: st) h Q := T_iload_n c154_7 rfl
theorem c154_8 : cod 154 8 = some (.iload_n 2, 1) := cod_of b154 dX8_needBy_8
theorem t154_8 {d : Nat} {h : Hp} {Q : Pst} {l0 l1 l3 l4 : Value} {x : Int32} {st : List Value} : T d 154 8 [l0, l1, .int x, l3, l4] st h Q ↔ T d 154 9 [l0, l1, .int x, l3, l4] (.int x :: st) h Q := T_iload_n c154_8 rfl
theorem c154_9 : cod 154 9 = some (.isub, 1) := cod_of b154 dX8_needBy_9
theorem t154_9 {d : Nat} {h : Hp} {Q : Pst} {x y : Int32} {ls : List Value} {st : List Value} : T d 154 9 ls (.int y :: .int x :: st) h Q ↔ T d 154 10 ls (.int (x - y) :: st) h Q := T_isub c154_9
theorem c154_10 : cod 154 10 = some (.invokestatic 129, 3) := cod_of b154 dX8_needBy_10
theorem t154_10 {d : Nat} {h : Hp} {Q : Pst} {a0 : Int32} {ls : List Value} : T (d + 1) 154 10 ls [.int a0] h Q ↔ T d 153 0 [.int a0] [] h (fun x h2 => T (d + 1) 154 13 ls (rl x []) h2 Q) := T_staticR (as := [.int a0]) (r := []) m154 m153 c154_10 k8_129 (Or.inl rfl) rfl (by decide) rfl (by simp [wrd, Value.category]) (by simp [stk, Value.category]) rfl
theorem c154_13 : cod 154 13 = some (.istore 4, 2) := cod_of b154 dX8_needBy_13
theorem t154_13 {d : Nat} {h : Hp} {Q : Pst} {l0 l1 l2 l3 l4 : Value} {x : Int32} {st : List Value} : T d 154 13 [l0, l1, l2, l3, l4] (.int x :: st) h Q ↔ T d 154 15 [l0, l1, l2, kil l3, .int x] st h Q := T_istore c154_13 (Nat.le_of_ble_eq_true rfl)
theorem c154_15 : cod 154 15 = some (.iload_n 0, 1) := cod_of b154 dX8_needBy_15
theorem t154_15 {d : Nat} {h : Hp} {Q : Pst} {l1 l2 l3 l4 : Value} {x : Int32} {st : List Value} : T d 154 15 [.int x, l1, l2, l3, l4] st h Q ↔ T d 154 16 [.int x, l1, l2, l3, l4] (.int x :: st) h Q := T_iload_n c154_15 rfl
theorem c154_16 : cod 154 16 = some (.tableswitch 58 1 5 #[36, 38, 42, 45, 51], 36) := cod_of b154 dX8_needBy_16
theorem t154_16 {d : Nat} {h : Hp} {Q : Pst} {x : Int32} {ls : List Value} {st : List Value} : T d 154 16 ls (.int x :: st) h Q ↔ swT (fun t => T d 154 t ls st h Q) x.toInt 1 [52, 54, 58, 61, 67] 74 := T_tsw c154_16 (by decide) (by decide) (by decide)
theorem c154_74 : cod 154 74 = some (.iload_n 1, 1) := cod_of b154 dX8_needBy_74
theorem t154_74 {d : Nat} {h : Hp} {Q : Pst} {l0 l2 l3 l4 : Value} {x : Int32} {st : List Value} : T d 154 74 [l0, .int x, l2, l3, l4] st h Q ↔ T d 154 75 [l0, .int x, l2, l3, l4] (.int x :: st) h Q := T_iload_n c154_74 rfl
theorem c154_75 : cod 154 75 = some (.ireturn, 1) := cod_of b154 dX8_needBy_75
theorem t154_75 {d : Nat} {h : Hp} {Q : Pst} {x : Int32} {ls : List Value} : T d 154 75 ls [.int x] h Q ↔ Q (some (.int x)) h := T_iretR m154 c154_75 rfl
theorem c154_67 : cod 154 67 = some (.iload 4, 2) := cod_of b154 dX8_needBy_67
theorem t154_67 {d : Nat} {h : Hp} {Q : Pst} {l0 l1 l2 l3 : Value} {x : Int32} {st : List Value} : T d 154 67 [l0, l1, l2, l3, .int x] st h Q ↔ T d 154 69 [l0, l1, l2, l3, .int x] (.int x :: st) h Q := T_iload c154_67 rfl
theorem c154_69 : cod 154 69 = some (.iconst 1, 1) := cod_of b154 dX8_needBy_69
theorem t154_69 {d : Nat} {h : Hp} {Q : Pst} {ls : List Value} {st : List Value} : T d 154 69 ls st h Q ↔ T d 154 70 ls (.int 1 :: st) h Q := T_iconstV c154_69 (by decide)
theorem c154_70 : cod 154 70 = some (.iadd, 1) := cod_of b154 dX8_needBy_70
theorem t154_70 {d : Nat} {h : Hp} {Q : Pst} {x y : Int32} {ls : List Value} {st : List Value} : T d 154 70 ls (.int y :: .int x :: st) h Q ↔ T d 154 71 ls (.int (x + y) :: st) h Q := T_iadd c154_70
theorem c154_71 : cod 154 71 = some (.iconst 2, 1) := cod_of b154 dX8_needBy_71
theorem t154_71 {d : Nat} {h : Hp} {Q : Pst} {ls : List Value} {st : List Value} : T d 154 71 ls st h Q ↔ T d 154 72 ls (.int 2 :: st) h Q := T_iconstV c154_71 (by decide)
theorem c154_72 : cod 154 72 = some (.idiv, 1) := cod_of b154 dX8_needBy_72
theorem t154_72 {d : Nat} {h : Hp} {Q : Pst} {x y : Int32} {ls : List Value} {st : List Value} : T d 154 72 ls (.int y :: .int x :: st) h Q ↔ (¬ y = 0 ∧ T d 154 73 ls (.int (x / y) :: st) h Q) := T_idiv c154_72
theorem c154_73 : cod 154 73 = some (.ireturn, 1) := cod_of b154 dX8_needBy_73
theorem t154_73 {d : Nat} {h : Hp} {Q : Pst} {x : Int32} {ls : List Value} : T d 154 73 ls [.int x] h Q ↔ Q (some (.int x)) h := T_iretR m154 c154_73 rfl
theorem c154_61 : cod 154 61 = some (.iconst 2, 1) := cod_of b154 dX8_needBy_61
theorem t154_61 {d : Nat} {h : Hp} {Q : Pst} {ls : List Value} {st : List Value} : T d 154 61 ls st h Q ↔ T d 154 62 ls (.int 2 :: st) h Q := T_iconstV c154_61 (by decide)
theorem c154_62 : cod 154 62 = some (.iload_n 1, 1) := cod_of b154 dX8_needBy_62
theorem t154_62 {d : Nat} {h : Hp} {Q : Pst} {l0 l2 l3 l4 : Value} {x : Int32} {st : List Value} : T d 154 62 [l0, .int x, l2, l3, l4] st h Q ↔ T d 154 63 [l0, .int x, l2, l3, l4] (.int x :: st) h Q := T_iload_n c154_62 rfl
theorem c154_63 : cod 154 63 = some (.iconst 4, 1) := cod_of b154 dX8_needBy_63
theorem t154_63 {d : Nat} {h : Hp} {Q : Pst} {ls : List Value} {st : List Value} : T d 154 63 ls st h Q ↔ T d 154 64 ls (.int 4 :: st) h Q := T_iconstV c154_63 (by decide)
theorem c154_64 : cod 154 64 = some (.iadd, 1) := cod_of b154 dX8_needBy_64
theorem t154_64 {d : Nat} {h : Hp} {Q : Pst} {x y : Int32} {ls : List Value} {st : List Value} : T d 154 64 ls (.int y :: .int x :: st) h Q ↔ T d 154 65 ls (.int (x + y) :: st) h Q := T_iadd c154_64
theorem c154_65 : cod 154 65 = some (.imul, 1) := cod_of b154 dX8_needBy_65
theorem t154_65 {d : Nat} {h : Hp} {Q : Pst} {x y : Int32} {ls : List Value} {st : List Value} : T d 154 65 ls (.int y :: .int x :: st) h Q ↔ T d 154 66 ls (.int (x * y) :: st) h Q := T_imul c154_65
theorem c154_66 : cod 154 66 = some (.ireturn, 1) := cod_of b154 dX8_needBy_66
theorem t154_66 {d : Nat} {h : Hp} {Q : Pst} {x : Int32} {ls : List Value} : T d 154 66 ls [.int x] h Q ↔ Q (some (.int x)) h := T_iretR m154 c154_66 rfl
theorem c154_58 : cod 154 58 = some (.iload 4, 2) := cod_of b154 dX8_needBy_58
theorem t154_58 {d : Nat} {h : Hp} {Q : Pst} {l0 l1 l2 l3 : Value} {x : Int32} {st : List Value} : T d 154 58 [l0, l1, l2, l3, .int x] st h Q ↔ T d 154 60 [l0, l1, l2, l3, .int x] (.int x :: st) h Q := T_iload c154_58 rfl
theorem c154_60 : cod 154 60 = some (.ireturn, 1) := cod_of b154 dX8_needBy_60
theorem t154_60 {d : Nat} {h : Hp} {Q : Pst} {x : Int32} {ls : List Value} : T d 154 60 ls [.int x] h Q ↔ Q (some (.int x)) h := T_iretR m154 c154_60 rfl
theorem c154_54 : cod 154 54 = some (.iload_n 1, 1) := cod_of b154 dX8_needBy_54
theorem t154_54 {d : Nat} {h : Hp} {Q : Pst} {l0 l2 l3 l4 : Value} {x : Int32} {st : List Value} : T d 154 54 [l0, .int x, l2, l3, l4] st h Q ↔ T d 154 55 [l0, .int x, l2, l3, l4] (.int x :: st) h Q := T_iload_n c154_54 rfl
theorem c154_55 : cod 154 55 = some (.iconst 4, 1) := cod_of b154 dX8_needBy_55
theorem t154_55 {d : Nat} {h : Hp} {Q : Pst} {ls : List Value} {st : List Value} : T d 154 55 ls st h Q ↔ T d 154 56 ls (.int 4 :: st) h Q := T_iconstV c154_55 (by decide)
theorem c154_56 : cod 154 56 = some (.iadd, 1) := cod_of b154 dX8_needBy_56
theorem t154_56 {d : Nat} {h : Hp} {Q : Pst} {x y : Int32} {ls : List Value} {st : List Value} : T d 154 56 ls (.int y :: .int x :: st) h Q ↔ T d 154 57 ls (.int (x + y) :: st) h Q := T_iadd c154_56
theorem c154_57 : cod 154 57 = some (.ireturn, 1) := cod_of b154 dX8_needBy_57
theorem t154_57 {d : Nat} {h : Hp} {Q : Pst} {x : Int32} {ls : List Value} : T d 154 57 ls [.int x] h Q ↔ Q (some (.int x)) h := T_iretR m154 c154_57 rfl
theorem c154_52 : cod 154 52 = some (.iload_n 3, 1) := cod_of b154 dX8_needBy_52
theorem t154_52 {d : Nat} {h : Hp} {Q : Pst} {l0 l1 l2 l4 : Value} {x : Int32} {st : List Value} : T d 154 52 [l0, l1, l2, .int x, l4] st h Q ↔ T d 154 53 [l0, l1, l2, .int x, l4] (.int x :: st) h Q := T_iload_n c154_52 rfl
theorem c154_53 : cod 154 53 = some (.ireturn, 1) := cod_of b154 dX8_needBy_53
theorem t154_53 {d : Nat} {h : Hp} {Q : Pst} {x : Int32} {ls : List Value} : T d 154 53 ls [.int x] h Q ↔ Q (some (.int x)) h := T_iretR m154 c154_53 rfl
theorem b155 : (mR 155).2.2.1 = cX8_staysBy := by rw [m155]
theorem c155_0 : cod 155 0 = some (.iconst 0, 1) := cod_of b155 dX8_staysBy_0
theorem t155_0 {d : Nat} {h : Hp} {Q : Pst} {ls : List Value} {st : List Value} : T d 155 0 ls st h Q ↔ T d 155 1 ls (.int 0 :: st) h Q := T_iconstV c155_0 (by decide)
theorem c155_1 : cod 155 1 = some (.istore_n 3, 1) := cod_of b155 dX8_staysBy_1
theorem t155_1 {d : Nat} {h : Hp} {Q : Pst} {l0 l1 l2 l3 l4 : Value} {x : Int32} {st : List Value} : T d 155 1 [l0, l1, l2, l3, l4] (.int x :: st) h Q ↔ T d 155 2 [l0, l1, kil l2, .int x, l4] st h Q := T_istore_n c155_1 (Nat.le_of_ble_eq_true rfl)
theorem c155_2 : cod 155 2 = some (.iconst 0, 1) := cod_of b155 dX8_staysBy_2
theorem t155_2 {d : Nat} {h : Hp} {Q : Pst} {ls : List Value} {st : List Value} : T d 155 2 ls st h Q ↔ T d 155 3 ls (.int 0 :: st) h Q := T_iconstV c155_2 (by decide)
theorem c155_3 : cod 155 3 = some (.istore 4, 2) := cod_of b155 dX8_staysBy_3
theorem t155_3 {d : Nat} {h : Hp} {Q : Pst} {l0 l1 l2 l3 l4 : Value} {x : Int32} {st : List Value} : T d 155 3 [l0, l1, l2, l3, l4] (.int x :: st) h Q ↔ T d 155 5 [l0, l1, l2, kil l3, .int x] st h Q := T_istore c155_3 (Nat.le_of_ble_eq_true rfl)
theorem c155_5 : cod 155 5 = some (.iload 4, 2) := cod_of b155 dX8_staysBy_5
theorem t155_5 {d : Nat} {h : Hp} {Q : Pst} {l0 l1 l2 l3 : Value} {x : Int32} {st : List Value} : T d 155 5 [l0, l1, l2, l3, .int x] st h Q ↔ T d 155 7 [l0, l1, l2, l3, .int x] (.int x :: st) h Q := T_iload c155_5 rfl
theorem c155_7 : cod 155 7 = some (.iconst 5, 1) := cod_of b155 dX8_staysBy_7
theorem t155_7 {d : Nat} {h : Hp} {Q : Pst} {ls : List Value} {st : List Value} : T d 155 7 ls st h Q ↔ T d 155 8 ls (.int 5 :: st) h Q := T_iconstV c155_7 (by decide)
theorem c155_8 : cod 155 8 = some (.if_icmp .ge 31, 3) := cod_of b155 dX8_staysBy_8
theorem t155_8 {d : Nat} {h : Hp} {Q : Pst} {x y : Int32} {ls : List Value} {st : List Value} : T d 155 8 ls (.int y :: .int x :: st) h Q ↔ (if y ≤ x then T d 155 39 ls st h Q else T d 155 11 ls st h Q) := T_icmp_ge c155_8 (by decide)
theorem c155_11 : cod 155 11 = some (.iload_n 3, 1) := cod_of b155 dX8_staysBy_11
theorem t155_11 {d : Nat} {h : Hp} {Q : Pst} {l0 l1 l2 l4 : Value} {x : Int32} {st : List Value} : T d 155 11 [l0, l1, l2, .int x, l4] st h Q ↔ T d 155 12 [l0, l1, l2, .int x, l4] (.int x :: st) h Q := T_iload_n c155_11 rfl
theorem c155_12 : cod 155 12 = some (.iload_n 0, 1) := cod_of b155 dX8_staysBy_12
theorem t155_12 {d : Nat} {h : Hp} {Q : Pst} {l1 l2 l3 l4 : Value} {x : Int32} {st : List Value} : T d 155 12 [.int x, l1, l2, l3, l4] st h Q ↔ T d 155 13 [.int x, l1, l2, l3, l4] (.int x :: st) h Q := T_iload_n c155_12 rfl
theorem c155_13 : cod 155 13 = some (.iload_n 1, 1) := cod_of b155 dX8_staysBy_13
theorem t155_13 {d : Nat} {h : Hp} {Q : Pst} {l0 l2 l3 l4 : Value} {x : Int32} {st : List Value} : T d 155 13 [l0, .int x, l2, l3, l4] st h Q ↔ T d 155 14 [l0, .int x, l2, l3, l4] (.int x :: st) h Q := T_iload_n c155_13 rfl
theorem c155_14 : cod 155 14 = some (.iload 4, 2) := cod_of b155 dX8_staysBy_14
theorem t155_14 {d : Nat} {h : Hp} {Q : Pst} {l0 l1 l2 l3 : Value} {x : Int32} {st : List Value} : T d 155 14 [l0, l1, l2, l3, .int x] st h Q ↔ T d 155 16 [l0, l1, l2, l3, .int x] (.int x :: st) h Q := T_iload c155_14 rfl
theorem c155_16 : cod 155 16 = some (.invokestatic 132, 3) := cod_of b155 dX8_staysBy_16
theorem t155_16 {d : Nat} {h : Hp} {Q : Pst} {a0 a1 a2 s0 : Int32} {ls : List Value} : T (d + 1) 155 16 ls [.int a2, .int a1, .int a0, .int s0] h Q ↔ T d 152 0 [.int a0, .int a1, .int a2, un] [] h (fun x h2 => T (d + 1) 155 19 ls (rl x [.int s0]) h2 Q) := T_staticR (as := [.int a0, .int a1, .int a2]) (r := [.int s0]) m155 m152 c155_16 k8_132 (Or.inl rfl) rfl (by decide) rfl (by simp [wrd, Value.category]) (by simp [stk, Value.category]) rfl
theorem c155_19 : cod 155 19 = some (.iload_n 2, 1) := cod_of b155 dX8_staysBy_19
theorem t155_19 {d : Nat} {h : Hp} {Q : Pst} {l0 l1 l3 l4 : Value} {x : Int32} {st : List Value} : T d 155 19 [l0, l1, .int x, l3, l4] st h Q ↔ T d 155 20 [l0, l1, .int x, l3, l4] (.int x :: st) h Q := T_iload_n c155_19 rfl
theorem c155_20 : cod 155 20 = some (.if_icmp .lt 10, 3) := cod_of b155 dX8_staysBy_20
theorem t155_20 {d : Nat} {h : Hp} {Q : Pst} {x y : Int32} {ls : List Value} {st : List Value} : T d 155 20 ls (.int y :: .int x :: st) h Q ↔ (if x < y then T d 155 30 ls st h Q else T d 155 23 ls st h Q) := T_icmp_lt c155_20 (by decide)
theorem c155_23 : cod 155 23 = some (.iconst 1, 1) := cod_of b155 dX8_staysBy_23
theorem t155_23 {d : Nat} {h : Hp} {Q : Pst} {ls : List Value} {st : List Value} : T d 155 23 ls st h Q ↔ T d 155 24 ls (.int 1 :: st) h Q := T_iconstV c155_23 (by decide)
theorem c155_24 : cod 155 24 = some (.iload 4, 2) := cod_of b155 dX8_staysBy_24
theorem t155_24 {d : Nat} {h : Hp} {Q : Pst} {l0 l1 l2 l3 : Value} {x : Int32} {st : List Value} : T d 155 24 [l0, l1, l2, l3, .int x] st h Q ↔ T d 155 26 [l0, l1, l2, l3, .int x] (.int x :: st) h Q := T_iload c155_24 rfl
theorem c155_26 : cod 155 26 = some (.ishl, 1) := cod_of b155 dX8_staysBy_26
theorem t155_26 {d : Nat} {h : Hp} {Q : Pst} {x y : Int32} {ls : List Value} {st : List Value} : T d 155 26 ls (.int y :: .int x :: st) h Q ↔ T d 155 27 ls (.int (x <<< (y &&& 31)) :: st) h Q := T_ishl c155_26
theorem c155_27 : cod 155 27 = some (.goto 4, 3) := cod_of b155 dX8_staysBy_27
theorem t155_27 {d : Nat} {h : Hp} {Q : Pst} {ls : List Value} {st : List Value} : T d 155 27 ls st h Q ↔ T d 155 31 ls st h Q := T_goto c155_27 (by decide)
theorem c155_31 : cod 155 31 = some (.ior, 1) := cod_of b155 dX8_staysBy_31
theorem t155_31 {d : Nat} {h : Hp} {Q : Pst} {x y : Int32} {ls : List Value} {st : List Value} : T d 155 31 ls (.int y :: .int x :: st) h Q ↔ T d 155 32 ls (.int (x ||| y) :: st) h Q := T_ior c155_31
theorem c155_32 : cod 155 32 = some (.istore_n 3, 1) := cod_of b155 dX8_staysBy_32
theorem t155_32 {d : Nat} {h : Hp} {Q : Pst} {l0 l1 l2 l3 l4 : Value} {x : Int32} {st : List Value} : T d 155 32 [l0, l1, l2, l3, l4] (.int x :: st) h Q ↔ T d 155 33 [l0, l1, kil l2, .int x, l4] st h Q := T_istore_n c155_32 (Nat.le_of_ble_eq_true rfl)
theorem c155_33 : cod 155 33 = some (.iinc 4 1, 3) := cod_of b155 dX8_staysBy_33
theorem t155_33 {d : Nat} {h : Hp} {Q : Pst} {l0 l1 l2 l3 : Value} {x : Int32} {st : List Value} : T d 155 33 [l0, l1, l2, l3, .int x] st h Q ↔ T d 155 36 [l0, l1, l2, kil l3, .int (x + 1)] st h Q := T_iincV c155_33 rfl (Nat.le_of_ble_eq_true rfl) (by decide) rfl
theorem c155_36 : cod 155 36 = some (.goto (-31), 3) := cod_of b155 dX8_staysBy_36
theorem t155_36 {d : Nat} {h : Hp} {Q : Pst} {ls : List Value} {st : List Value} : T d 155 36 ls st h Q ↔ T d 155 5 ls st h Q := T_goto c155_36 (by decide)
theorem c155_30 : cod 155 30 = some (.iconst 0, 1) := cod_of b155 dX8_staysBy_30
theorem t155_30 {d : Nat} {h : Hp} {Q : Pst} {ls : List Value} {st : List Value} : T d 155 30 ls st h Q ↔ T d 155 31 ls (.int 0 :: st) h Q := T_iconstV c155_30 (by decide)
theorem c155_39 : cod 155 39 = some (.iload_n 3, 1) := cod_of b155 dX8_staysBy_39
theorem t155_39 {d : Nat} {h : Hp} {Q : Pst} {l0 l1 l2 l4 : Value} {x : Int32} {st : List Value} : T d 155 39 [l0, l1, l2, .int x, l4] st h Q ↔ T d 155 40 [l0, l1, l2, .int x, l4] (.int x :: st) h Q := T_iload_n c155_39 rfl
theorem c155_40 : cod 155 40 = some (.ireturn, 1) := cod_of b155 dX8_staysBy_40
theorem t155_40 {d : Nat} {h : Hp} {Q : Pst} {x : Int32} {ls : List Value} : T d 155 40 ls [.int x] h Q ↔ Q (some (.int x)) h := T_iretR m155 c155_40 rfl
theorem b156 : (mR 156).2.2.1 = cX8_needOf := by rw [m156]
theorem c156_0 : cod 156 0 = some (.aload_n 0, 1) := cod_of b156 dX8_needOf_0
theorem t156_0 {d : Nat} {h : Hp} {Q : Pst} {l1 l2 : Value} {x : Nat} {st : List Value} : T d 156 0 [.ref x, l1, l2] st h Q ↔ T d 156 1 [.ref x, l1, l2] (.ref x :: st) h Q := T_aload_n c156_0 rfl
theorem c156_1 : cod 156 1 = some (.getfield 7, 3) := cod_of b156 dX8_needOf_1
theorem t156_1 {d : Nat} {h : Hp} {Q : Pst} {a : Nat} {ls : List Value} {st : List Value} : T d 156 1 ls (.ref a :: st) h Q ↔ gF (h.2.2 a) 7 0 (fun v => T d 156 4 ls (v :: st) h Q) := T_getfieldR m156 c156_1 f8_7
theorem c156_4 : cod 156 4 = some (.bipush 26, 2) := cod_of b156 dX8_needOf_4
theorem t156_4 {d : Nat} {h : Hp} {Q : Pst} {ls : List Value} {st : List Value} : T d 156 4 ls st h Q ↔ T d 156 6 ls (.int 26 :: st) h Q := T_bipushV c156_4 (by decide)
theorem c156_6 : cod 156 6 = some (.iload_n 1, 1) := cod_of b156 dX8_needOf_6
theorem t156_6 {d : Nat} {h : Hp} {Q : Pst} {l0 l2 : Value} {x : Int32} {st : List Value} : T d 156 6 [l0, .int x, l2] st h Q ↔ T d 156 7 [l0, .int x, l2] (.int x :: st) h Q := T_iload_n c156_6 rfl
theorem c156_7 : cod 156 7 = some (.iadd, 1) := cod_of b156 dX8_needOf_7
theorem t156_7 {d : Nat} {h : Hp} {Q : Pst} {x y : Int32} {ls : List Value} {st : List Value} : T d 156 7 ls (.int y :: .int x :: st) h Q ↔ T d 156 8 ls (.int (x + y) :: st) h Q := T_iadd c156_7
theorem c156_8 : cod 156 8 = some (.iaload, 1) := cod_of b156 dX8_needOf_8
theorem t156_8 {d : Nat} {h : Hp} {Q : Pst} {a : Nat} {i : Int32} {ls : List Value} {st : List Value} : T d 156 8 ls (.int i :: .ref a :: st) h Q ↔ aL (h.2.2 a) i (fun x => T d 156 9 ls (.int x :: st) h Q) := T_iaload c156_8
theorem c156_9 : cod 156 9 = some (.aload_n 0, 1) := cod_of b156 dX8_needOf_9
theorem t156_9 {d : Nat} {h : Hp} {Q : Pst} {l1 l2 : Value} {x : Nat} {st : List Value} : T d 156 9 [.ref x, l1, l2] st h Q ↔ T d 156 10 [.ref x, l1, l2] (.ref x :: st) h Q := T_aload_n c156_9 rfl
theorem c156_10 : cod 156 10 = some (.getfield 7, 3) := cod_of b156 dX8_needOf_10
theorem t156_10 {d : Nat} {h : Hp} {Q : Pst} {a : Nat} {ls : List Value} {st : List Value} : T d 156 10 ls (.ref a :: st) h Q ↔ gF (h.2.2 a) 7 0 (fun v => T d 156 13 ls (v :: st) h Q) := T_getfieldR m156 c156_10 f8_7
theorem c156_13 : cod 156 13 = some (.bipush 30, 2) := cod_of b156 dX8_needOf_13
theorem t156_13 {d : Nat} {h : Hp} {Q : Pst} {ls : List Value} {st : List Value} : T d 156 13 ls st h Q ↔ T d 156 15 ls (.int 30 :: st) h Q := T_bipushV c156_13 (by decide)
theorem c156_15 : cod 156 15 = some (.iload_n 1, 1) := cod_of b156 dX8_needOf_15
theorem t156_15 {d : Nat} {h : Hp} {Q : Pst} {l0 l2 : Value} {x : Int32} {st : List Value} : T d 156 15 [l0, .int x, l2] st h Q ↔ T d 156 16 [l0, .int x, l2] (.int x :: st) h Q := T_iload_n c156_15 rfl
theorem c156_16 : cod 156 16 = some (.iadd, 1) := cod_of b156 dX8_needOf_16
theorem t156_16 {d : Nat} {h : Hp} {Q : Pst} {x y : Int32} {ls : List Value} {st : List Value} : T d 156 16 ls (.int y :: .int x :: st) h Q ↔ T d 156 17 ls (.int (x + y) :: st) h Q := T_iadd c156_16
theorem c156_17 : cod 156 17 = some (.iaload, 1) := cod_of b156 dX8_needOf_17
theorem t156_17 {d : Nat} {h : Hp} {Q : Pst} {a : Nat} {i : Int32} {ls : List Value} {st : List Value} : T d 156 17 ls (.int i :: .ref a :: st) h Q ↔ aL (h.2.2 a) i (fun x => T d 156 18 ls (.int x :: st) h Q) := T_iaload c156_17
theorem c156_18 : cod 156 18 = some (.iload_n 2, 1) := cod_of b156 dX8_needOf_18
theorem t156_18 {d : Nat} {h : Hp} {Q : Pst} {l0 l1 : Value} {x : Int32} {st : List Value} : T d 156 18 [l0, l1, .int x] st h Q ↔ T d 156 19 [l0, l1, .int x] (.int x :: st) h Q := T_iload_n c156_18 rfl
theorem c156_19 : cod 156 19 = some (.invokestatic 136, 3) := cod_of b156 dX8_needOf_19
theorem t156_19 {d : Nat} {h : Hp} {Q : Pst} {a0 a1 a2 : Int32} {ls : List Value} : T (d + 1) 156 19 ls [.int a2, .int a1, .int a0] h Q ↔ T d 154 0 [.int a0, .int a1, .int a2, un, un] [] h (fun x h2 => T (d + 1) 156 22 ls (rl x []) h2 Q) := T_staticR (as := [.int a0, .int a1, .int a2]) (r := []) m156 m154 c156_19 k8_136 (Or.inl rfl) rfl (by decide) rfl (by simp [wrd, Value.category]) (by simp [stk, Value.category]) rfl
theorem c156_22 : cod 156 22 = some (.ireturn, 1) := cod_of b156 dX8_needOf_22
theorem t156_22 {d : Nat} {h : Hp} {Q : Pst} {x : Int32} {ls : List Value} : T d 156 22 ls [.int x] h Q ↔ Q (some (.int x)) h := T_iretR m156 c156_22 rfl
theorem b157 : (mR 157).2.2.1 = cX8_staysOf := by rw [m157]
theorem c157_0 : cod 157 0 = some (.aload_n 0, 1) := cod_of b157 dX8_staysOf_0
theorem t157_0 {d : Nat} {h : Hp} {Q : Pst} {l1 l2 l3 : Value} {x : Nat} {st : List Value} : T d 157 0 [.ref x, l1, l2, l3] st h Q ↔ T d 157 1 [.ref x, l1, l2, l3] (.ref x :: st) h Q := T_aload_n c157_0 rfl
theorem c157_1 : cod 157 1 = some (.getfield 7, 3) := cod_of b157 dX8_staysOf_1
theorem t157_1 {d : Nat} {h : Hp} {Q : Pst} {a : Nat} {ls : List Value} {st : List Value} : T d 157 1 ls (.ref a :: st) h Q ↔ gF (h.2.2 a) 7 0 (fun v => T d 157 4 ls (v :: st) h Q) := T_getfieldR m157 c157_1 f8_7
theorem c157_4 : cod 157 4 = some (.bipush 13, 2) := cod_of b157 dX8_staysOf_4
theorem t157_4 {d : Nat} {h : Hp} {Q : Pst} {ls : List Value} {st : List Value} : T d 157 4 ls st h Q ↔ T d 157 6 ls (.int 13 :: st) h Q := T_bipushV c157_4 (by decide)
theorem c157_6 : cod 157 6 = some (.iload_n 1, 1) := cod_of b157 dX8_staysOf_6
theorem t157_6 {d : Nat} {h : Hp} {Q : Pst} {l0 l2 l3 : Value} {x : Int32} {st : List Value} : T d 157 6 [l0, .int x, l2, l3] st h Q ↔ T d 157 7 [l0, .int x, l2, l3] (.int x :: st) h Q := T_iload_n c157_6 rfl
theorem c157_7 : cod 157 7 = some (.iadd, 1) := cod_of b157 dX8_staysOf_7
theorem t157_7 {d : Nat} {h : Hp} {Q : Pst} {x y : Int32} {ls : List Value} {st : List Value} : T d 157 7 ls (.int y :: .int x :: st) h Q ↔ T d 157 8 ls (.int (x + y) :: st) h Q := T_iadd c157_7
theorem c157_8 : cod 157 8 = some (.iaload, 1) := cod_of b157 dX8_staysOf_8
theorem t157_8 {d : Nat} {h : Hp} {Q : Pst} {a : Nat} {i : Int32} {ls : List Value} {st : List Value} : T d 157 8 ls (.int i :: .ref a :: st) h Q ↔ aL (h.2.2 a) i (fun x => T d 157 9 ls (.int x :: st) h Q) := T_iaload c157_8
theorem c157_9 : cod 157 9 = some (.aload_n 0, 1) := cod_of b157 dX8_staysOf_9
theorem t157_9 {d : Nat} {h : Hp} {Q : Pst} {l1 l2 l3 : Value} {x : Nat} {st : List Value} : T d 157 9 [.ref x, l1, l2, l3] st h Q ↔ T d 157 10 [.ref x, l1, l2, l3] (.ref x :: st) h Q := T_aload_n c157_9 rfl
theorem c157_10 : cod 157 10 = some (.getfield 7, 3) := cod_of b157 dX8_staysOf_10
theorem t157_10 {d : Nat} {h : Hp} {Q : Pst} {a : Nat} {ls : List Value} {st : List Value} : T d 157 10 ls (.ref a :: st) h Q ↔ gF (h.2.2 a) 7 0 (fun v => T d 157 13 ls (v :: st) h Q) := T_getfieldR m157 c157_10 f8_7
theorem c157_13 : cod 157 13 = some (.bipush 19, 2) := cod_of b157 dX8_staysOf_13
theorem t157_13 {d : Nat} {h : Hp} {Q : Pst} {ls : List Value} {st : List Value} : T d 157 13 ls st h Q ↔ T d 157 15 ls (.int 19 :: st) h Q := T_bipushV c157_13 (by decide)
theorem c157_15 : cod 157 15 = some (.iload_n 1, 1) := cod_of b157 dX8_staysOf_15
theorem t157_15 {d : Nat} {h : Hp} {Q : Pst} {l0 l2 l3 : Value} {x : Int32} {st : List Value} : T d 157 15 [l0, .int x, l2, l3] st h Q ↔ T d 157 16 [l0, .int x, l2, l3] (.int x :: st) h Q := T_iload_n c157_15 rfl
theorem c157_16 : cod 157 16 = some (.iadd, 1) := cod_of b157 dX8_staysOf_16
theorem t157_16 {d : Nat} {h : Hp} {Q : Pst} {x y : Int32} {ls : List Value} {st : List Value} : T d 157 16 ls (.int y :: .int x :: st) h Q ↔ T d 157 17 ls (.int (x + y) :: st) h Q := T_iadd c157_16
theorem c157_17 : cod 157 17 = some (.iaload, 1) := cod_of b157 dX8_staysOf_17
theorem t157_17 {d : Nat} {h : Hp} {Q : Pst} {a : Nat} {i : Int32} {ls : List Value} {st : List Value} : T d 157 17 ls (.int i :: .ref a :: st) h Q ↔ aL (h.2.2 a) i (fun x => T d 157 18 ls (.int x :: st) h Q) := T_iaload c157_17
theorem c157_18 : cod 157 18 = some (.aload_n 0, 1) := cod_of b157 dX8_staysOf_18
theorem t157_18 {d : Nat} {h : Hp} {Q : Pst} {l1 l2 l3 : Value} {x : Nat} {st : List Value} : T d 157 18 [.ref x, l1, l2, l3] st h Q ↔ T d 157 19 [.ref x, l1, l2, l3] (.ref x :: st) h Q := T_aload_n c157_18 rfl
theorem c157_19 : cod 157 19 = some (.iload_n 2, 1) := cod_of b157 dX8_staysOf_19
theorem t157_19 {d : Nat} {h : Hp} {Q : Pst} {l0 l1 l3 : Value} {x : Int32} {st : List Value} : T d 157 19 [l0, l1, .int x, l3] st h Q ↔ T d 157 20 [l0, l1, .int x, l3] (.int x :: st) h Q := T_iload_n c157_19 rfl
theorem c157_20 : cod 157 20 = some (.iload_n 3, 1) := cod_of b157 dX8_staysOf_20
theorem t157_20 {d : Nat} {h : Hp} {Q : Pst} {l0 l1 l2 : Value} {x : Int32} {st : List Value} : T d 157 20 [l0, l1, l2, .int x] st h Q ↔ T d 157 21 [l0, l1, l2, .int x] (.int x :: st) h Q := T_iload_n c157_20 rfl
theorem c157_21 : cod 157 21 = some (.invokevirtual 139, 3) := cod_of b157 dX8_staysOf_21
theorem t157_21 {d : Nat} {h : Hp} {Q : Pst} {a0 a1 s0 s1 : Int32} {a : Nat} {ls : List Value} (ho : isO (h.2.2 a) 7) : T (d + 1) 157 21 ls [.int a1, .int a0, .ref a, .int s0, .int s1] h Q ↔ T d 156 0 [.ref a, .int a0, .int a1] [] h (fun x h2 => T (d + 1) 157 24 ls (rl x [.int s0, .int s1]) h2 Q) := T_virtualR (as := [.int a0, .int a1]) (r := [.int s0, .int s1]) m157 m156 c157_21 k8_139  rfl (by decide) rfl (by simp [wrd, Value.category]) (by simp [stk, Value.category]) rfl (by decide +kernel) ho
theorem c157_24 : cod 157 24 = some (.invokestatic 142, 3) := cod_of b157 dX8_staysOf_24
theorem t157_24 {d : Nat} {h : Hp} {Q : Pst} {a0 a1 a2 : Int32} {ls : List Value} : T (d + 1) 157 24 ls [.int a2, .int a1, .int a0] h Q ↔ T d 155 0 [.int a0, .int a1, .int a2, un, un] [] h (fun x h2 => T (d + 1) 157 27 ls (rl x []) h2 Q) := T_staticR (as := [.int a0, .int a1, .int a2]) (r := []) m157 m155 c157_24 k8_142 (Or.inl rfl) rfl (by decide) rfl (by simp [wrd, Value.category]) (by simp [stk, Value.category]) rfl
theorem c157_27 : cod 157 27 = some (.ireturn, 1) := cod_of b157 dX8_staysOf_27
theorem t157_27 {d : Nat} {h : Hp} {Q : Pst} {x : Int32} {ls : List Value} : T d 157 27 ls [.int x] h Q ↔ Q (some (.int x)) h := T_iretR m157 c157_27 rfl
theorem b158 : (mR 158).2.2.1 = cX8_companyIn := by rw [m158]
theorem c158_0 : cod 158 0 = some (.iconst 0, 1) := cod_of b158 dX8_companyIn_0
theorem t158_0 {d : Nat} {h : Hp} {Q : Pst} {ls : List Value} {st : List Value} : T d 158 0 ls st h Q ↔ T d 158 1 ls (.int 0 :: st) h Q := T_iconstV c158_0 (by decide)
theorem c158_1 : cod 158 1 = some (.istore 4, 2) := cod_of b158 dX8_companyIn_1
theorem t158_1 {d : Nat} {h : Hp} {Q : Pst} {l0 l1 l2 l3 l4 l5 l6 l7 : Value} {x : Int32} {st : List Value} : T d 158 1 [l0, l1, l2, l3, l4, l5, l6, l7] (.int x :: st) h Q ↔ T d 158 3 [l0, l1, l2, kil l3, .int x, l5, l6, l7] st h Q := T_istore c158_1 (Nat.le_of_ble_eq_true rfl)
theorem c158_3 : cod 158 3 = some (.iconst 0, 1) := cod_of b158 dX8_companyIn_3
theorem t158_3 {d : Nat} {h : Hp} {Q : Pst} {ls : List Value} {st : List Value} : T d 158 3 ls st h Q ↔ T d 158 4 ls (.int 0 :: st) h Q := T_iconstV c158_3 (by decide)
theorem c158_4 : cod 158 4 = some (.istore 5, 2) := cod_of b158 dX8_companyIn_4
theorem t158_4 {d : Nat} {h : Hp} {Q : Pst} {l0 l1 l2 l3 l4 l5 l6 l7 : Value} {x : Int32} {st : List Value} : T d 158 4 [l0, l1, l2, l3, l4, l5, l6, l7] (.int x :: st) h Q ↔ T d 158 6 [l0, l1, l2, l3, kil l4, .int x, l6, l7] st h Q := T_istore c158_4 (Nat.le_of_ble_eq_true rfl)
theorem c158_6 : cod 158 6 = some (.iconst 0, 1) := cod_of b158 dX8_companyIn_6
theorem t158_6 {d : Nat} {h : Hp} {Q : Pst} {ls : List Value} {st : List Value} : T d 158 6 ls st h Q ↔ T d 158 7 ls (.int 0 :: st) h Q := T_iconstV c158_6 (by decide)
theorem c158_7 : cod 158 7 = some (.istore 6, 2) := cod_of b158 dX8_companyIn_7
theorem t158_7 {d : Nat} {h : Hp} {Q : Pst} {l0 l1 l2 l3 l4 l5 l6 l7 : Value} {x : Int32} {st : List Value} : T d 158 7 [l0, l1, l2, l3, l4, l5, l6, l7] (.int x :: st) h Q ↔ T d 158 9 [l0, l1, l2, l3, l4, kil l5, .int x, l7] st h Q := T_istore c158_7 (Nat.le_of_ble_eq_true rfl)
theorem c158_9 : cod 158 9 = some (.iload 6, 2) := cod_of b158 dX8_companyIn_9
theorem t158_9 {d : Nat} {h : Hp} {Q : Pst} {l0 l1 l2 l3 l4 l5 l7 : Value} {x : Int32} {st : List Value} : T d 158 9 [l0, l1, l2, l3, l4, l5, .int x, l7] st h Q ↔ T d 158 11 [l0, l1, l2, l3, l4, l5, .int x, l7] (.int x :: st) h Q := T_iload c158_9 rfl
theorem c158_11 : cod 158 11 = some (.aload_n 0, 1) := cod_of b158 dX8_companyIn_11
theorem t158_11 {d : Nat} {h : Hp} {Q : Pst} {l1 l2 l3 l4 l5 l6 l7 : Value} {x : Nat} {st : List Value} : T d 158 11 [.ref x, l1, l2, l3, l4, l5, l6, l7] st h Q ↔ T d 158 12 [.ref x, l1, l2, l3, l4, l5, l6, l7] (.ref x :: st) h Q := T_aload_n c158_11 rfl
theorem c158_12 : cod 158 12 = some (.getfield 7, 3) := cod_of b158 dX8_companyIn_12
theorem t158_12 {d : Nat} {h : Hp} {Q : Pst} {a : Nat} {ls : List Value} {st : List Value} : T d 158 12 ls (.ref a :: st) h Q ↔ gF (h.2.2 a) 7 0 (fun v => T d 158 15 ls (v :: st) h Q) := T_getfieldR m158 c158_12 f8_7
theorem c158_15 : cod 158 15 = some (.bipush 12, 2) := cod_of b158 dX8_companyIn_15
theorem t158_15 {d : Nat} {h : Hp} {Q : Pst} {ls : List Value} {st : List Value} : T d 158 15 ls st h Q ↔ T d 158 17 ls (.int 12 :: st) h Q := T_bipushV c158_15 (by decide)
theorem c158_17 : cod 158 17 = some (.iaload, 1) := cod_of b158 dX8_companyIn_17
theorem t158_17 {d : Nat} {h : Hp} {Q : Pst} {a : Nat} {i : Int32} {ls : List Value} {st : List Value} : T d 158 17 ls (.int i :: .ref a :: st) h Q ↔ aL (h.2.2 a) i (fun x => T d 158 18 ls (.int x :: st) h Q) := T_iaload c158_17
theorem c158_18 : cod 158 18 = some (.if_icmp .ge 71, 3) := cod_of b158 dX8_companyIn_18
theorem t158_18 {d : Nat} {h : Hp} {Q : Pst} {x y : Int32} {ls : List Value} {st : List Value} : T d 158 18 ls (.int y :: .int x :: st) h Q ↔ (if y ≤ x then T d 158 89 ls st h Q else T d 158 21 ls st h Q) := T_icmp_ge c158_18 (by decide)
theorem c158_21 : cod 158 21 = some (.aload_n 0, 1) := cod_of b158 dX8_companyIn_21
theorem t158_21 {d : Nat} {h : Hp} {Q : Pst} {l1 l2 l3 l4 l5 l6 l7 : Value} {x : Nat} {st : List Value} : T d 158 21 [.ref x, l1, l2, l3, l4, l5, l6, l7] st h Q ↔ T d 158 22 [.ref x, l1, l2, l3, l4, l5, l6, l7] (.ref x :: st) h Q := T_aload_n c158_21 rfl
theorem c158_22 : cod 158 22 = some (.getfield 7, 3) := cod_of b158 dX8_companyIn_22
theorem t158_22 {d : Nat} {h : Hp} {Q : Pst} {a : Nat} {ls : List Value} {st : List Value} : T d 158 22 ls (.ref a :: st) h Q ↔ gF (h.2.2 a) 7 0 (fun v => T d 158 25 ls (v :: st) h Q) := T_getfieldR m158 c158_22 f8_7
theorem c158_25 : cod 158 25 = some (.iload_n 1, 1) := cod_of b158 dX8_companyIn_25
theorem t158_25 {d : Nat} {h : Hp} {Q : Pst} {l0 l2 l3 l4 l5 l6 l7 : Value} {x : Int32} {st : List Value} : T d 158 25 [l0, .int x, l2, l3, l4, l5, l6, l7] st h Q ↔ T d 158 26 [l0, .int x, l2, l3, l4, l5, l6, l7] (.int x :: st) h Q := T_iload_n c158_25 rfl
theorem c158_26 : cod 158 26 = some (.iconst 0, 1) := cod_of b158 dX8_companyIn_26
theorem t158_26 {d : Nat} {h : Hp} {Q : Pst} {ls : List Value} {st : List Value} : T d 158 26 ls st h Q ↔ T d 158 27 ls (.int 0 :: st) h Q := T_iconstV c158_26 (by decide)
theorem c158_27 : cod 158 27 = some (.iadd, 1) := cod_of b158 dX8_companyIn_27
theorem t158_27 {d : Nat} {h : Hp} {Q : Pst} {x y : Int32} {ls : List Value} {st : List Value} : T d 158 27 ls (.int y :: .int x :: st) h Q ↔ T d 158 28 ls (.int (x + y) :: st) h Q := T_iadd c158_27
theorem c158_28 : cod 158 28 = some (.iload 6, 2) := cod_of b158 dX8_companyIn_28
theorem t158_28 {d : Nat} {h : Hp} {Q : Pst} {l0 l1 l2 l3 l4 l5 l7 : Value} {x : Int32} {st : List Value} : T d 158 28 [l0, l1, l2, l3, l4, l5, .int x, l7] st h Q ↔ T d 158 30 [l0, l1, l2, l3, l4, l5, .int x, l7] (.int x :: st) h Q := T_iload c158_28 rfl
theorem c158_30 : cod 158 30 = some (.iadd, 1) := cod_of b158 dX8_companyIn_30
theorem t158_30 {d : Nat} {h : Hp} {Q : Pst} {x y : Int32} {ls : List Value} {st : List Value} : T d 158 30 ls (.int y :: .int x :: st) h Q ↔ T d 158 31 ls (.int (x + y) :: st) h Q := T_iadd c158_30
theorem c158_31 : cod 158 31 = some (.iaload, 1) := cod_of b158 dX8_companyIn_31
theorem t158_31 {d : Nat} {h : Hp} {Q : Pst} {a : Nat} {i : Int32} {ls : List Value} {st : List Value} : T d 158 31 ls (.int i :: .ref a :: st) h Q ↔ aL (h.2.2 a) i (fun x => T d 158 32 ls (.int x :: st) h Q) := T_iaload c158_31
theorem c158_32 : cod 158 32 = some (.iload_n 2, 1) := cod_of b158 dX8_companyIn_32
theorem t158_32 {d : Nat} {h : Hp} {Q : Pst} {l0 l1 l3 l4 l5 l6 l7 : Value} {x : Int32} {st : List Value} : T d 158 32 [l0, l1, .int x, l3, l4, l5, l6, l7] st h Q ↔ T d 158 33 [l0, l1, .int x, l3, l4, l5, l6, l7] (.int x :: st) h Q := T_iload_n c158_32 rfl
theorem c158_33 : cod 158 33 = some (.if_icmp .ne 25, 3) := cod_of b158 dX8_companyIn_33
theorem t158_33 {d : Nat} {h : Hp} {Q : Pst} {x y : Int32} {ls : List Value} {st : List Value} : T d 158 33 ls (.int y :: .int x :: st) h Q ↔ (if ¬ x = y then T d 158 58 ls st h Q else T d 158 36 ls st h Q) := T_icmp_ne c158_33 (by decide)
theorem c158_36 : cod 158 36 = some (.aload_n 0, 1) := cod_of b158 dX8_companyIn_36
theorem t158_36 {d : Nat} {h : Hp} {Q : Pst} {l1 l2 l3 l4 l5 l6 l7 : Value} {x : Nat} {st : List Value} : T d 158 36 [.ref x, l1, l2, l3, l4, l5, l6, l7] st h Q ↔ T d 158 37 [.ref x, l1, l2, l3, l4, l5, l6, l7] (.ref x :: st) h Q := T_aload_n c158_36 rfl
theorem c158_37 : cod 158 37 = some (.iload 6, 2) := cod_of b158 dX8_companyIn_37
theorem t158_37 {d : Nat} {h : Hp} {Q : Pst} {l0 l1 l2 l3 l4 l5 l7 : Value} {x : Int32} {st : List Value} : T d 158 37 [l0, l1, l2, l3, l4, l5, .int x, l7] st h Q ↔ T d 158 39 [l0, l1, l2, l3, l4, l5, .int x, l7] (.int x :: st) h Q := T_iload c158_37 rfl
theorem c158_39 : cod 158 39 = some (.iload_n 2, 1) := cod_of b158 dX8_companyIn_39
theorem t158_39 {d : Nat} {h : Hp} {Q : Pst} {l0 l1 l3 l4 l5 l6 l7 : Value} {x : Int32} {st : List Value} : T d 158 39 [l0, l1, .int x, l3, l4, l5, l6, l7] st h Q ↔ T d 158 40 [l0, l1, .int x, l3, l4, l5, l6, l7] (.int x :: st) h Q := T_iload_n c158_39 rfl
theorem c158_40 : cod 158 40 = some (.aload_n 0, 1) := cod_of b158 dX8_companyIn_40
theorem t158_40 {d : Nat} {h : Hp} {Q : Pst} {l1 l2 l3 l4 l5 l6 l7 : Value} {x : Nat} {st : List Value} : T d 158 40 [.ref x, l1, l2, l3, l4, l5, l6, l7] st h Q ↔ T d 158 41 [.ref x, l1, l2, l3, l4, l5, l6, l7] (.ref x :: st) h Q := T_aload_n c158_40 rfl
theorem c158_41 : cod 158 41 = some (.getfield 7, 3) := cod_of b158 dX8_companyIn_41
theorem t158_41 {d : Nat} {h : Hp} {Q : Pst} {a : Nat} {ls : List Value} {st : List Value} : T d 158 41 ls (.ref a :: st) h Q ↔ gF (h.2.2 a) 7 0 (fun v => T d 158 44 ls (v :: st) h Q) := T_getfieldR m158 c158_41 f8_7
theorem c158_44 : cod 158 44 = some (.iload_n 1, 1) := cod_of b158 dX8_companyIn_44
theorem t158_44 {d : Nat} {h : Hp} {Q : Pst} {l0 l2 l3 l4 l5 l6 l7 : Value} {x : Int32} {st : List Value} : T d 158 44 [l0, .int x, l2, l3, l4, l5, l6, l7] st h Q ↔ T d 158 45 [l0, .int x, l2, l3, l4, l5, l6, l7] (.int x :: st) h Q := T_iload_n c158_44 rfl
theorem c158_45 : cod 158 45 = some (.bipush 10, 2) := cod_of b158 dX8_companyIn_45
theorem t158_45 {d : Nat} {h : Hp} {Q : Pst} {ls : List Value} {st : List Value} : T d 158 45 ls st h Q ↔ T d 158 47 ls (.int 10 :: st) h Q := T_bipushV c158_45 (by decide)
theorem c158_47 : cod 158 47 = some (.iadd, 1) := cod_of b158 dX8_companyIn_47
theorem t158_47 {d : Nat} {h : Hp} {Q : Pst} {x y : Int32} {ls : List Value} {st : List Value} : T d 158 47 ls (.int y :: .int x :: st) h Q ↔ T d 158 48 ls (.int (x + y) :: st) h Q := T_iadd c158_47
theorem c158_48 : cod 158 48 = some (.iaload, 1) := cod_of b158 dX8_companyIn_48
theorem t158_48 {d : Nat} {h : Hp} {Q : Pst} {a : Nat} {i : Int32} {ls : List Value} {st : List Value} : T d 158 48 ls (.int i :: .ref a :: st) h Q ↔ aL (h.2.2 a) i (fun x => T d 158 49 ls (.int x :: st) h Q) := T_iaload c158_48
theorem c158_49 : cod 158 49 = some (.invokevirtual 145, 3) := cod_of b158 dX8_companyIn_49
theorem t158_49 {d : Nat} {h : Hp} {Q : Pst} {a0 a1 a2 : Int32} {a : Nat} {ls : List Value} (ho : isO (h.2.2 a) 7) : T (d + 1) 158 49 ls [.int a2, .int a1, .int a0, .ref a] h Q ↔ T d 157 0 [.ref a, .int a0, .int a1, .int a2] [] h (fun x h2 => T (d + 1) 158 52 ls (rl x []) h2 Q) := T_virtualR (as := [.int a0, .int a1, .int a2]) (r := []) m158 m157 c158_49 k8_145  rfl (by decide) rfl (by simp [wrd, Value.category]) (by simp [stk, Value.category]) rfl (by decide +kernel) ho
theorem c158_52 : cod 158 52 = some (.invokestatic 148, 3) := cod_of b158 dX8_companyIn_52
theorem t158_52 {d : Nat} {h : Hp} {Q : Pst} {a0 : Int32} {ls : List Value} : T (d + 1) 158 52 ls [.int a0] h Q ↔ T d 128 0 [.int a0, un, un] [] h (fun x h2 => T (d + 1) 158 55 ls (rl x []) h2 Q) := T_staticR (as := [.int a0]) (r := []) m158 m128 c158_52 k8_148 (Or.inl rfl) rfl (by decide) rfl (by simp [wrd, Value.category]) (by simp [stk, Value.category]) rfl
theorem c158_55 : cod 158 55 = some (.goto 4, 3) := cod_of b158 dX8_companyIn_55
theorem t158_55 {d : Nat} {h : Hp} {Q : Pst} {ls : List Value} {st : List Value} : T d 158 55 ls st h Q ↔ T d 158 59 ls st h Q := T_goto c158_55 (by decide)
theorem c158_59 : cod 158 59 = some (.istore 7, 2) := cod_of b158 dX8_companyIn_59
theorem t158_59 {d : Nat} {h : Hp} {Q : Pst} {l0 l1 l2 l3 l4 l5 l6 l7 : Value} {x : Int32} {st : List Value} : T d 158 59 [l0, l1, l2, l3, l4, l5, l6, l7] (.int x :: st) h Q ↔ T d 158 61 [l0, l1, l2, l3, l4, l5, kil l6, .int x] st h Q := T_istore c158_59 (Nat.le_of_ble_eq_true rfl)
theorem c158_61 : cod 158 61 = some (.iload 4, 2) := cod_of b158 dX8_companyIn_61
theorem t158_61 {d : Nat} {h : Hp} {Q : Pst} {l0 l1 l2 l3 l5 l6 l7 : Value} {x : Int32} {st : List Value} : T d 158 61 [l0, l1, l2, l3, .int x, l5, l6, l7] st h Q ↔ T d 158 63 [l0, l1, l2, l3, .int x, l5, l6, l7] (.int x :: st) h Q := T_iload c158_61 rfl
theorem c158_63 : cod 158 63 = some (.iload 7, 2) := cod_of b158 dX8_companyIn_63
theorem t158_63 {d : Nat} {h : Hp} {Q : Pst} {l0 l1 l2 l3 l4 l5 l6 : Value} {x : Int32} {st : List Value} : T d 158 63 [l0, l1, l2, l3, l4, l5, l6, .int x] st h Q ↔ T d 158 65 [l0, l1, l2, l3, l4, l5, l6, .int x] (.int x :: st) h Q := T_iload c158_63 rfl
theorem c158_65 : cod 158 65 = some (.iadd, 1) := cod_of b158 dX8_companyIn_65
theorem t158_65 {d : Nat} {h : Hp} {Q : Pst} {x y : Int32} {ls : List Value} {st : List Value} : T d 158 65 ls (.int y :: .int x :: st) h Q ↔ T d 158 66 ls (.int (x + y) :: st) h Q := T_iadd c158_65
theorem c158_66 : cod 158 66 = some (.istore 4, 2) := cod_of b158 dX8_companyIn_66
theorem t158_66 {d : Nat} {h : Hp} {Q : Pst} {l0 l1 l2 l3 l4 l5 l6 l7 : Value} {x : Int32} {st : List Value} : T d 158 66 [l0, l1, l2, l3, l4, l5, l6, l7] (.int x :: st) h Q ↔ T d 158 68 [l0, l1, l2, kil l3, .int x, l5, l6, l7] st h Q := T_istore c158_66 (Nat.le_of_ble_eq_true rfl)
theorem c158_68 : cod 158 68 = some (.iload 5, 2) := cod_of b158 dX8_companyIn_68
theorem t158_68 {d : Nat} {h : Hp} {Q : Pst} {l0 l1 l2 l3 l4 l6 l7 : Value} {x : Int32} {st : List Value} : T d 158 68 [l0, l1, l2, l3, l4, .int x, l6, l7] st h Q ↔ T d 158 70 [l0, l1, l2, l3, l4, .int x, l6, l7] (.int x :: st) h Q := T_iload c158_68 rfl
theorem c158_70 : cod 158 70 = some (.iload 7, 2) := cod_of b158 dX8_companyIn_70
theorem t158_70 {d : Nat} {h : Hp} {Q : Pst} {l0 l1 l2 l3 l4 l5 l6 : Value} {x : Int32} {st : List Value} : T d 158 70 [l0, l1, l2, l3, l4, l5, l6, .int x] st h Q ↔ T d 158 72 [l0, l1, l2, l3, l4, l5, l6, .int x] (.int x :: st) h Q := T_iload c158_70 rfl
theorem c158_72 : cod 158 72 = some (.ifCond .le 7, 3) := cod_of b158 dX8_companyIn_72
theorem t158_72 {d : Nat} {h : Hp} {Q : Pst} {x : Int32} {ls : List Value} {st : List Value} : T d 158 72 ls (.int x :: st) h Q ↔ (if x ≤ 0 then T d 158 79 ls st h Q else T d 158 75 ls st h Q) := T_if_le c158_72 (by decide)
theorem c158_75 : cod 158 75 = some (.iconst 1, 1) := cod_of b158 dX8_companyIn_75
theorem t158_75 {d : Nat} {h : Hp} {Q : Pst} {ls : List Value} {st : List Value} : T d 158 75 ls st h Q ↔ T d 158 76 ls (.int 1 :: st) h Q := T_iconstV c158_75 (by decide)
theorem c158_76 : cod 158 76 = some (.goto 4, 3) := cod_of b158 dX8_companyIn_76
theorem t158_76 {d : Nat} {h : Hp} {Q : Pst} {ls : List Value} {st : List Value} : T d 158 76 ls st h Q ↔ T d 158 80 ls st h Q := T_goto c158_76 (by decide)
theorem c158_80 : cod 158 80 = some (.iadd, 1) := cod_of b158 dX8_companyIn_80
theorem t158_80 {d : Nat} {h : Hp} {Q : Pst} {x y : Int32} {ls : List Value} {st : List Value} : T d 158 80 ls (.int y :: .int x :: st) h Q ↔ T d 158 81 ls (.int (x + y) :: st) h Q := T_iadd c158_80
theorem c158_81 : cod 158 81 = some (.istore 5, 2) := cod_of b158 dX8_companyIn_81
theorem t158_81 {d : Nat} {h : Hp} {Q : Pst} {l0 l1 l2 l3 l4 l5 l6 l7 : Value} {x : Int32} {st : List Value} : T d 158 81 [l0, l1, l2, l3, l4, l5, l6, l7] (.int x :: st) h Q ↔ T d 158 83 [l0, l1, l2, l3, kil l4, .int x, l6, l7] st h Q := T_istore c158_81 (Nat.le_of_ble_eq_true rfl)
theorem c158_83 : cod 158 83 = some (.iinc 6 1, 3) := cod_of b158 dX8_companyIn_83
theorem t158_83 {d : Nat} {h : Hp} {Q : Pst} {l0 l1 l2 l3 l4 l5 l7 : Value} {x : Int32} {st : List Value} : T d 158 83 [l0, l1, l2, l3, l4, l5, .int x, l7] st h Q ↔ T d 158 86 [l0, l1, l2, l3, l4, kil l5, .int (x + 1), l7] st h Q := T_iincV c158_83 rfl (Nat.le_of_ble_eq_true rfl) (by decide) rfl
theorem c158_86 : cod 158 86 = some (.goto (-77), 3) := cod_of b158 dX8_companyIn_86
theorem t158_86 {d : Nat} {h : Hp} {Q : Pst} {ls : List Value} {st : List Value} : T d 158 86 ls st h Q ↔ T d 158 9 ls st h Q := T_goto c158_86 (by decide)
theorem c158_79 : cod 158 79 = some (.iconst 0, 1) := cod_of b158 dX8_companyIn_79
theorem t158_79 {d : Nat} {h : Hp} {Q : Pst} {ls : List Value} {st : List Value} : T d 158 79 ls st h Q ↔ T d 158 80 ls (.int 0 :: st) h Q := T_iconstV c158_79 (by decide)
theorem c158_58 : cod 158 58 = some (.iconst 0, 1) := cod_of b158 dX8_companyIn_58
theorem t158_58 {d : Nat} {h : Hp} {Q : Pst} {ls : List Value} {st : List Value} : T d 158 58 ls st h Q ↔ T d 158 59 ls (.int 0 :: st) h Q := T_iconstV c158_58 (by decide)
theorem c158_89 : cod 158 89 = some (.iload_n 3, 1) := cod_of b158 dX8_companyIn_89
theorem t158_89 {d : Nat} {h : Hp} {Q : Pst} {l0 l1 l2 l4 l5 l6 l7 : Value} {x : Int32} {st : List Value} : T d 158 89 [l0, l1, l2, .int x, l4, l5, l6, l7] st h Q ↔ T d 158 90 [l0, l1, l2, .int x, l4, l5, l6, l7] (.int x :: st) h Q := T_iload_n c158_89 rfl
theorem c158_90 : cod 158 90 = some (.ifCond .ne 8, 3) := cod_of b158 dX8_companyIn_90
theorem t158_90 {d : Nat} {h : Hp} {Q : Pst} {x : Int32} {ls : List Value} {st : List Value} : T d 158 90 ls (.int x :: st) h Q ↔ (if ¬ x = 0 then T d 158 98 ls st h Q else T d 158 93 ls st h Q) := T_if_ne c158_90 (by decide)
theorem c158_93 : cod 158 93 = some (.iload 4, 2) := cod_of b158 dX8_companyIn_93
theorem t158_93 {d : Nat} {h : Hp} {Q : Pst} {l0 l1 l2 l3 l5 l6 l7 : Value} {x : Int32} {st : List Value} : T d 158 93 [l0, l1, l2, l3, .int x, l5, l6, l7] st h Q ↔ T d 158 95 [l0, l1, l2, l3, .int x, l5, l6, l7] (.int x :: st) h Q := T_iload c158_93 rfl
theorem c158_95 : cod 158 95 = some (.goto 12, 3) := cod_of b158 dX8_companyIn_95
theorem t158_95 {d : Nat} {h : Hp} {Q : Pst} {ls : List Value} {st : List Value} : T d 158 95 ls st h Q ↔ T d 158 107 ls st h Q := T_goto c158_95 (by decide)
theorem c158_107 : cod 158 107 = some (.ireturn, 1) := cod_of b158 dX8_companyIn_107
theorem t158_107 {d : Nat} {h : Hp} {Q : Pst} {x : Int32} {ls : List Value} : T d 158 107 ls [.int x] h Q ↔ Q (some (.int x)) h := T_iretR m158 c158_107 rfl
theorem c158_98 : cod 158 98 = some (.iload 5, 2) := cod_of b158 dX8_companyIn_98
theorem t158_98 {d : Nat} {h : Hp} {Q : Pst} {l0 l1 l2 l3 l4 l6 l7 : Value} {x : Int32} {st : List Value} : T d 158 98 [l0, l1, l2, l3, l4, .int x, l6, l7] st h Q ↔ T d 158 100 [l0, l1, l2, l3, l4, .int x, l6, l7] (.int x :: st) h Q := T_iload c158_98 rfl
theorem c158_100 : cod 158 100 = some (.iload 5, 2) := cod_of b158 dX8_companyIn_100
theorem t158_100 {d : Nat} {h : Hp} {Q : Pst} {l0 l1 l2 l3 l4 l6 l7 : Value} {x : Int32} {st : List Value} : T d 158 100 [l0, l1, l2, l3, l4, .int x, l6, l7] st h Q ↔ T d 158 102 [l0, l1, l2, l3, l4, .int x, l6, l7] (.int x :: st) h Q := T_iload c158_100 rfl
theorem c158_102 : cod 158 102 = some (.iconst 1, 1) := cod_of b158 dX8_companyIn_102
theorem t158_102 {d : Nat} {h : Hp} {Q : Pst} {ls : List Value} {st : List Value} : T d 158 102 ls st h Q ↔ T d 158 103 ls (.int 1 :: st) h Q := T_iconstV c158_102 (by decide)
theorem c158_103 : cod 158 103 = some (.isub, 1) := cod_of b158 dX8_companyIn_103
theorem t158_103 {d : Nat} {h : Hp} {Q : Pst} {x y : Int32} {ls : List Value} {st : List Value} : T d 158 103 ls (.int y :: .int x :: st) h Q ↔ T d 158 104 ls (.int (x - y) :: st) h Q := T_isub c158_103
theorem c158_104 : cod 158 104 = some (.imul, 1) := cod_of b158 dX8_companyIn_104
theorem t158_104 {d : Nat} {h : Hp} {Q : Pst} {x y : Int32} {ls : List Value} {st : List Value} : T d 158 104 ls (.int y :: .int x :: st) h Q ↔ T d 158 105 ls (.int (x * y) :: st) h Q := T_imul c158_104
theorem c158_105 : cod 158 105 = some (.iconst 2, 1) := cod_of b158 dX8_companyIn_105
theorem t158_105 {d : Nat} {h : Hp} {Q : Pst} {ls : List Value} {st : List Value} : T d 158 105 ls st h Q ↔ T d 158 106 ls (.int 2 :: st) h Q := T_iconstV c158_105 (by decide)
theorem c158_106 : cod 158 106 = some (.idiv, 1) := cod_of b158 dX8_companyIn_106
theorem t158_106 {d : Nat} {h : Hp} {Q : Pst} {x y : Int32} {ls : List Value} {st : List Value} : T d 158 106 ls (.int y :: .int x :: st) h Q ↔ (¬ y = 0 ∧ T d 158 107 ls (.int (x / y) :: st) h Q) := T_idiv c158_106
theorem b159 : (mR 159).2.2.1 = cX8_passes := by rw [m159]
theorem c159_0 : cod 159 0 = some (.iconst 0, 1) := cod_of b159 dX8_passes_0
theorem t159_0 {d : Nat} {h : Hp} {Q : Pst} {ls : List Value} {st : List Value} : T d 159 0 ls st h Q ↔ T d 159 1 ls (.int 0 :: st) h Q := T_iconstV c159_0 (by decide)
theorem c159_1 : cod 159 1 = some (.istore_n 2, 1) := cod_of b159 dX8_passes_1
theorem t159_1 {d : Nat} {h : Hp} {Q : Pst} {l0 l1 l2 l3 : Value} {x : Int32} {st : List Value} : T d 159 1 [l0, l1, l2, l3] (.int x :: st) h Q ↔ T d 159 2 [l0, kil l1, .int x, l3] st h Q := T_istore_n c159_1 (Nat.le_of_ble_eq_true rfl)
theorem c159_2 : cod 159 2 = some (.iload_n 2, 1) := cod_of b159 dX8_passes_2
theorem t159_2 {d : Nat} {h : Hp} {Q : Pst} {l0 l1 l3 : Value} {x : Int32} {st : List Value} : T d 159 2 [l0, l1, .int x, l3] st h Q ↔ T d 159 3 [l0, l1, .int x, l3] (.int x :: st) h Q := T_iload_n c159_2 rfl
theorem c159_3 : cod 159 3 = some (.aload_n 0, 1) := cod_of b159 dX8_passes_3
theorem t159_3 {d : Nat} {h : Hp} {Q : Pst} {l1 l2 l3 : Value} {x : Nat} {st : List Value} : T d 159 3 [.ref x, l1, l2, l3] st h Q ↔ T d 159 4 [.ref x, l1, l2, l3] (.ref x :: st) h Q := T_aload_n c159_3 rfl
theorem c159_4 : cod 159 4 = some (.getfield 7, 3) := cod_of b159 dX8_passes_4
theorem t159_4 {d : Nat} {h : Hp} {Q : Pst} {a : Nat} {ls : List Value} {st : List Value} : T d 159 4 ls (.ref a :: st) h Q ↔ gF (h.2.2 a) 7 0 (fun v => T d 159 7 ls (v :: st) h Q) := T_getfieldR m159 c159_4 f8_7
theorem c159_7 : cod 159 7 = some (.bipush 25, 2) := cod_of b159 dX8_passes_7
theorem t159_7 {d : Nat} {h : Hp} {Q : Pst} {ls : List Value} {st : List Value} : T d 159 7 ls st h Q ↔ T d 159 9 ls (.int 25 :: st) h Q := T_bipushV c159_7 (by decide)
theorem c159_9 : cod 159 9 = some (.iaload, 1) := cod_of b159 dX8_passes_9
theorem t159_9 {d : Nat} {h : Hp} {Q : Pst} {a : Nat} {i : Int32} {ls : List Value} {st : List Value} : T d 159 9 ls (.int i :: .ref a :: st) h Q ↔ aL (h.2.2 a) i (fun x => T d 159 10 ls (.int x :: st) h Q) := T_iaload c159_9
theorem c159_10 : cod 159 10 = some (.if_icmp .ge 64, 3) := cod_of b159 dX8_passes_10
theorem t159_10 {d : Nat} {h : Hp} {Q : Pst} {x y : Int32} {ls : List Value} {st : List Value} : T d 159 10 ls (.int y :: .int x :: st) h Q ↔ (if y ≤ x then T d 159 74 ls st h Q else T d 159 13 ls st h Q) := T_icmp_ge c159_10 (by decide)
theorem c159_13 : cod 159 13 = some (.aload_n 0, 1) := cod_of b159 dX8_passes_13
theorem t159_13 {d : Nat} {h : Hp} {Q : Pst} {l1 l2 l3 : Value} {x : Nat} {st : List Value} : T d 159 13 [.ref x, l1, l2, l3] st h Q ↔ T d 159 14 [.ref x, l1, l2, l3] (.ref x :: st) h Q := T_aload_n c159_13 rfl
theorem c159_14 : cod 159 14 = some (.getfield 7, 3) := cod_of b159 dX8_passes_14
theorem t159_14 {d : Nat} {h : Hp} {Q : Pst} {a : Nat} {ls : List Value} {st : List Value} : T d 159 14 ls (.ref a :: st) h Q ↔ gF (h.2.2 a) 7 0 (fun v => T d 159 17 ls (v :: st) h Q) := T_getfieldR m159 c159_14 f8_7
theorem c159_17 : cod 159 17 = some (.iload_n 1, 1) := cod_of b159 dX8_passes_17
theorem t159_17 {d : Nat} {h : Hp} {Q : Pst} {l0 l2 l3 : Value} {x : Int32} {st : List Value} : T d 159 17 [l0, .int x, l2, l3] st h Q ↔ T d 159 18 [l0, .int x, l2, l3] (.int x :: st) h Q := T_iload_n c159_17 rfl
theorem c159_18 : cod 159 18 = some (.bipush 6, 2) := cod_of b159 dX8_passes_18
theorem t159_18 {d : Nat} {h : Hp} {Q : Pst} {ls : List Value} {st : List Value} : T d 159 18 ls st h Q ↔ T d 159 20 ls (.int 6 :: st) h Q := T_bipushV c159_18 (by decide)
theorem c159_20 : cod 159 20 = some (.iadd, 1) := cod_of b159 dX8_passes_20
theorem t159_20 {d : Nat} {h : Hp} {Q : Pst} {x y : Int32} {ls : List Value} {st : List Value} : T d 159 20 ls (.int y :: .int x :: st) h Q ↔ T d 159 21 ls (.int (x + y) :: st) h Q := T_iadd c159_20
theorem c159_21 : cod 159 21 = some (.iload_n 2, 1) := cod_of b159 dX8_passes_21
theorem t159_21 {d : Nat} {h : Hp} {Q : Pst} {l0 l1 l3 : Value} {x : Int32} {st : List Value} : T d 159 21 [l0, l1, .int x, l3] st h Q ↔ T d 159 22 [l0, l1, .int x, l3] (.int x :: st) h Q := T_iload_n c159_21 rfl
theorem c159_22 : cod 159 22 = some (.iadd, 1) := cod_of b159 dX8_passes_22
theorem t159_22 {d : Nat} {h : Hp} {Q : Pst} {x y : Int32} {ls : List Value} {st : List Value} : T d 159 22 ls (.int y :: .int x :: st) h Q ↔ T d 159 23 ls (.int (x + y) :: st) h Q := T_iadd c159_22
theorem c159_23 : cod 159 23 = some (.iaload, 1) := cod_of b159 dX8_passes_23
theorem t159_23 {d : Nat} {h : Hp} {Q : Pst} {a : Nat} {i : Int32} {ls : List Value} {st : List Value} : T d 159 23 ls (.int i :: .ref a :: st) h Q ↔ aL (h.2.2 a) i (fun x => T d 159 24 ls (.int x :: st) h Q) := T_iaload c159_23
theorem c159_24 : cod 159 24 = some (.aload_n 0, 1) := cod_of b159 dX8_passes_24
theorem t159_24 {d : Nat} {h : Hp} {Q : Pst} {l1 l2 l3 : Value} {x : Nat} {st : List Value} : T d 159 24 [.ref x, l1, l2, l3] st h Q ↔ T d 159 25 [.ref x, l1, l2, l3] (.ref x :: st) h Q := T_aload_n c159_24 rfl
theorem c159_25 : cod 159 25 = some (.iload_n 1, 1) := cod_of b159 dX8_passes_25
theorem t159_25 {d : Nat} {h : Hp} {Q : Pst} {l0 l2 l3 : Value} {x : Int32} {st : List Value} : T d 159 25 [l0, .int x, l2, l3] st h Q ↔ T d 159 26 [l0, .int x, l2, l3] (.int x :: st) h Q := T_iload_n c159_25 rfl
theorem c159_26 : cod 159 26 = some (.iload_n 2, 1) := cod_of b159 dX8_passes_26
theorem t159_26 {d : Nat} {h : Hp} {Q : Pst} {l0 l1 l3 : Value} {x : Int32} {st : List Value} : T d 159 26 [l0, l1, .int x, l3] st h Q ↔ T d 159 27 [l0, l1, .int x, l3] (.int x :: st) h Q := T_iload_n c159_26 rfl
theorem c159_27 : cod 159 27 = some (.iconst 0, 1) := cod_of b159 dX8_passes_27
theorem t159_27 {d : Nat} {h : Hp} {Q : Pst} {ls : List Value} {st : List Value} : T d 159 27 ls st h Q ↔ T d 159 28 ls (.int 0 :: st) h Q := T_iconstV c159_27 (by decide)
theorem c159_28 : cod 159 28 = some (.invokevirtual 151, 3) := cod_of b159 dX8_passes_28
theorem t159_28 {d : Nat} {h : Hp} {Q : Pst} {a0 a1 a2 s0 : Int32} {a : Nat} {ls : List Value} (ho : isO (h.2.2 a) 7) : T (d + 1) 159 28 ls [.int a2, .int a1, .int a0, .ref a, .int s0] h Q ↔ T d 158 0 [.ref a, .int a0, .int a1, .int a2, un, un, un, un] [] h (fun x h2 => T (d + 1) 159 31 ls (rl x [.int s0]) h2 Q) := T_virtualR (as := [.int a0, .int a1, .int a2]) (r := [.int s0]) m159 m158 c159_28 k8_151  rfl (by decide) rfl (by simp [wrd, Value.category]) (by simp [stk, Value.category]) rfl (by decide +kernel) ho
theorem c159_31 : cod 159 31 = some (.iadd, 1) := cod_of b159 dX8_passes_31
theorem t159_31 {d : Nat} {h : Hp} {Q : Pst} {x y : Int32} {ls : List Value} {st : List Value} : T d 159 31 ls (.int y :: .int x :: st) h Q ↔ T d 159 32 ls (.int (x + y) :: st) h Q := T_iadd c159_31
theorem c159_32 : cod 159 32 = some (.iconst 2, 1) := cod_of b159 dX8_passes_32
theorem t159_32 {d : Nat} {h : Hp} {Q : Pst} {ls : List Value} {st : List Value} : T d 159 32 ls st h Q ↔ T d 159 33 ls (.int 2 :: st) h Q := T_iconstV c159_32 (by decide)
theorem c159_33 : cod 159 33 = some (.aload_n 0, 1) := cod_of b159 dX8_passes_33
theorem t159_33 {d : Nat} {h : Hp} {Q : Pst} {l1 l2 l3 : Value} {x : Nat} {st : List Value} : T d 159 33 [.ref x, l1, l2, l3] st h Q ↔ T d 159 34 [.ref x, l1, l2, l3] (.ref x :: st) h Q := T_aload_n c159_33 rfl
theorem c159_34 : cod 159 34 = some (.iload_n 1, 1) := cod_of b159 dX8_passes_34
theorem t159_34 {d : Nat} {h : Hp} {Q : Pst} {l0 l2 l3 : Value} {x : Int32} {st : List Value} : T d 159 34 [l0, .int x, l2, l3] st h Q ↔ T d 159 35 [l0, .int x, l2, l3] (.int x :: st) h Q := T_iload_n c159_34 rfl
theorem c159_35 : cod 159 35 = some (.iload_n 2, 1) := cod_of b159 dX8_passes_35
theorem t159_35 {d : Nat} {h : Hp} {Q : Pst} {l0 l1 l3 : Value} {x : Int32} {st : List Value} : T d 159 35 [l0, l1, .int x, l3] st h Q ↔ T d 159 36 [l0, l1, .int x, l3] (.int x :: st) h Q := T_iload_n c159_35 rfl
theorem c159_36 : cod 159 36 = some (.iconst 1, 1) := cod_of b159 dX8_passes_36
theorem t159_36 {d : Nat} {h : Hp} {Q : Pst} {ls : List Value} {st : List Value} : T d 159 36 ls st h Q ↔ T d 159 37 ls (.int 1 :: st) h Q := T_iconstV c159_36 (by decide)
theorem c159_37 : cod 159 37 = some (.invokevirtual 151, 3) := cod_of b159 dX8_passes_37
theorem t159_37 {d : Nat} {h : Hp} {Q : Pst} {a0 a1 a2 s0 s1 : Int32} {a : Nat} {ls : List Value} (ho : isO (h.2.2 a) 7) : T (d + 1) 159 37 ls [.int a2, .int a1, .int a0, .ref a, .int s0, .int s1] h Q ↔ T d 158 0 [.ref a, .int a0, .int a1, .int a2, un, un, un, un] [] h (fun x h2 => T (d + 1) 159 40 ls (rl x [.int s0, .int s1]) h2 Q) := T_virtualR (as := [.int a0, .int a1, .int a2]) (r := [.int s0, .int s1]) m159 m158 c159_37 k8_151  rfl (by decide) rfl (by simp [wrd, Value.category]) (by simp [stk, Value.category]) rfl (by decide +kernel) ho
theorem c159_40 : cod 159 40 = some (.imul, 1) := cod_of b159 dX8_passes_40
theorem t159_40 {d : Nat} {h : Hp} {Q : Pst} {x y : Int32} {ls : List Value} {st : List Value} : T d 159 40 ls (.int y :: .int x :: st) h Q ↔ T d 159 41 ls (.int (x * y) :: st) h Q := T_imul c159_40
theorem c159_41 : cod 159 41 = some (.iadd, 1) := cod_of b159 dX8_passes_41
theorem t159_41 {d : Nat} {h : Hp} {Q : Pst} {x y : Int32} {ls : List Value} {st : List Value} : T d 159 41 ls (.int y :: .int x :: st) h Q ↔ T d 159 42 ls (.int (x + y) :: st) h Q := T_iadd c159_41
theorem c159_42 : cod 159 42 = some (.istore_n 3, 1) := cod_of b159 dX8_passes_42
theorem t159_42 {d : Nat} {h : Hp} {Q : Pst} {l0 l1 l2 l3 : Value} {x : Int32} {st : List Value} : T d 159 42 [l0, l1, l2, l3] (.int x :: st) h Q ↔ T d 159 43 [l0, l1, kil l2, .int x] st h Q := T_istore_n c159_42 (Nat.le_of_ble_eq_true rfl)
theorem c159_43 : cod 159 43 = some (.aload_n 0, 1) := cod_of b159 dX8_passes_43
theorem t159_43 {d : Nat} {h : Hp} {Q : Pst} {l1 l2 l3 : Value} {x : Nat} {st : List Value} : T d 159 43 [.ref x, l1, l2, l3] st h Q ↔ T d 159 44 [.ref x, l1, l2, l3] (.ref x :: st) h Q := T_aload_n c159_43 rfl
theorem c159_44 : cod 159 44 = some (.getfield 7, 3) := cod_of b159 dX8_passes_44
theorem t159_44 {d : Nat} {h : Hp} {Q : Pst} {a : Nat} {ls : List Value} {st : List Value} : T d 159 44 ls (.ref a :: st) h Q ↔ gF (h.2.2 a) 7 0 (fun v => T d 159 47 ls (v :: st) h Q) := T_getfieldR m159 c159_44 f8_7
theorem c159_47 : cod 159 47 = some (.iload_n 1, 1) := cod_of b159 dX8_passes_47
theorem t159_47 {d : Nat} {h : Hp} {Q : Pst} {l0 l2 l3 : Value} {x : Int32} {st : List Value} : T d 159 47 [l0, .int x, l2, l3] st h Q ↔ T d 159 48 [l0, .int x, l2, l3] (.int x :: st) h Q := T_iload_n c159_47 rfl
theorem c159_48 : cod 159 48 = some (.bipush 6, 2) := cod_of b159 dX8_passes_48
theorem t159_48 {d : Nat} {h : Hp} {Q : Pst} {ls : List Value} {st : List Value} : T d 159 48 ls st h Q ↔ T d 159 50 ls (.int 6 :: st) h Q := T_bipushV c159_48 (by decide)
theorem c159_50 : cod 159 50 = some (.iadd, 1) := cod_of b159 dX8_passes_50
theorem t159_50 {d : Nat} {h : Hp} {Q : Pst} {x y : Int32} {ls : List Value} {st : List Value} : T d 159 50 ls (.int y :: .int x :: st) h Q ↔ T d 159 51 ls (.int (x + y) :: st) h Q := T_iadd c159_50
theorem c159_51 : cod 159 51 = some (.iload_n 2, 1) := cod_of b159 dX8_passes_51
theorem t159_51 {d : Nat} {h : Hp} {Q : Pst} {l0 l1 l3 : Value} {x : Int32} {st : List Value} : T d 159 51 [l0, l1, .int x, l3] st h Q ↔ T d 159 52 [l0, l1, .int x, l3] (.int x :: st) h Q := T_iload_n c159_51 rfl
theorem c159_52 : cod 159 52 = some (.iadd, 1) := cod_of b159 dX8_passes_52
theorem t159_52 {d : Nat} {h : Hp} {Q : Pst} {x y : Int32} {ls : List Value} {st : List Value} : T d 159 52 ls (.int y :: .int x :: st) h Q ↔ T d 159 53 ls (.int (x + y) :: st) h Q := T_iadd c159_52
theorem c159_53 : cod 159 53 = some (.iload_n 3, 1) := cod_of b159 dX8_passes_53
theorem t159_53 {d : Nat} {h : Hp} {Q : Pst} {l0 l1 l2 : Value} {x : Int32} {st : List Value} : T d 159 53 [l0, l1, l2, .int x] st h Q ↔ T d 159 54 [l0, l1, l2, .int x] (.int x :: st) h Q := T_iload_n c159_53 rfl
theorem c159_54 : cod 159 54 = some (.sipush 9999, 3) := cod_of b159 dX8_passes_54
theorem t159_54 {d : Nat} {h : Hp} {Q : Pst} {ls : List Value} {st : List Value} : T d 159 54 ls st h Q ↔ T d 159 57 ls (.int 9999 :: st) h Q := T_sipushV c159_54 (by decide)
theorem c159_57 : cod 159 57 = some (.if_icmp .le 9, 3) := cod_of b159 dX8_passes_57
theorem t159_57 {d : Nat} {h : Hp} {Q : Pst} {x y : Int32} {ls : List Value} {st : List Value} : T d 159 57 ls (.int y :: .int x :: st) h Q ↔ (if x ≤ y then T d 159 66 ls st h Q else T d 159 60 ls st h Q) := T_icmp_le c159_57 (by decide)
theorem c159_60 : cod 159 60 = some (.sipush 9999, 3) := cod_of b159 dX8_passes_60
theorem t159_60 {d : Nat} {h : Hp} {Q : Pst} {ls : List Value} {st : List Value} : T d 159 60 ls st h Q ↔ T d 159 63 ls (.int 9999 :: st) h Q := T_sipushV c159_60 (by decide)
theorem c159_63 : cod 159 63 = some (.goto 4, 3) := cod_of b159 dX8_passes_63
theorem t159_63 {d : Nat} {h : Hp} {Q : Pst} {ls : List Value} {st : List Value} : T d 159 63 ls st h Q ↔ T d 159 67 ls st h Q := T_goto c159_63 (by decide)
theorem c159_67 : cod 159 67 = some (.iastore, 1) := cod_of b159 dX8_passes_67
theorem t159_67 {d : Nat} {h : Hp} {Q : Pst} {a : Nat} {i x : Int32} {ls : List Value} {st : List Value} : T d 159 67 ls (.int x :: .int i :: .ref a :: st) h Q ↔ aS (h.2.2 a) i x (fun cell => T d 159 68 ls st (hup h a cell) Q) := T_iastore c159_67
theorem c159_68 : cod 159 68 = some (.iinc 2 1, 3) := cod_of b159 dX8_passes_68
theorem t159_68 {d : Nat} {h : Hp} {Q : Pst} {l0 l1 l3 : Value} {x : Int32} {st : List Value} : T d 159 68 [l0, l1, .int x, l3] st h Q ↔ T d 159 71 [l0, kil l1, .int (x + 1), l3] st h Q := T_iincV c159_68 rfl (Nat.le_of_ble_eq_true rfl) (by decide) rfl
theorem c159_71 : cod 159 71 = some (.goto (-69), 3) := cod_of b159 dX8_passes_71
theorem t159_71 {d : Nat} {h : Hp} {Q : Pst} {ls : List Value} {st : List Value} : T d 159 71 ls st h Q ↔ T d 159 2 ls st h Q := T_goto c159_71 (by decide)
theorem c159_66 : cod 159 66 = some (.iload_n 3, 1) := cod_of b159 dX8_passes_66
theorem t159_66 {d : Nat} {h : Hp} {Q : Pst} {l0 l1 l2 : Value} {x : Int32} {st : List Value} : T d 159 66 [l0, l1, l2, .int x] st h Q ↔ T d 159 67 [l0, l1, l2, .int x] (.int x :: st) h Q := T_iload_n c159_66 rfl
theorem c159_74 : cod 159 74 = some (.aload_n 0, 1) := cod_of b159 dX8_passes_74
theorem t159_74 {d : Nat} {h : Hp} {Q : Pst} {l1 l2 l3 : Value} {x : Nat} {st : List Value} : T d 159 74 [.ref x, l1, l2, l3] st h Q ↔ T d 159 75 [.ref x, l1, l2, l3] (.ref x :: st) h Q := T_aload_n c159_74 rfl
theorem c159_75 : cod 159 75 = some (.getfield 7, 3) := cod_of b159 dX8_passes_75
theorem t159_75 {d : Nat} {h : Hp} {Q : Pst} {a : Nat} {ls : List Value} {st : List Value} : T d 159 75 ls (.ref a :: st) h Q ↔ gF (h.2.2 a) 7 0 (fun v => T d 159 78 ls (v :: st) h Q) := T_getfieldR m159 c159_75 f8_7
theorem c159_78 : cod 159 78 = some (.iload_n 1, 1) := cod_of b159 dX8_passes_78
theorem t159_78 {d : Nat} {h : Hp} {Q : Pst} {l0 l2 l3 : Value} {x : Int32} {st : List Value} : T d 159 78 [l0, .int x, l2, l3] st h Q ↔ T d 159 79 [l0, .int x, l2, l3] (.int x :: st) h Q := T_iload_n c159_78 rfl
theorem c159_79 : cod 159 79 = some (.bipush 11, 2) := cod_of b159 dX8_passes_79
theorem t159_79 {d : Nat} {h : Hp} {Q : Pst} {ls : List Value} {st : List Value} : T d 159 79 ls st h Q ↔ T d 159 81 ls (.int 11 :: st) h Q := T_bipushV c159_79 (by decide)
theorem c159_81 : cod 159 81 = some (.iadd, 1) := cod_of b159 dX8_passes_81
theorem t159_81 {d : Nat} {h : Hp} {Q : Pst} {x y : Int32} {ls : List Value} {st : List Value} : T d 159 81 ls (.int y :: .int x :: st) h Q ↔ T d 159 82 ls (.int (x + y) :: st) h Q := T_iadd c159_81
theorem c159_82 : cod 159 82 = some (.dup2, 1) := cod_of b159 dX8_passes_82
theorem t159_82 {d : Nat} {h : Hp} {Q : Pst} {x : Int32} {y : Nat} {ls : List Value} {st : List Value} : T d 159 82 ls (.int x :: .ref y :: st) h Q ↔ T d 159 83 ls (.int x :: .ref y :: .int x :: .ref y :: st) h Q := T_dup2 c159_82 rfl rfl
theorem c159_83 : cod 159 83 = some (.iaload, 1) := cod_of b159 dX8_passes_83
theorem t159_83 {d : Nat} {h : Hp} {Q : Pst} {a : Nat} {i : Int32} {ls : List Value} {st : List Value} : T d 159 83 ls (.int i :: .ref a :: st) h Q ↔ aL (h.2.2 a) i (fun x => T d 159 84 ls (.int x :: st) h Q) := T_iaload c159_83
theorem c159_84 : cod 159 84 = some (.iconst 1, 1) := cod_of b159 dX8_passes_84
theorem t159_84 {d : Nat} {h : Hp} {Q : Pst} {ls : List Value} {st : List Value} : T d 159 84 ls st h Q ↔ T d 159 85 ls (.int 1 :: st) h Q := T_iconstV c159_84 (by decide)
theorem c159_85 : cod 159 85 = some (.iadd, 1) := cod_of b159 dX8_passes_85
theorem t159_85 {d : Nat} {h : Hp} {Q : Pst} {x y : Int32} {ls : List Value} {st : List Value} : T d 159 85 ls (.int y :: .int x :: st) h Q ↔ T d 159 86 ls (.int (x + y) :: st) h Q := T_iadd c159_85
theorem c159_86 : cod 159 86 = some (.iastore, 1) := cod_of b159 dX8_passes_86
theorem t159_86 {d : Nat} {h : Hp} {Q : Pst} {a : Nat} {i x : Int32} {ls : List Value} {st : List Value} : T d 159 86 ls (.int x :: .int i :: .ref a :: st) h Q ↔ aS (h.2.2 a) i x (fun cell => T d 159 87 ls st (hup h a cell) Q) := T_iastore c159_86
theorem c159_87 : cod 159 87 = some (.return_, 1) := cod_of b159 dX8_passes_87
theorem t159_87 {d : Nat} {h : Hp} {Q : Pst} {ls : List Value} : T d 159 87 ls [] h Q ↔ Q none h := T_retR m159 c159_87 rfl
theorem b160 : (mR 160).2.2.1 = cX8_goBy := by rw [m160]
theorem c160_0 : cod 160 0 = some (.iconst 0, 1) := cod_of b160 dX8_goBy_0
theorem t160_0 {d : Nat} {h : Hp} {Q : Pst} {ls : List Value} {st : List Value} : T d 160 0 ls st h Q ↔ T d 160 1 ls (.int 0 :: st) h Q := T_iconstV c160_0 (by decide)
theorem c160_1 : cod 160 1 = some (.istore_n 2, 1) := cod_of b160 dX8_goBy_1
theorem t160_1 {d : Nat} {h : Hp} {Q : Pst} {l0 l1 l2 : Value} {x : Int32} {st : List Value} : T d 160 1 [l0, l1, l2] (.int x :: st) h Q ↔ T d 160 2 [l0, kil l1, .int x] st h Q := T_istore_n c160_1 (Nat.le_of_ble_eq_true rfl)
theorem c160_2 : cod 160 2 = some (.iload_n 2, 1) := cod_of b160 dX8_goBy_2
theorem t160_2 {d : Nat} {h : Hp} {Q : Pst} {l0 l1 : Value} {x : Int32} {st : List Value} : T d 160 2 [l0, l1, .int x] st h Q ↔ T d 160 3 [l0, l1, .int x] (.int x :: st) h Q := T_iload_n c160_2 rfl
theorem c160_3 : cod 160 3 = some (.iload_n 1, 1) := cod_of b160 dX8_goBy_3
theorem t160_3 {d : Nat} {h : Hp} {Q : Pst} {l0 l2 : Value} {x : Int32} {st : List Value} : T d 160 3 [l0, .int x, l2] st h Q ↔ T d 160 4 [l0, .int x, l2] (.int x :: st) h Q := T_iload_n c160_3 rfl
theorem c160_4 : cod 160 4 = some (.if_icmp .ge 27, 3) := cod_of b160 dX8_goBy_4
theorem t160_4 {d : Nat} {h : Hp} {Q : Pst} {x y : Int32} {ls : List Value} {st : List Value} : T d 160 4 ls (.int y :: .int x :: st) h Q ↔ (if y ≤ x then T d 160 31 ls st h Q else T d 160 7 ls st h Q) := T_icmp_ge c160_4 (by decide)
theorem c160_7 : cod 160 7 = some (.aload_n 0, 1) := cod_of b160 dX8_goBy_7
theorem t160_7 {d : Nat} {h : Hp} {Q : Pst} {l1 l2 : Value} {x : Nat} {st : List Value} : T d 160 7 [.ref x, l1, l2] st h Q ↔ T d 160 8 [.ref x, l1, l2] (.ref x :: st) h Q := T_aload_n c160_7 rfl
theorem c160_8 : cod 160 8 = some (.getfield 7, 3) := cod_of b160 dX8_goBy_8
theorem t160_8 {d : Nat} {h : Hp} {Q : Pst} {a : Nat} {ls : List Value} {st : List Value} : T d 160 8 ls (.ref a :: st) h Q ↔ gF (h.2.2 a) 7 0 (fun v => T d 160 11 ls (v :: st) h Q) := T_getfieldR m160 c160_8 f8_7
theorem c160_11 : cod 160 11 = some (.bipush 11, 2) := cod_of b160 dX8_goBy_11
theorem t160_11 {d : Nat} {h : Hp} {Q : Pst} {ls : List Value} {st : List Value} : T d 160 11 ls st h Q ↔ T d 160 13 ls (.int 11 :: st) h Q := T_bipushV c160_11 (by decide)
theorem c160_13 : cod 160 13 = some (.iaload, 1) := cod_of b160 dX8_goBy_13
theorem t160_13 {d : Nat} {h : Hp} {Q : Pst} {a : Nat} {i : Int32} {ls : List Value} {st : List Value} : T d 160 13 ls (.int i :: .ref a :: st) h Q ↔ aL (h.2.2 a) i (fun x => T d 160 14 ls (.int x :: st) h Q) := T_iaload c160_13
theorem c160_14 : cod 160 14 = some (.sipush 999, 3) := cod_of b160 dX8_goBy_14
theorem t160_14 {d : Nat} {h : Hp} {Q : Pst} {ls : List Value} {st : List Value} : T d 160 14 ls st h Q ↔ T d 160 17 ls (.int 999 :: st) h Q := T_sipushV c160_14 (by decide)
theorem c160_17 : cod 160 17 = some (.if_icmp .ge 14, 3) := cod_of b160 dX8_goBy_17
theorem t160_17 {d : Nat} {h : Hp} {Q : Pst} {x y : Int32} {ls : List Value} {st : List Value} : T d 160 17 ls (.int y :: .int x :: st) h Q ↔ (if y ≤ x then T d 160 31 ls st h Q else T d 160 20 ls st h Q) := T_icmp_ge c160_17 (by decide)
theorem c160_20 : cod 160 20 = some (.aload_n 0, 1) := cod_of b160 dX8_goBy_20
theorem t160_20 {d : Nat} {h : Hp} {Q : Pst} {l1 l2 : Value} {x : Nat} {st : List Value} : T d 160 20 [.ref x, l1, l2] st h Q ↔ T d 160 21 [.ref x, l1, l2] (.ref x :: st) h Q := T_aload_n c160_20 rfl
theorem c160_21 : cod 160 21 = some (.iconst 0, 1) := cod_of b160 dX8_goBy_21
theorem t160_21 {d : Nat} {h : Hp} {Q : Pst} {ls : List Value} {st : List Value} : T d 160 21 ls st h Q ↔ T d 160 22 ls (.int 0 :: st) h Q := T_iconstV c160_21 (by decide)
theorem c160_22 : cod 160 22 = some (.invokevirtual 154, 3) := cod_of b160 dX8_goBy_22
theorem t160_22 {d : Nat} {h : Hp} {Q : Pst} {a0 : Int32} {a : Nat} {ls : List Value} (ho : isO (h.2.2 a) 7) : T (d + 1) 160 22 ls [.int a0, .ref a] h Q ↔ T d 159 0 [.ref a, .int a0, un, un] [] h (fun x h2 => T (d + 1) 160 25 ls (rl x []) h2 Q) := T_virtualR (as := [.int a0]) (r := []) m160 m159 c160_22 k8_154  rfl (by decide) rfl (by simp [wrd, Value.category]) (by simp [stk, Value.category]) rfl (by decide +kernel) ho
theorem c160_25 : cod 160 25 = some (.iinc 2 1, 3) := cod_of b160 dX8_goBy_25
theorem t160_25 {d : Nat} {h : Hp} {Q : Pst} {l0 l1 : Value} {x : Int32} {st : List Value} : T d 160 25 [l0, l1, .int x] st h Q ↔ T d 160 28 [l0, kil l1, .int (x + 1)] st h Q := T_iincV c160_25 rfl (Nat.le_of_ble_eq_true rfl) (by decide) rfl
theorem c160_28 : cod 160 28 = some (.goto (-26), 3) := cod_of b160 dX8_goBy_28
theorem t160_28 {d : Nat} {h : Hp} {Q : Pst} {ls : List Value} {st : List Value} : T d 160 28 ls st h Q ↔ T d 160 2 ls st h Q := T_goto c160_28 (by decide)
theorem c160_31 : cod 160 31 = some (.return_, 1) := cod_of b160 dX8_goBy_31
theorem t160_31 {d : Nat} {h : Hp} {Q : Pst} {ls : List Value} : T d 160 31 ls [] h Q ↔ Q none h := T_retR m160 c160_31 rfl
theorem b161 : (mR 161).2.2.1 = cX8_allLiking := by rw [m161]
theorem c161_0 : cod 161 0 = some (.iconst 0, 1) := cod_of b161 dX8_allLiking_0
theorem t161_0 {d : Nat} {h : Hp} {Q : Pst} {ls : List Value} {st : List Value} : T d 161 0 ls st h Q ↔ T d 161 1 ls (.int 0 :: st) h Q := T_iconstV c161_0 (by decide)
theorem c161_1 : cod 161 1 = some (.istore_n 2, 1) := cod_of b161 dX8_allLiking_1
theorem t161_1 {d : Nat} {h : Hp} {Q : Pst} {l0 l1 l2 l3 : Value} {x : Int32} {st : List Value} : T d 161 1 [l0, l1, l2, l3] (.int x :: st) h Q ↔ T d 161 2 [l0, kil l1, .int x, l3] st h Q := T_istore_n c161_1 (Nat.le_of_ble_eq_true rfl)
theorem c161_2 : cod 161 2 = some (.iconst 0, 1) := cod_of b161 dX8_allLiking_2
theorem t161_2 {d : Nat} {h : Hp} {Q : Pst} {ls : List Value} {st : List Value} : T d 161 2 ls st h Q ↔ T d 161 3 ls (.int 0 :: st) h Q := T_iconstV c161_2 (by decide)
theorem c161_3 : cod 161 3 = some (.istore_n 3, 1) := cod_of b161 dX8_allLiking_3
theorem t161_3 {d : Nat} {h : Hp} {Q : Pst} {l0 l1 l2 l3 : Value} {x : Int32} {st : List Value} : T d 161 3 [l0, l1, l2, l3] (.int x :: st) h Q ↔ T d 161 4 [l0, l1, kil l2, .int x] st h Q := T_istore_n c161_3 (Nat.le_of_ble_eq_true rfl)
theorem c161_4 : cod 161 4 = some (.iload_n 3, 1) := cod_of b161 dX8_allLiking_4
theorem t161_4 {d : Nat} {h : Hp} {Q : Pst} {l0 l1 l2 : Value} {x : Int32} {st : List Value} : T d 161 4 [l0, l1, l2, .int x] st h Q ↔ T d 161 5 [l0, l1, l2, .int x] (.int x :: st) h Q := T_iload_n c161_4 rfl
theorem c161_5 : cod 161 5 = some (.iconst 4, 1) := cod_of b161 dX8_allLiking_5
theorem t161_5 {d : Nat} {h : Hp} {Q : Pst} {ls : List Value} {st : List Value} : T d 161 5 ls st h Q ↔ T d 161 6 ls (.int 4 :: st) h Q := T_iconstV c161_5 (by decide)
theorem c161_6 : cod 161 6 = some (.if_icmp .ge 23, 3) := cod_of b161 dX8_allLiking_6
theorem t161_6 {d : Nat} {h : Hp} {Q : Pst} {x y : Int32} {ls : List Value} {st : List Value} : T d 161 6 ls (.int y :: .int x :: st) h Q ↔ (if y ≤ x then T d 161 29 ls st h Q else T d 161 9 ls st h Q) := T_icmp_ge c161_6 (by decide)
theorem c161_9 : cod 161 9 = some (.iload_n 2, 1) := cod_of b161 dX8_allLiking_9
theorem t161_9 {d : Nat} {h : Hp} {Q : Pst} {l0 l1 l3 : Value} {x : Int32} {st : List Value} : T d 161 9 [l0, l1, .int x, l3] st h Q ↔ T d 161 10 [l0, l1, .int x, l3] (.int x :: st) h Q := T_iload_n c161_9 rfl
theorem c161_10 : cod 161 10 = some (.aload_n 0, 1) := cod_of b161 dX8_allLiking_10
theorem t161_10 {d : Nat} {h : Hp} {Q : Pst} {l1 l2 l3 : Value} {x : Nat} {st : List Value} : T d 161 10 [.ref x, l1, l2, l3] st h Q ↔ T d 161 11 [.ref x, l1, l2, l3] (.ref x :: st) h Q := T_aload_n c161_10 rfl
theorem c161_11 : cod 161 11 = some (.getfield 7, 3) := cod_of b161 dX8_allLiking_11
theorem t161_11 {d : Nat} {h : Hp} {Q : Pst} {a : Nat} {ls : List Value} {st : List Value} : T d 161 11 ls (.ref a :: st) h Q ↔ gF (h.2.2 a) 7 0 (fun v => T d 161 14 ls (v :: st) h Q) := T_getfieldR m161 c161_11 f8_7
theorem c161_14 : cod 161 14 = some (.iload_n 1, 1) := cod_of b161 dX8_allLiking_14
theorem t161_14 {d : Nat} {h : Hp} {Q : Pst} {l0 l2 l3 : Value} {x : Int32} {st : List Value} : T d 161 14 [l0, .int x, l2, l3] st h Q ↔ T d 161 15 [l0, .int x, l2, l3] (.int x :: st) h Q := T_iload_n c161_14 rfl
theorem c161_15 : cod 161 15 = some (.bipush 6, 2) := cod_of b161 dX8_allLiking_15
theorem t161_15 {d : Nat} {h : Hp} {Q : Pst} {ls : List Value} {st : List Value} : T d 161 15 ls st h Q ↔ T d 161 17 ls (.int 6 :: st) h Q := T_bipushV c161_15 (by decide)
theorem c161_17 : cod 161 17 = some (.iadd, 1) := cod_of b161 dX8_allLiking_17
theorem t161_17 {d : Nat} {h : Hp} {Q : Pst} {x y : Int32} {ls : List Value} {st : List Value} : T d 161 17 ls (.int y :: .int x :: st) h Q ↔ T d 161 18 ls (.int (x + y) :: st) h Q := T_iadd c161_17
theorem c161_18 : cod 161 18 = some (.iload_n 3, 1) := cod_of b161 dX8_allLiking_18
theorem t161_18 {d : Nat} {h : Hp} {Q : Pst} {l0 l1 l2 : Value} {x : Int32} {st : List Value} : T d 161 18 [l0, l1, l2, .int x] st h Q ↔ T d 161 19 [l0, l1, l2, .int x] (.int x :: st) h Q := T_iload_n c161_18 rfl
theorem c161_19 : cod 161 19 = some (.iadd, 1) := cod_of b161 dX8_allLiking_19
theorem t161_19 {d : Nat} {h : Hp} {Q : Pst} {x y : Int32} {ls : List Value} {st : List Value} : T d 161 19 ls (.int y :: .int x :: st) h Q ↔ T d 161 20 ls (.int (x + y) :: st) h Q := T_iadd c161_19
theorem c161_20 : cod 161 20 = some (.iaload, 1) := cod_of b161 dX8_allLiking_20
theorem t161_20 {d : Nat} {h : Hp} {Q : Pst} {a : Nat} {i : Int32} {ls : List Value} {st : List Value} : T d 161 20 ls (.int i :: .ref a :: st) h Q ↔ aL (h.2.2 a) i (fun x => T d 161 21 ls (.int x :: st) h Q) := T_iaload c161_20
theorem c161_21 : cod 161 21 = some (.iadd, 1) := cod_of b161 dX8_allLiking_21
theorem t161_21 {d : Nat} {h : Hp} {Q : Pst} {x y : Int32} {ls : List Value} {st : List Value} : T d 161 21 ls (.int y :: .int x :: st) h Q ↔ T d 161 22 ls (.int (x + y) :: st) h Q := T_iadd c161_21
theorem c161_22 : cod 161 22 = some (.istore_n 2, 1) := cod_of b161 dX8_allLiking_22
theorem t161_22 {d : Nat} {h : Hp} {Q : Pst} {l0 l1 l2 l3 : Value} {x : Int32} {st : List Value} : T d 161 22 [l0, l1, l2, l3] (.int x :: st) h Q ↔ T d 161 23 [l0, kil l1, .int x, l3] st h Q := T_istore_n c161_22 (Nat.le_of_ble_eq_true rfl)
theorem c161_23 : cod 161 23 = some (.iinc 3 1, 3) := cod_of b161 dX8_allLiking_23
theorem t161_23 {d : Nat} {h : Hp} {Q : Pst} {l0 l1 l2 : Value} {x : Int32} {st : List Value} : T d 161 23 [l0, l1, l2, .int x] st h Q ↔ T d 161 26 [l0, l1, kil l2, .int (x + 1)] st h Q := T_iincV c161_23 rfl (Nat.le_of_ble_eq_true rfl) (by decide) rfl
theorem c161_26 : cod 161 26 = some (.goto (-22), 3) := cod_of b161 dX8_allLiking_26
theorem t161_26 {d : Nat} {h : Hp} {Q : Pst} {ls : List Value} {st : List Value} : T d 161 26 ls st h Q ↔ T d 161 4 ls st h Q := T_goto c161_26 (by decide)
theorem c161_29 : cod 161 29 = some (.iload_n 2, 1) := cod_of b161 dX8_allLiking_29
theorem t161_29 {d : Nat} {h : Hp} {Q : Pst} {l0 l1 l3 : Value} {x : Int32} {st : List Value} : T d 161 29 [l0, l1, .int x, l3] st h Q ↔ T d 161 30 [l0, l1, .int x, l3] (.int x :: st) h Q := T_iload_n c161_29 rfl
theorem c161_30 : cod 161 30 = some (.ireturn, 1) := cod_of b161 dX8_allLiking_30
theorem t161_30 {d : Nat} {h : Hp} {Q : Pst} {x : Int32} {ls : List Value} : T d 161 30 ls [.int x] h Q ↔ Q (some (.int x)) h := T_iretR m161 c161_30 rfl
theorem b162 : (mR 162).2.2.1 = cX8_keepPast := by rw [m162]
theorem c162_0 : cod 162 0 = some (.aload_n 0, 1) := cod_of b162 dX8_keepPast_0
theorem t162_0 {d : Nat} {h : Hp} {Q : Pst} {l1 : Value} {x : Nat} {st : List Value} : T d 162 0 [.ref x, l1] st h Q ↔ T d 162 1 [.ref x, l1] (.ref x :: st) h Q := T_aload_n c162_0 rfl
theorem c162_1 : cod 162 1 = some (.getfield 7, 3) := cod_of b162 dX8_keepPast_1
theorem t162_1 {d : Nat} {h : Hp} {Q : Pst} {a : Nat} {ls : List Value} {st : List Value} : T d 162 1 ls (.ref a :: st) h Q ↔ gF (h.2.2 a) 7 0 (fun v => T d 162 4 ls (v :: st) h Q) := T_getfieldR m162 c162_1 f8_7
theorem c162_4 : cod 162 4 = some (.bipush 111, 2) := cod_of b162 dX8_keepPast_4
theorem t162_4 {d : Nat} {h : Hp} {Q : Pst} {ls : List Value} {st : List Value} : T d 162 4 ls st h Q ↔ T d 162 6 ls (.int 111 :: st) h Q := T_bipushV c162_4 (by decide)
theorem c162_6 : cod 162 6 = some (.iaload, 1) := cod_of b162 dX8_keepPast_6
theorem t162_6 {d : Nat} {h : Hp} {Q : Pst} {a : Nat} {i : Int32} {ls : List Value} {st : List Value} : T d 162 6 ls (.int i :: .ref a :: st) h Q ↔ aL (h.2.2 a) i (fun x => T d 162 7 ls (.int x :: st) h Q) := T_iaload c162_6
theorem c162_7 : cod 162 7 = some (.bipush 8, 2) := cod_of b162 dX8_keepPast_7
theorem t162_7 {d : Nat} {h : Hp} {Q : Pst} {ls : List Value} {st : List Value} : T d 162 7 ls st h Q ↔ T d 162 9 ls (.int 8 :: st) h Q := T_bipushV c162_7 (by decide)
theorem c162_9 : cod 162 9 = some (.if_icmp .ne 46, 3) := cod_of b162 dX8_keepPast_9
theorem t162_9 {d : Nat} {h : Hp} {Q : Pst} {x y : Int32} {ls : List Value} {st : List Value} : T d 162 9 ls (.int y :: .int x :: st) h Q ↔ (if ¬ x = y then T d 162 55 ls st h Q else T d 162 12 ls st h Q) := T_icmp_ne c162_9 (by decide)
theorem c162_12 : cod 162 12 = some (.iconst 0, 1) := cod_of b162 dX8_keepPast_12
theorem t162_12 {d : Nat} {h : Hp} {Q : Pst} {ls : List Value} {st : List Value} : T d 162 12 ls st h Q ↔ T d 162 13 ls (.int 0 :: st) h Q := T_iconstV c162_12 (by decide)
theorem c162_13 : cod 162 13 = some (.istore_n 1, 1) := cod_of b162 dX8_keepPast_13
theorem t162_13 {d : Nat} {h : Hp} {Q : Pst} {l0 l1 : Value} {x : Int32} {st : List Value} : T d 162 13 [l0, l1] (.int x :: st) h Q ↔ T d 162 14 [kil l0, .int x] st h Q := T_istore_n c162_13 (Nat.le_of_ble_eq_true rfl)
theorem c162_14 : cod 162 14 = some (.iload_n 1, 1) := cod_of b162 dX8_keepPast_14
theorem t162_14 {d : Nat} {h : Hp} {Q : Pst} {l0 : Value} {x : Int32} {st : List Value} : T d 162 14 [l0, .int x] st h Q ↔ T d 162 15 [l0, .int x] (.int x :: st) h Q := T_iload_n c162_14 rfl
theorem c162_15 : cod 162 15 = some (.bipush 84, 2) := cod_of b162 dX8_keepPast_15
theorem t162_15 {d : Nat} {h : Hp} {Q : Pst} {ls : List Value} {st : List Value} : T d 162 15 ls st h Q ↔ T d 162 17 ls (.int 84 :: st) h Q := T_bipushV c162_15 (by decide)
theorem c162_17 : cod 162 17 = some (.if_icmp .ge 27, 3) := cod_of b162 dX8_keepPast_17
theorem t162_17 {d : Nat} {h : Hp} {Q : Pst} {x y : Int32} {ls : List Value} {st : List Value} : T d 162 17 ls (.int y :: .int x :: st) h Q ↔ (if y ≤ x then T d 162 44 ls st h Q else T d 162 20 ls st h Q) := T_icmp_ge c162_17 (by decide)
theorem c162_20 : cod 162 20 = some (.aload_n 0, 1) := cod_of b162 dX8_keepPast_20
theorem t162_20 {d : Nat} {h : Hp} {Q : Pst} {l1 : Value} {x : Nat} {st : List Value} : T d 162 20 [.ref x, l1] st h Q ↔ T d 162 21 [.ref x, l1] (.ref x :: st) h Q := T_aload_n c162_20 rfl
theorem c162_21 : cod 162 21 = some (.getfield 7, 3) := cod_of b162 dX8_keepPast_21
theorem t162_21 {d : Nat} {h : Hp} {Q : Pst} {a : Nat} {ls : List Value} {st : List Value} : T d 162 21 ls (.ref a :: st) h Q ↔ gF (h.2.2 a) 7 0 (fun v => T d 162 24 ls (v :: st) h Q) := T_getfieldR m162 c162_21 f8_7
theorem c162_24 : cod 162 24 = some (.bipush 112, 2) := cod_of b162 dX8_keepPast_24
theorem t162_24 {d : Nat} {h : Hp} {Q : Pst} {ls : List Value} {st : List Value} : T d 162 24 ls st h Q ↔ T d 162 26 ls (.int 112 :: st) h Q := T_bipushV c162_24 (by decide)
theorem c162_26 : cod 162 26 = some (.iload_n 1, 1) := cod_of b162 dX8_keepPast_26
theorem t162_26 {d : Nat} {h : Hp} {Q : Pst} {l0 : Value} {x : Int32} {st : List Value} : T d 162 26 [l0, .int x] st h Q ↔ T d 162 27 [l0, .int x] (.int x :: st) h Q := T_iload_n c162_26 rfl
theorem c162_27 : cod 162 27 = some (.iadd, 1) := cod_of b162 dX8_keepPast_27
theorem t162_27 {d : Nat} {h : Hp} {Q : Pst} {x y : Int32} {ls : List Value} {st : List Value} : T d 162 27 ls (.int y :: .int x :: st) h Q ↔ T d 162 28 ls (.int (x + y) :: st) h Q := T_iadd c162_27
theorem c162_28 : cod 162 28 = some (.aload_n 0, 1) := cod_of b162 dX8_keepPast_28
theorem t162_28 {d : Nat} {h : Hp} {Q : Pst} {l1 : Value} {x : Nat} {st : List Value} : T d 162 28 [.ref x, l1] st h Q ↔ T d 162 29 [.ref x, l1] (.ref x :: st) h Q := T_aload_n c162_28 rfl
theorem c162_29 : cod 162 29 = some (.getfield 7, 3) := cod_of b162 dX8_keepPast_29
theorem t162_29 {d : Nat} {h : Hp} {Q : Pst} {a : Nat} {ls : List Value} {st : List Value} : T d 162 29 ls (.ref a :: st) h Q ↔ gF (h.2.2 a) 7 0 (fun v => T d 162 32 ls (v :: st) h Q) := T_getfieldR m162 c162_29 f8_7
theorem c162_32 : cod 162 32 = some (.bipush 124, 2) := cod_of b162 dX8_keepPast_32
theorem t162_32 {d : Nat} {h : Hp} {Q : Pst} {ls : List Value} {st : List Value} : T d 162 32 ls st h Q ↔ T d 162 34 ls (.int 124 :: st) h Q := T_bipushV c162_32 (by decide)
theorem c162_34 : cod 162 34 = some (.iload_n 1, 1) := cod_of b162 dX8_keepPast_34
theorem t162_34 {d : Nat} {h : Hp} {Q : Pst} {l0 : Value} {x : Int32} {st : List Value} : T d 162 34 [l0, .int x] st h Q ↔ T d 162 35 [l0, .int x] (.int x :: st) h Q := T_iload_n c162_34 rfl
theorem c162_35 : cod 162 35 = some (.iadd, 1) := cod_of b162 dX8_keepPast_35
theorem t162_35 {d : Nat} {h : Hp} {Q : Pst} {x y : Int32} {ls : List Value} {st : List Value} : T d 162 35 ls (.int y :: .int x :: st) h Q ↔ T d 162 36 ls (.int (x + y) :: st) h Q := T_iadd c162_35
theorem c162_36 : cod 162 36 = some (.iaload, 1) := cod_of b162 dX8_keepPast_36
theorem t162_36 {d : Nat} {h : Hp} {Q : Pst} {a : Nat} {i : Int32} {ls : List Value} {st : List Value} : T d 162 36 ls (.int i :: .ref a :: st) h Q ↔ aL (h.2.2 a) i (fun x => T d 162 37 ls (.int x :: st) h Q) := T_iaload c162_36
theorem c162_37 : cod 162 37 = some (.iastore, 1) := cod_of b162 dX8_keepPast_37
theorem t162_37 {d : Nat} {h : Hp} {Q : Pst} {a : Nat} {i x : Int32} {ls : List Value} {st : List Value} : T d 162 37 ls (.int x :: .int i :: .ref a :: st) h Q ↔ aS (h.2.2 a) i x (fun cell => T d 162 38 ls st (hup h a cell) Q) := T_iastore c162_37
theorem c162_38 : cod 162 38 = some (.iinc 1 1, 3) := cod_of b162 dX8_keepPast_38
theorem t162_38 {d : Nat} {h : Hp} {Q : Pst} {l0 : Value} {x : Int32} {st : List Value} : T d 162 38 [l0, .int x] st h Q ↔ T d 162 41 [kil l0, .int (x + 1)] st h Q := T_iincV c162_38 rfl (Nat.le_of_ble_eq_true rfl) (by decide) rfl
theorem c162_41 : cod 162 41 = some (.goto (-27), 3) := cod_of b162 dX8_keepPast_41
theorem t162_41 {d : Nat} {h : Hp} {Q : Pst} {ls : List Value} {st : List Value} : T d 162 41 ls st h Q ↔ T d 162 14 ls st h Q := T_goto c162_41 (by decide)
theorem c162_44 : cod 162 44 = some (.aload_n 0, 1) := cod_of b162 dX8_keepPast_44
theorem t162_44 {d : Nat} {h : Hp} {Q : Pst} {l1 : Value} {x : Nat} {st : List Value} : T d 162 44 [.ref x, l1] st h Q ↔ T d 162 45 [.ref x, l1] (.ref x :: st) h Q := T_aload_n c162_44 rfl
theorem c162_45 : cod 162 45 = some (.getfield 7, 3) := cod_of b162 dX8_keepPast_45
theorem t162_45 {d : Nat} {h : Hp} {Q : Pst} {a : Nat} {ls : List Value} {st : List Value} : T d 162 45 ls (.ref a :: st) h Q ↔ gF (h.2.2 a) 7 0 (fun v => T d 162 48 ls (v :: st) h Q) := T_getfieldR m162 c162_45 f8_7
theorem c162_48 : cod 162 48 = some (.bipush 111, 2) := cod_of b162 dX8_keepPast_48
theorem t162_48 {d : Nat} {h : Hp} {Q : Pst} {ls : List Value} {st : List Value} : T d 162 48 ls st h Q ↔ T d 162 50 ls (.int 111 :: st) h Q := T_bipushV c162_48 (by decide)
theorem c162_50 : cod 162 50 = some (.dup2, 1) := cod_of b162 dX8_keepPast_50
theorem t162_50 {d : Nat} {h : Hp} {Q : Pst} {x : Int32} {y : Nat} {ls : List Value} {st : List Value} : T d 162 50 ls (.int x :: .ref y :: st) h Q ↔ T d 162 51 ls (.int x :: .ref y :: .int x :: .ref y :: st) h Q := T_dup2 c162_50 rfl rfl
theorem c162_51 : cod 162 51 = some (.iaload, 1) := cod_of b162 dX8_keepPast_51
theorem t162_51 {d : Nat} {h : Hp} {Q : Pst} {a : Nat} {i : Int32} {ls : List Value} {st : List Value} : T d 162 51 ls (.int i :: .ref a :: st) h Q ↔ aL (h.2.2 a) i (fun x => T d 162 52 ls (.int x :: st) h Q) := T_iaload c162_51
theorem c162_52 : cod 162 52 = some (.iconst 1, 1) := cod_of b162 dX8_keepPast_52
theorem t162_52 {d : Nat} {h : Hp} {Q : Pst} {ls : List Value} {st : List Value} : T d 162 52 ls st h Q ↔ T d 162 53 ls (.int 1 :: st) h Q := T_iconstV c162_52 (by decide)
theorem c162_53 : cod 162 53 = some (.isub, 1) := cod_of b162 dX8_keepPast_53
theorem t162_53 {d : Nat} {h : Hp} {Q : Pst} {x y : Int32} {ls : List Value} {st : List Value} : T d 162 53 ls (.int y :: .int x :: st) h Q ↔ T d 162 54 ls (.int (x - y) :: st) h Q := T_isub c162_53
theorem c162_54 : cod 162 54 = some (.iastore, 1) := cod_of b162 dX8_keepPast_54
theorem t162_54 {d : Nat} {h : Hp} {Q : Pst} {a : Nat} {i x : Int32} {ls : List Value} {st : List Value} : T d 162 54 ls (.int x :: .int i :: .ref a :: st) h Q ↔ aS (h.2.2 a) i x (fun cell => T d 162 55 ls st (hup h a cell) Q) := T_iastore c162_54
theorem c162_55 : cod 162 55 = some (.iconst 0, 1) := cod_of b162 dX8_keepPast_55
theorem t162_55 {d : Nat} {h : Hp} {Q : Pst} {ls : List Value} {st : List Value} : T d 162 55 ls st h Q ↔ T d 162 56 ls (.int 0 :: st) h Q := T_iconstV c162_55 (by decide)
theorem c162_56 : cod 162 56 = some (.istore_n 1, 1) := cod_of b162 dX8_keepPast_56
theorem t162_56 {d : Nat} {h : Hp} {Q : Pst} {l0 l1 : Value} {x : Int32} {st : List Value} : T d 162 56 [l0, l1] (.int x :: st) h Q ↔ T d 162 57 [kil l0, .int x] st h Q := T_istore_n c162_56 (Nat.le_of_ble_eq_true rfl)
theorem c162_57 : cod 162 57 = some (.iload_n 1, 1) := cod_of b162 dX8_keepPast_57
theorem t162_57 {d : Nat} {h : Hp} {Q : Pst} {l0 : Value} {x : Int32} {st : List Value} : T d 162 57 [l0, .int x] st h Q ↔ T d 162 58 [l0, .int x] (.int x :: st) h Q := T_iload_n c162_57 rfl
theorem c162_58 : cod 162 58 = some (.bipush 12, 2) := cod_of b162 dX8_keepPast_58
theorem t162_58 {d : Nat} {h : Hp} {Q : Pst} {ls : List Value} {st : List Value} : T d 162 58 ls st h Q ↔ T d 162 60 ls (.int 12 :: st) h Q := T_bipushV c162_58 (by decide)
theorem c162_60 : cod 162 60 = some (.if_icmp .ge 35, 3) := cod_of b162 dX8_keepPast_60
theorem t162_60 {d : Nat} {h : Hp} {Q : Pst} {x y : Int32} {ls : List Value} {st : List Value} : T d 162 60 ls (.int y :: .int x :: st) h Q ↔ (if y ≤ x then T d 162 95 ls st h Q else T d 162 63 ls st h Q) := T_icmp_ge c162_60 (by decide)
theorem c162_63 : cod 162 63 = some (.aload_n 0, 1) := cod_of b162 dX8_keepPast_63
theorem t162_63 {d : Nat} {h : Hp} {Q : Pst} {l1 : Value} {x : Nat} {st : List Value} : T d 162 63 [.ref x, l1] st h Q ↔ T d 162 64 [.ref x, l1] (.ref x :: st) h Q := T_aload_n c162_63 rfl
theorem c162_64 : cod 162 64 = some (.getfield 7, 3) := cod_of b162 dX8_keepPast_64
theorem t162_64 {d : Nat} {h : Hp} {Q : Pst} {a : Nat} {ls : List Value} {st : List Value} : T d 162 64 ls (.ref a :: st) h Q ↔ gF (h.2.2 a) 7 0 (fun v => T d 162 67 ls (v :: st) h Q) := T_getfieldR m162 c162_64 f8_7
theorem c162_67 : cod 162 67 = some (.bipush 112, 2) := cod_of b162 dX8_keepPast_67
theorem t162_67 {d : Nat} {h : Hp} {Q : Pst} {ls : List Value} {st : List Value} : T d 162 67 ls st h Q ↔ T d 162 69 ls (.int 112 :: st) h Q := T_bipushV c162_67 (by decide)
theorem c162_69 : cod 162 69 = some (.bipush 12, 2) := cod_of b162 dX8_keepPast_69
theorem t162_69 {d : Nat} {h : Hp} {Q : Pst} {ls : List Value} {st : List Value} : T d 162 69 ls st h Q ↔ T d 162 71 ls (.int 12 :: st) h Q := T_bipushV c162_69 (by decide)
theorem c162_71 : cod 162 71 = some (.aload_n 0, 1) := cod_of b162 dX8_keepPast_71
theorem t162_71 {d : Nat} {h : Hp} {Q : Pst} {l1 : Value} {x : Nat} {st : List Value} : T d 162 71 [.ref x, l1] st h Q ↔ T d 162 72 [.ref x, l1] (.ref x :: st) h Q := T_aload_n c162_71 rfl
theorem c162_72 : cod 162 72 = some (.getfield 7, 3) := cod_of b162 dX8_keepPast_72
theorem t162_72 {d : Nat} {h : Hp} {Q : Pst} {a : Nat} {ls : List Value} {st : List Value} : T d 162 72 ls (.ref a :: st) h Q ↔ gF (h.2.2 a) 7 0 (fun v => T d 162 75 ls (v :: st) h Q) := T_getfieldR m162 c162_72 f8_7
theorem c162_75 : cod 162 75 = some (.bipush 111, 2) := cod_of b162 dX8_keepPast_75
theorem t162_75 {d : Nat} {h : Hp} {Q : Pst} {ls : List Value} {st : List Value} : T d 162 75 ls st h Q ↔ T d 162 77 ls (.int 111 :: st) h Q := T_bipushV c162_75 (by decide)
theorem c162_77 : cod 162 77 = some (.iaload, 1) := cod_of b162 dX8_keepPast_77
theorem t162_77 {d : Nat} {h : Hp} {Q : Pst} {a : Nat} {i : Int32} {ls : List Value} {st : List Value} : T d 162 77 ls (.int i :: .ref a :: st) h Q ↔ aL (h.2.2 a) i (fun x => T d 162 78 ls (.int x :: st) h Q) := T_iaload c162_77
theorem c162_78 : cod 162 78 = some (.imul, 1) := cod_of b162 dX8_keepPast_78
theorem t162_78 {d : Nat} {h : Hp} {Q : Pst} {x y : Int32} {ls : List Value} {st : List Value} : T d 162 78 ls (.int y :: .int x :: st) h Q ↔ T d 162 79 ls (.int (x * y) :: st) h Q := T_imul c162_78
theorem c162_79 : cod 162 79 = some (.iadd, 1) := cod_of b162 dX8_keepPast_79
theorem t162_79 {d : Nat} {h : Hp} {Q : Pst} {x y : Int32} {ls : List Value} {st : List Value} : T d 162 79 ls (.int y :: .int x :: st) h Q ↔ T d 162 80 ls (.int (x + y) :: st) h Q := T_iadd c162_79
theorem c162_80 : cod 162 80 = some (.iload_n 1, 1) := cod_of b162 dX8_keepPast_80
theorem t162_80 {d : Nat} {h : Hp} {Q : Pst} {l0 : Value} {x : Int32} {st : List Value} : T d 162 80 [l0, .int x] st h Q ↔ T d 162 81 [l0, .int x] (.int x :: st) h Q := T_iload_n c162_80 rfl
theorem c162_81 : cod 162 81 = some (.iadd, 1) := cod_of b162 dX8_keepPast_81
theorem t162_81 {d : Nat} {h : Hp} {Q : Pst} {x y : Int32} {ls : List Value} {st : List Value} : T d 162 81 ls (.int y :: .int x :: st) h Q ↔ T d 162 82 ls (.int (x + y) :: st) h Q := T_iadd c162_81
theorem c162_82 : cod 162 82 = some (.aload_n 0, 1) := cod_of b162 dX8_keepPast_82
theorem t162_82 {d : Nat} {h : Hp} {Q : Pst} {l1 : Value} {x : Nat} {st : List Value} : T d 162 82 [.ref x, l1] st h Q ↔ T d 162 83 [.ref x, l1] (.ref x :: st) h Q := T_aload_n c162_82 rfl
theorem c162_83 : cod 162 83 = some (.getfield 7, 3) := cod_of b162 dX8_keepPast_83
theorem t162_83 {d : Nat} {h : Hp} {Q : Pst} {a : Nat} {ls : List Value} {st : List Value} : T d 162 83 ls (.ref a :: st) h Q ↔ gF (h.2.2 a) 7 0 (fun v => T d 162 86 ls (v :: st) h Q) := T_getfieldR m162 c162_83 f8_7
theorem c162_86 : cod 162 86 = some (.iload_n 1, 1) := cod_of b162 dX8_keepPast_86
theorem t162_86 {d : Nat} {h : Hp} {Q : Pst} {l0 : Value} {x : Int32} {st : List Value} : T d 162 86 [l0, .int x] st h Q ↔ T d 162 87 [l0, .int x] (.int x :: st) h Q := T_iload_n c162_86 rfl
theorem c162_87 : cod 162 87 = some (.iaload, 1) := cod_of b162 dX8_keepPast_87
theorem t162_87 {d : Nat} {h : Hp} {Q : Pst} {a : Nat} {i : Int32} {ls : List Value} {st : List Value} : T d 162 87 ls (.int i :: .ref a :: st) h Q ↔ aL (h.2.2 a) i (fun x => T d 162 88 ls (.int x :: st) h Q) := T_iaload c162_87
theorem c162_88 : cod 162 88 = some (.iastore, 1) := cod_of b162 dX8_keepPast_88
theorem t162_88 {d : Nat} {h : Hp} {Q : Pst} {a : Nat} {i x : Int32} {ls : List Value} {st : List Value} : T d 162 88 ls (.int x :: .int i :: .ref a :: st) h Q ↔ aS (h.2.2 a) i x (fun cell => T d 162 89 ls st (hup h a cell) Q) := T_iastore c162_88
theorem c162_89 : cod 162 89 = some (.iinc 1 1, 3) := cod_of b162 dX8_keepPast_89
theorem t162_89 {d : Nat} {h : Hp} {Q : Pst} {l0 : Value} {x : Int32} {st : List Value} : T d 162 89 [l0, .int x] st h Q ↔ T d 162 92 [kil l0, .int (x + 1)] st h Q := T_iincV c162_89 rfl (Nat.le_of_ble_eq_true rfl) (by decide) rfl
theorem c162_92 : cod 162 92 = some (.goto (-35), 3) := cod_of b162 dX8_keepPast_92
theorem t162_92 {d : Nat} {h : Hp} {Q : Pst} {ls : List Value} {st : List Value} : T d 162 92 ls st h Q ↔ T d 162 57 ls st h Q := T_goto c162_92 (by decide)
theorem c162_95 : cod 162 95 = some (.aload_n 0, 1) := cod_of b162 dX8_keepPast_95
theorem t162_95 {d : Nat} {h : Hp} {Q : Pst} {l1 : Value} {x : Nat} {st : List Value} : T d 162 95 [.ref x, l1] st h Q ↔ T d 162 96 [.ref x, l1] (.ref x :: st) h Q := T_aload_n c162_95 rfl
theorem c162_96 : cod 162 96 = some (.getfield 7, 3) := cod_of b162 dX8_keepPast_96
theorem t162_96 {d : Nat} {h : Hp} {Q : Pst} {a : Nat} {ls : List Value} {st : List Value} : T d 162 96 ls (.ref a :: st) h Q ↔ gF (h.2.2 a) 7 0 (fun v => T d 162 99 ls (v :: st) h Q) := T_getfieldR m162 c162_96 f8_7
theorem c162_99 : cod 162 99 = some (.bipush 111, 2) := cod_of b162 dX8_keepPast_99
theorem t162_99 {d : Nat} {h : Hp} {Q : Pst} {ls : List Value} {st : List Value} : T d 162 99 ls st h Q ↔ T d 162 101 ls (.int 111 :: st) h Q := T_bipushV c162_99 (by decide)
theorem c162_101 : cod 162 101 = some (.dup2, 1) := cod_of b162 dX8_keepPast_101
theorem t162_101 {d : Nat} {h : Hp} {Q : Pst} {x : Int32} {y : Nat} {ls : List Value} {st : List Value} : T d 162 101 ls (.int x :: .ref y :: st) h Q ↔ T d 162 102 ls (.int x :: .ref y :: .int x :: .ref y :: st) h Q := T_dup2 c162_101 rfl rfl
theorem c162_102 : cod 162 102 = some (.iaload, 1) := cod_of b162 dX8_keepPast_102
theorem t162_102 {d : Nat} {h : Hp} {Q : Pst} {a : Nat} {i : Int32} {ls : List Value} {st : List Value} : T d 162 102 ls (.int i :: .ref a :: st) h Q ↔ aL (h.2.2 a) i (fun x => T d 162 103 ls (.int x :: st) h Q) := T_iaload c162_102
theorem c162_103 : cod 162 103 = some (.iconst 1, 1) := cod_of b162 dX8_keepPast_103
theorem t162_103 {d : Nat} {h : Hp} {Q : Pst} {ls : List Value} {st : List Value} : T d 162 103 ls st h Q ↔ T d 162 104 ls (.int 1 :: st) h Q := T_iconstV c162_103 (by decide)
theorem c162_104 : cod 162 104 = some (.iadd, 1) := cod_of b162 dX8_keepPast_104
theorem t162_104 {d : Nat} {h : Hp} {Q : Pst} {x y : Int32} {ls : List Value} {st : List Value} : T d 162 104 ls (.int y :: .int x :: st) h Q ↔ T d 162 105 ls (.int (x + y) :: st) h Q := T_iadd c162_104
theorem c162_105 : cod 162 105 = some (.iastore, 1) := cod_of b162 dX8_keepPast_105
theorem t162_105 {d : Nat} {h : Hp} {Q : Pst} {a : Nat} {i x : Int32} {ls : List Value} {st : List Value} : T d 162 105 ls (.int x :: .int i :: .ref a :: st) h Q ↔ aS (h.2.2 a) i x (fun cell => T d 162 106 ls st (hup h a cell) Q) := T_iastore c162_105
theorem c162_106 : cod 162 106 = some (.return_, 1) := cod_of b162 dX8_keepPast_106
theorem t162_106 {d : Nat} {h : Hp} {Q : Pst} {ls : List Value} : T d 162 106 ls [] h Q ↔ Q none h := T_retR m162 c162_106 rfl
theorem b163 : (mR 163).2.2.1 = cX8_isGuest := by rw [m163]
theorem c163_0 : cod 163 0 = some (.iload_n 1, 1) := cod_of b163 dX8_isGuest_0
theorem t163_0 {d : Nat} {h : Hp} {Q : Pst} {l0 : Value} {x : Int32} {st : List Value} : T d 163 0 [l0, .int x] st h Q ↔ T d 163 1 [l0, .int x] (.int x :: st) h Q := T_iload_n c163_0 rfl
theorem c163_1 : cod 163 1 = some (.iconst 0, 1) := cod_of b163 dX8_isGuest_1
theorem t163_1 {d : Nat} {h : Hp} {Q : Pst} {ls : List Value} {st : List Value} : T d 163 1 ls st h Q ↔ T d 163 2 ls (.int 0 :: st) h Q := T_iconstV c163_1 (by decide)
theorem c163_2 : cod 163 2 = some (.aload_n 0, 1) := cod_of b163 dX8_isGuest_2
theorem t163_2 {d : Nat} {h : Hp} {Q : Pst} {l1 : Value} {x : Nat} {st : List Value} : T d 163 2 [.ref x, l1] st h Q ↔ T d 163 3 [.ref x, l1] (.ref x :: st) h Q := T_aload_n c163_2 rfl
theorem c163_3 : cod 163 3 = some (.getfield 7, 3) := cod_of b163 dX8_isGuest_3
theorem t163_3 {d : Nat} {h : Hp} {Q : Pst} {a : Nat} {ls : List Value} {st : List Value} : T d 163 3 ls (.ref a :: st) h Q ↔ gF (h.2.2 a) 7 0 (fun v => T d 163 6 ls (v :: st) h Q) := T_getfieldR m163 c163_3 f8_7
theorem c163_6 : cod 163 6 = some (.bipush 12, 2) := cod_of b163 dX8_isGuest_6
theorem t163_6 {d : Nat} {h : Hp} {Q : Pst} {ls : List Value} {st : List Value} : T d 163 6 ls st h Q ↔ T d 163 8 ls (.int 12 :: st) h Q := T_bipushV c163_6 (by decide)
theorem c163_8 : cod 163 8 = some (.iaload, 1) := cod_of b163 dX8_isGuest_8
theorem t163_8 {d : Nat} {h : Hp} {Q : Pst} {a : Nat} {i : Int32} {ls : List Value} {st : List Value} : T d 163 8 ls (.int i :: .ref a :: st) h Q ↔ aL (h.2.2 a) i (fun x => T d 163 9 ls (.int x :: st) h Q) := T_iaload c163_8
theorem c163_9 : cod 163 9 = some (.iconst 1, 1) := cod_of b163 dX8_isGuest_9
theorem t163_9 {d : Nat} {h : Hp} {Q : Pst} {ls : List Value} {st : List Value} : T d 163 9 ls st h Q ↔ T d 163 10 ls (.int 1 :: st) h Q := T_iconstV c163_9 (by decide)
theorem c163_10 : cod 163 10 = some (.isub, 1) := cod_of b163 dX8_isGuest_10
theorem t163_10 {d : Nat} {h : Hp} {Q : Pst} {x y : Int32} {ls : List Value} {st : List Value} : T d 163 10 ls (.int y :: .int x :: st) h Q ↔ T d 163 11 ls (.int (x - y) :: st) h Q := T_isub c163_10
theorem c163_11 : cod 163 11 = some (.invokestatic 49, 3) := cod_of b163 dX8_isGuest_11
theorem t163_11 {d : Nat} {h : Hp} {Q : Pst} {a0 a1 a2 : Int32} {ls : List Value} : T (d + 1) 163 11 ls [.int a2, .int a1, .int a0] h Q ↔ T d 126 0 [.int a0, .int a1, .int a2] [] h (fun x h2 => T (d + 1) 163 14 ls (rl x []) h2 Q) := T_staticR (as := [.int a0, .int a1, .int a2]) (r := []) m163 m126 c163_11 k8_49 (Or.inl rfl) rfl (by decide) rfl (by simp [wrd, Value.category]) (by simp [stk, Value.category]) rfl
theorem c163_14 : cod 163 14 = some (.ireturn, 1) := cod_of b163 dX8_isGuest_14
theorem t163_14 {d : Nat} {h : Hp} {Q : Pst} {x : Int32} {ls : List Value} : T d 163 14 ls [.int x] h Q ↔ (narrow .boolean (.int x) = .int x ∧ Q (some (.int x)) h) := T_zretR m163 c163_14 rfl
theorem b164 : (mR 164).2.2.1 = cX8_isHouse := by rw [m164]
theorem c164_0 : cod 164 0 = some (.iload_n 1, 1) := cod_of b164 dX8_isHouse_0
theorem t164_0 {d : Nat} {h : Hp} {Q : Pst} {l0 : Value} {x : Int32} {st : List Value} : T d 164 0 [l0, .int x] st h Q ↔ T d 164 1 [l0, .int x] (.int x :: st) h Q := T_iload_n c164_0 rfl
theorem c164_1 : cod 164 1 = some (.iconst 0, 1) := cod_of b164 dX8_isHouse_1
theorem t164_1 {d : Nat} {h : Hp} {Q : Pst} {ls : List Value} {st : List Value} : T d 164 1 ls st h Q ↔ T d 164 2 ls (.int 0 :: st) h Q := T_iconstV c164_1 (by decide)
theorem c164_2 : cod 164 2 = some (.aload_n 0, 1) := cod_of b164 dX8_isHouse_2
theorem t164_2 {d : Nat} {h : Hp} {Q : Pst} {l1 : Value} {x : Nat} {st : List Value} : T d 164 2 [.ref x, l1] st h Q ↔ T d 164 3 [.ref x, l1] (.ref x :: st) h Q := T_aload_n c164_2 rfl
theorem c164_3 : cod 164 3 = some (.getfield 7, 3) := cod_of b164 dX8_isHouse_3
theorem t164_3 {d : Nat} {h : Hp} {Q : Pst} {a : Nat} {ls : List Value} {st : List Value} : T d 164 3 ls (.ref a :: st) h Q ↔ gF (h.2.2 a) 7 0 (fun v => T d 164 6 ls (v :: st) h Q) := T_getfieldR m164 c164_3 f8_7
theorem c164_6 : cod 164 6 = some (.bipush 25, 2) := cod_of b164 dX8_isHouse_6
theorem t164_6 {d : Nat} {h : Hp} {Q : Pst} {ls : List Value} {st : List Value} : T d 164 6 ls st h Q ↔ T d 164 8 ls (.int 25 :: st) h Q := T_bipushV c164_6 (by decide)
theorem c164_8 : cod 164 8 = some (.iaload, 1) := cod_of b164 dX8_isHouse_8
theorem t164_8 {d : Nat} {h : Hp} {Q : Pst} {a : Nat} {i : Int32} {ls : List Value} {st : List Value} : T d 164 8 ls (.int i :: .ref a :: st) h Q ↔ aL (h.2.2 a) i (fun x => T d 164 9 ls (.int x :: st) h Q) := T_iaload c164_8
theorem c164_9 : cod 164 9 = some (.iconst 1, 1) := cod_of b164 dX8_isHouse_9
theorem t164_9 {d : Nat} {h : Hp} {Q : Pst} {ls : List Value} {st : List Value} : T d 164 9 ls st h Q ↔ T d 164 10 ls (.int 1 :: st) h Q := T_iconstV c164_9 (by decide)
theorem c164_10 : cod 164 10 = some (.isub, 1) := cod_of b164 dX8_isHouse_10
theorem t164_10 {d : Nat} {h : Hp} {Q : Pst} {x y : Int32} {ls : List Value} {st : List Value} : T d 164 10 ls (.int y :: .int x :: st) h Q ↔ T d 164 11 ls (.int (x - y) :: st) h Q := T_isub c164_10
theorem c164_11 : cod 164 11 = some (.invokestatic 49, 3) := cod_of b164 dX8_isHouse_11
theorem t164_11 {d : Nat} {h : Hp} {Q : Pst} {a0 a1 a2 : Int32} {ls : List Value} : T (d + 1) 164 11 ls [.int a2, .int a1, .int a0] h Q ↔ T d 126 0 [.int a0, .int a1, .int a2] [] h (fun x h2 => T (d + 1) 164 14 ls (rl x []) h2 Q) := T_staticR (as := [.int a0, .int a1, .int a2]) (r := []) m164 m126 c164_11 k8_49 (Or.inl rfl) rfl (by decide) rfl (by simp [wrd, Value.category]) (by simp [stk, Value.category]) rfl
theorem c164_14 : cod 164 14 = some (.ireturn, 1) := cod_of b164 dX8_isHouse_14
theorem t164_14 {d : Nat} {h : Hp} {Q : Pst} {x : Int32} {ls : List Value} : T d 164 14 ls [.int x] h Q ↔ (narrow .boolean (.int x) = .int x ∧ Q (some (.int x)) h) := T_zretR m164 c164_14 rfl
theorem b165 : (mR 165).2.2.1 = cX8_calls := by rw [m165]
theorem c165_0 : cod 165 0 = some (.aload_n 0, 1) := cod_of b165 dX8_calls_0
theorem t165_0 {d : Nat} {h : Hp} {Q : Pst} {l1 l2 : Value} {x : Nat} {st : List Value} : T d 165 0 [.ref x, l1, l2] st h Q ↔ T d 165 1 [.ref x, l1, l2] (.ref x :: st) h Q := T_aload_n c165_0 rfl
theorem c165_1 : cod 165 1 = some (.iload_n 1, 1) := cod_of b165 dX8_calls_1
theorem t165_1 {d : Nat} {h : Hp} {Q : Pst} {l0 l2 : Value} {x : Int32} {st : List Value} : T d 165 1 [l0, .int x, l2] st h Q ↔ T d 165 2 [l0, .int x, l2] (.int x :: st) h Q := T_iload_n c165_1 rfl
theorem c165_2 : cod 165 2 = some (.invokevirtual 157, 3) := cod_of b165 dX8_calls_2
theorem t165_2 {d : Nat} {h : Hp} {Q : Pst} {a0 : Int32} {a : Nat} {ls : List Value} (ho : isO (h.2.2 a) 7) : T (d + 1) 165 2 ls [.int a0, .ref a] h Q ↔ T d 163 0 [.ref a, .int a0] [] h (fun x h2 => T (d + 1) 165 5 ls (rl x []) h2 Q) := T_virtualR (as := [.int a0]) (r := []) m165 m163 c165_2 k8_157  rfl (by decide) rfl (by simp [wrd, Value.category]) (by simp [stk, Value.category]) rfl (by decide +kernel) ho
theorem c165_5 : cod 165 5 = some (.ifCond .eq 11, 3) := cod_of b165 dX8_calls_5
theorem t165_5 {d : Nat} {h : Hp} {Q : Pst} {x : Int32} {ls : List Value} {st : List Value} : T d 165 5 ls (.int x :: st) h Q ↔ (if x = 0 then T d 165 16 ls st h Q else T d 165 8 ls st h Q) := T_if_eq c165_5 (by decide)
theorem c165_8 : cod 165 8 = some (.aload_n 0, 1) := cod_of b165 dX8_calls_8
theorem t165_8 {d : Nat} {h : Hp} {Q : Pst} {l1 l2 : Value} {x : Nat} {st : List Value} : T d 165 8 [.ref x, l1, l2] st h Q ↔ T d 165 9 [.ref x, l1, l2] (.ref x :: st) h Q := T_aload_n c165_8 rfl
theorem c165_9 : cod 165 9 = some (.iload_n 2, 1) := cod_of b165 dX8_calls_9
theorem t165_9 {d : Nat} {h : Hp} {Q : Pst} {l0 l1 : Value} {x : Int32} {st : List Value} : T d 165 9 [l0, l1, .int x] st h Q ↔ T d 165 10 [l0, l1, .int x] (.int x :: st) h Q := T_iload_n c165_9 rfl
theorem c165_10 : cod 165 10 = some (.invokevirtual 160, 3) := cod_of b165 dX8_calls_10
theorem t165_10 {d : Nat} {h : Hp} {Q : Pst} {a0 : Int32} {a : Nat} {ls : List Value} (ho : isO (h.2.2 a) 7) : T (d + 1) 165 10 ls [.int a0, .ref a] h Q ↔ T d 164 0 [.ref a, .int a0] [] h (fun x h2 => T (d + 1) 165 13 ls (rl x []) h2 Q) := T_virtualR (as := [.int a0]) (r := []) m165 m164 c165_10 k8_160  rfl (by decide) rfl (by simp [wrd, Value.category]) (by simp [stk, Value.category]) rfl (by decide +kernel) ho
theorem c165_13 : cod 165 13 = some (.ifCond .ne 10, 3) := cod_of b165 dX8_calls_13
theorem t165_13 {d : Nat} {h : Hp} {Q : Pst} {x : Int32} {ls : List Value} {st : List Value} : T d 165 13 ls (.int x :: st) h Q ↔ (if ¬ x = 0 then T d 165 23 ls st h Q else T d 165 16 ls st h Q) := T_if_ne c165_13 (by decide)
theorem c165_23 : cod 165 23 = some (.aload_n 0, 1) := cod_of b165 dX8_calls_23
theorem t165_23 {d : Nat} {h : Hp} {Q : Pst} {l1 l2 : Value} {x : Nat} {st : List Value} : T d 165 23 [.ref x, l1, l2] st h Q ↔ T d 165 24 [.ref x, l1, l2] (.ref x :: st) h Q := T_aload_n c165_23 rfl
theorem c165_24 : cod 165 24 = some (.getfield 7, 3) := cod_of b165 dX8_calls_24
theorem t165_24 {d : Nat} {h : Hp} {Q : Pst} {a : Nat} {ls : List Value} {st : List Value} : T d 165 24 ls (.ref a :: st) h Q ↔ gF (h.2.2 a) 7 0 (fun v => T d 165 27 ls (v :: st) h Q) := T_getfieldR m165 c165_24 f8_7
theorem c165_27 : cod 165 27 = some (.iconst 0, 1) := cod_of b165 dX8_calls_27
theorem t165_27 {d : Nat} {h : Hp} {Q : Pst} {ls : List Value} {st : List Value} : T d 165 27 ls st h Q ↔ T d 165 28 ls (.int 0 :: st) h Q := T_iconstV c165_27 (by decide)
theorem c165_28 : cod 165 28 = some (.iload_n 1, 1) := cod_of b165 dX8_calls_28
theorem t165_28 {d : Nat} {h : Hp} {Q : Pst} {l0 l2 : Value} {x : Int32} {st : List Value} : T d 165 28 [l0, .int x, l2] st h Q ↔ T d 165 29 [l0, .int x, l2] (.int x :: st) h Q := T_iload_n c165_28 rfl
theorem c165_29 : cod 165 29 = some (.iadd, 1) := cod_of b165 dX8_calls_29
theorem t165_29 {d : Nat} {h : Hp} {Q : Pst} {x y : Int32} {ls : List Value} {st : List Value} : T d 165 29 ls (.int y :: .int x :: st) h Q ↔ T d 165 30 ls (.int (x + y) :: st) h Q := T_iadd c165_29
theorem c165_30 : cod 165 30 = some (.iaload, 1) := cod_of b165 dX8_calls_30
theorem t165_30 {d : Nat} {h : Hp} {Q : Pst} {a : Nat} {i : Int32} {ls : List Value} {st : List Value} : T d 165 30 ls (.int i :: .ref a :: st) h Q ↔ aL (h.2.2 a) i (fun x => T d 165 31 ls (.int x :: st) h Q) := T_iaload c165_30
theorem c165_31 : cod 165 31 = some (.iload_n 2, 1) := cod_of b165 dX8_calls_31
theorem t165_31 {d : Nat} {h : Hp} {Q : Pst} {l0 l1 : Value} {x : Int32} {st : List Value} : T d 165 31 [l0, l1, .int x] st h Q ↔ T d 165 32 [l0, l1, .int x] (.int x :: st) h Q := T_iload_n c165_31 rfl
theorem c165_32 : cod 165 32 = some (.if_icmp .ne 10, 3) := cod_of b165 dX8_calls_32
theorem t165_32 {d : Nat} {h : Hp} {Q : Pst} {x y : Int32} {ls : List Value} {st : List Value} : T d 165 32 ls (.int y :: .int x :: st) h Q ↔ (if ¬ x = y then T d 165 42 ls st h Q else T d 165 35 ls st h Q) := T_icmp_ne c165_32 (by decide)
theorem c165_35 : cod 165 35 = some (.aload_n 0, 1) := cod_of b165 dX8_calls_35
theorem t165_35 {d : Nat} {h : Hp} {Q : Pst} {l1 l2 : Value} {x : Nat} {st : List Value} : T d 165 35 [.ref x, l1, l2] st h Q ↔ T d 165 36 [.ref x, l1, l2] (.ref x :: st) h Q := T_aload_n c165_35 rfl
theorem c165_36 : cod 165 36 = some (.bipush (-3), 2) := cod_of b165 dX8_calls_36
theorem t165_36 {d : Nat} {h : Hp} {Q : Pst} {ls : List Value} {st : List Value} : T d 165 36 ls st h Q ↔ T d 165 38 ls (.int (-3) :: st) h Q := T_bipushV c165_36 (by decide)
theorem c165_38 : cod 165 38 = some (.invokevirtual 45, 3) := cod_of b165 dX8_calls_38
theorem t165_38 {d : Nat} {h : Hp} {Q : Pst} {a0 : Int32} {a : Nat} {ls : List Value} (ho : isO (h.2.2 a) 7) : T (d + 1) 165 38 ls [.int a0, .ref a] h Q ↔ T d 129 0 [.ref a, .int a0] [] h (fun x h2 => T (d + 1) 165 41 ls (rl x []) h2 Q) := T_virtualR (as := [.int a0]) (r := []) m165 m129 c165_38 k8_45  rfl (by decide) rfl (by simp [wrd, Value.category]) (by simp [stk, Value.category]) rfl (by decide +kernel) ho
theorem c165_41 : cod 165 41 = some (.ireturn, 1) := cod_of b165 dX8_calls_41
theorem t165_41 {d : Nat} {h : Hp} {Q : Pst} {x : Int32} {ls : List Value} : T d 165 41 ls [.int x] h Q ↔ Q (some (.int x)) h := T_iretR m165 c165_41 rfl
theorem c165_42 : cod 165 42 = some (.aload_n 0, 1) := cod_of b165 dX8_calls_42
theorem t165_42 {d : Nat} {h : Hp} {Q : Pst} {l1 l2 : Value} {x : Nat} {st : List Value} : T d 165 42 [.ref x, l1, l2] st h Q ↔ T d 165 43 [.ref x, l1, l2] (.ref x :: st) h Q := T_aload_n c165_42 rfl
theorem c165_43 : cod 165 43 = some (.invokevirtual 163, 3) := cod_of b165 dX8_calls_43
theorem t165_43 {d : Nat} {h : Hp} {Q : Pst} {a : Nat} {ls : List Value} (ho : isO (h.2.2 a) 7) : T (d + 1) 165 43 ls [.ref a] h Q ↔ T d 162 0 [.ref a, un] [] h (fun x h2 => T (d + 1) 165 46 ls (rl x []) h2 Q) := T_virtualR (as := []) (r := []) m165 m162 c165_43 k8_163  rfl (by decide) rfl (by simp [wrd, Value.category]) (by simp [stk, Value.category]) rfl (by decide +kernel) ho
theorem c165_46 : cod 165 46 = some (.aload_n 0, 1) := cod_of b165 dX8_calls_46
theorem t165_46 {d : Nat} {h : Hp} {Q : Pst} {l1 l2 : Value} {x : Nat} {st : List Value} : T d 165 46 [.ref x, l1, l2] st h Q ↔ T d 165 47 [.ref x, l1, l2] (.ref x :: st) h Q := T_aload_n c165_46 rfl
theorem c165_47 : cod 165 47 = some (.getfield 7, 3) := cod_of b165 dX8_calls_47
theorem t165_47 {d : Nat} {h : Hp} {Q : Pst} {a : Nat} {ls : List Value} {st : List Value} : T d 165 47 ls (.ref a :: st) h Q ↔ gF (h.2.2 a) 7 0 (fun v => T d 165 50 ls (v :: st) h Q) := T_getfieldR m165 c165_47 f8_7
theorem c165_50 : cod 165 50 = some (.iconst 0, 1) := cod_of b165 dX8_calls_50
theorem t165_50 {d : Nat} {h : Hp} {Q : Pst} {ls : List Value} {st : List Value} : T d 165 50 ls st h Q ↔ T d 165 51 ls (.int 0 :: st) h Q := T_iconstV c165_50 (by decide)
theorem c165_51 : cod 165 51 = some (.iload_n 1, 1) := cod_of b165 dX8_calls_51
theorem t165_51 {d : Nat} {h : Hp} {Q : Pst} {l0 l2 : Value} {x : Int32} {st : List Value} : T d 165 51 [l0, .int x, l2] st h Q ↔ T d 165 52 [l0, .int x, l2] (.int x :: st) h Q := T_iload_n c165_51 rfl
theorem c165_52 : cod 165 52 = some (.iadd, 1) := cod_of b165 dX8_calls_52
theorem t165_52 {d : Nat} {h : Hp} {Q : Pst} {x y : Int32} {ls : List Value} {st : List Value} : T d 165 52 ls (.int y :: .int x :: st) h Q ↔ T d 165 53 ls (.int (x + y) :: st) h Q := T_iadd c165_52
theorem c165_53 : cod 165 53 = some (.iload_n 2, 1) := cod_of b165 dX8_calls_53
theorem t165_53 {d : Nat} {h : Hp} {Q : Pst} {l0 l1 : Value} {x : Int32} {st : List Value} : T d 165 53 [l0, l1, .int x] st h Q ↔ T d 165 54 [l0, l1, .int x] (.int x :: st) h Q := T_iload_n c165_53 rfl
theorem c165_54 : cod 165 54 = some (.iastore, 1) := cod_of b165 dX8_calls_54
theorem t165_54 {d : Nat} {h : Hp} {Q : Pst} {a : Nat} {i x : Int32} {ls : List Value} {st : List Value} : T d 165 54 ls (.int x :: .int i :: .ref a :: st) h Q ↔ aS (h.2.2 a) i x (fun cell => T d 165 55 ls st (hup h a cell) Q) := T_iastore c165_54
theorem c165_55 : cod 165 55 = some (.aload_n 0, 1) := cod_of b165 dX8_calls_55
theorem t165_55 {d : Nat} {h : Hp} {Q : Pst} {l1 l2 : Value} {x : Nat} {st : List Value} : T d 165 55 [.ref x, l1, l2] st h Q ↔ T d 165 56 [.ref x, l1, l2] (.ref x :: st) h Q := T_aload_n c165_55 rfl
theorem c165_56 : cod 165 56 = some (.iload_n 1, 1) := cod_of b165 dX8_calls_56
theorem t165_56 {d : Nat} {h : Hp} {Q : Pst} {l0 l2 : Value} {x : Int32} {st : List Value} : T d 165 56 [l0, .int x, l2] st h Q ↔ T d 165 57 [l0, .int x, l2] (.int x :: st) h Q := T_iload_n c165_56 rfl
theorem c165_57 : cod 165 57 = some (.iload_n 2, 1) := cod_of b165 dX8_calls_57
theorem t165_57 {d : Nat} {h : Hp} {Q : Pst} {l0 l1 : Value} {x : Int32} {st : List Value} : T d 165 57 [l0, l1, .int x] st h Q ↔ T d 165 58 [l0, l1, .int x] (.int x :: st) h Q := T_iload_n c165_57 rfl
theorem c165_58 : cod 165 58 = some (.aload_n 0, 1) := cod_of b165 dX8_calls_58
theorem t165_58 {d : Nat} {h : Hp} {Q : Pst} {l1 l2 : Value} {x : Nat} {st : List Value} : T d 165 58 [.ref x, l1, l2] st h Q ↔ T d 165 59 [.ref x, l1, l2] (.ref x :: st) h Q := T_aload_n c165_58 rfl
theorem c165_59 : cod 165 59 = some (.getfield 7, 3) := cod_of b165 dX8_calls_59
theorem t165_59 {d : Nat} {h : Hp} {Q : Pst} {a : Nat} {ls : List Value} {st : List Value} : T d 165 59 ls (.ref a :: st) h Q ↔ gF (h.2.2 a) 7 0 (fun v => T d 165 62 ls (v :: st) h Q) := T_getfieldR m165 c165_59 f8_7
theorem c165_62 : cod 165 62 = some (.bipush 10, 2) := cod_of b165 dX8_calls_62
theorem t165_62 {d : Nat} {h : Hp} {Q : Pst} {ls : List Value} {st : List Value} : T d 165 62 ls st h Q ↔ T d 165 64 ls (.int 10 :: st) h Q := T_bipushV c165_62 (by decide)
theorem c165_64 : cod 165 64 = some (.iaload, 1) := cod_of b165 dX8_calls_64
theorem t165_64 {d : Nat} {h : Hp} {Q : Pst} {a : Nat} {i : Int32} {ls : List Value} {st : List Value} : T d 165 64 ls (.int i :: .ref a :: st) h Q ↔ aL (h.2.2 a) i (fun x => T d 165 65 ls (.int x :: st) h Q) := T_iaload c165_64
theorem c165_65 : cod 165 65 = some (.invokevirtual 145, 3) := cod_of b165 dX8_calls_65
theorem t165_65 {d : Nat} {h : Hp} {Q : Pst} {a0 a1 a2 : Int32} {a : Nat} {ls : List Value} (ho : isO (h.2.2 a) 7) : T (d + 1) 165 65 ls [.int a2, .int a1, .int a0, .ref a] h Q ↔ T d 157 0 [.ref a, .int a0, .int a1, .int a2] [] h (fun x h2 => T (d + 1) 165 68 ls (rl x []) h2 Q) := T_virtualR (as := [.int a0, .int a1, .int a2]) (r := []) m165 m157 c165_65 k8_145  rfl (by decide) rfl (by simp [wrd, Value.category]) (by simp [stk, Value.category]) rfl (by decide +kernel) ho
theorem c165_68 : cod 165 68 = some (.ireturn, 1) := cod_of b165 dX8_calls_68
theorem t165_68 {d : Nat} {h : Hp} {Q : Pst} {x : Int32} {ls : List Value} : T d 165 68 ls [.int x] h Q ↔ Q (some (.int x)) h := T_iretR m165 c165_68 rfl
theorem c165_16 : cod 165 16 = some (.aload_n 0, 1) := cod_of b165 dX8_calls_16
theorem t165_16 {d : Nat} {h : Hp} {Q : Pst} {l1 l2 : Value} {x : Nat} {st : List Value} : T d 165 16 [.ref x, l1, l2] st h Q ↔ T d 165 17 [.ref x, l1, l2] (.ref x :: st) h Q := T_aload_n c165_16 rfl
theorem c165_17 : cod 165 17 = some (.bipush (-2), 2) := cod_of b165 dX8_calls_17
theorem t165_17 {d : Nat} {h : Hp} {Q : Pst} {ls : List Value} {st : List Value} : T d 165 17 ls st h Q ↔ T d 165 19 ls (.int (-2) :: st) h Q := T_bipushV c165_17 (by decide)
theorem c165_19 : cod 165 19 = some (.invokevirtual 45, 3) := cod_of b165 dX8_calls_19
theorem t165_19 {d : Nat} {h : Hp} {Q : Pst} {a0 : Int32} {a : Nat} {ls : List Value} (ho : isO (h.2.2 a) 7) : T (d + 1) 165 19 ls [.int a0, .ref a] h Q ↔ T d 129 0 [.ref a, .int a0] [] h (fun x h2 => T (d + 1) 165 22 ls (rl x []) h2 Q) := T_virtualR (as := [.int a0]) (r := []) m165 m129 c165_19 k8_45  rfl (by decide) rfl (by simp [wrd, Value.category]) (by simp [stk, Value.category]) rfl (by decide +kernel) ho
theorem c165_22 : cod 165 22 = some (.ireturn, 1) := cod_of b165 dX8_calls_22
theorem t165_22 {d : Nat} {h : Hp} {Q : Pst} {x : Int32} {ls : List Value} : T d 165 22 ls [.int x] h Q ↔ Q (some (.int x)) h := T_iretR m165 c165_22 rfl
theorem b166 : (mR 166).2.2.1 = cX8_leaves := by rw [m166]
theorem c166_0 : cod 166 0 = some (.aload_n 0, 1) := cod_of b166 dX8_leaves_0
theorem t166_0 {d : Nat} {h : Hp} {Q : Pst} {l1 l2 : Value} {x : Nat} {st : List Value} : T d 166 0 [.ref x, l1, l2] st h Q ↔ T d 166 1 [.ref x, l1, l2] (.ref x :: st) h Q := T_aload_n c166_0 rfl
theorem c166_1 : cod 166 1 = some (.iload_n 1, 1) := cod_of b166 dX8_leaves_1
theorem t166_1 {d : Nat} {h : Hp} {Q : Pst} {l0 l2 : Value} {x : Int32} {st : List Value} : T d 166 1 [l0, .int x, l2] st h Q ↔ T d 166 2 [l0, .int x, l2] (.int x :: st) h Q := T_iload_n c166_1 rfl
theorem c166_2 : cod 166 2 = some (.invokevirtual 157, 3) := cod_of b166 dX8_leaves_2
theorem t166_2 {d : Nat} {h : Hp} {Q : Pst} {a0 : Int32} {a : Nat} {ls : List Value} (ho : isO (h.2.2 a) 7) : T (d + 1) 166 2 ls [.int a0, .ref a] h Q ↔ T d 163 0 [.ref a, .int a0] [] h (fun x h2 => T (d + 1) 166 5 ls (rl x []) h2 Q) := T_virtualR (as := [.int a0]) (r := []) m166 m163 c166_2 k8_157  rfl (by decide) rfl (by simp [wrd, Value.category]) (by simp [stk, Value.category]) rfl (by decide +kernel) ho
theorem c166_5 : cod 166 5 = some (.ifCond .ne 10, 3) := cod_of b166 dX8_leaves_5
theorem t166_5 {d : Nat} {h : Hp} {Q : Pst} {x : Int32} {ls : List Value} {st : List Value} : T d 166 5 ls (.int x :: st) h Q ↔ (if ¬ x = 0 then T d 166 15 ls st h Q else T d 166 8 ls st h Q) := T_if_ne c166_5 (by decide)
theorem c166_8 : cod 166 8 = some (.aload_n 0, 1) := cod_of b166 dX8_leaves_8
theorem t166_8 {d : Nat} {h : Hp} {Q : Pst} {l1 l2 : Value} {x : Nat} {st : List Value} : T d 166 8 [.ref x, l1, l2] st h Q ↔ T d 166 9 [.ref x, l1, l2] (.ref x :: st) h Q := T_aload_n c166_8 rfl
theorem c166_9 : cod 166 9 = some (.bipush (-2), 2) := cod_of b166 dX8_leaves_9
theorem t166_9 {d : Nat} {h : Hp} {Q : Pst} {ls : List Value} {st : List Value} : T d 166 9 ls st h Q ↔ T d 166 11 ls (.int (-2) :: st) h Q := T_bipushV c166_9 (by decide)
theorem c166_11 : cod 166 11 = some (.invokevirtual 45, 3) := cod_of b166 dX8_leaves_11
theorem t166_11 {d : Nat} {h : Hp} {Q : Pst} {a0 : Int32} {a : Nat} {ls : List Value} (ho : isO (h.2.2 a) 7) : T (d + 1) 166 11 ls [.int a0, .ref a] h Q ↔ T d 129 0 [.ref a, .int a0] [] h (fun x h2 => T (d + 1) 166 14 ls (rl x []) h2 Q) := T_virtualR (as := [.int a0]) (r := []) m166 m129 c166_11 k8_45  rfl (by decide) rfl (by simp [wrd, Value.category]) (by simp [stk, Value.category]) rfl (by decide +kernel) ho
theorem c166_14 : cod 166 14 = some (.ireturn, 1) := cod_of b166 dX8_leaves_14
theorem t166_14 {d : Nat} {h : Hp} {Q : Pst} {x : Int32} {ls : List Value} : T d 166 14 ls [.int x] h Q ↔ Q (some (.int x)) h := T_iretR m166 c166_14 rfl
theorem c166_15 : cod 166 15 = some (.aload_n 0, 1) := cod_of b166 dX8_leaves_15
theorem t166_15 {d : Nat} {h : Hp} {Q : Pst} {l1 l2 : Value} {x : Nat} {st : List Value} : T d 166 15 [.ref x, l1, l2] st h Q ↔ T d 166 16 [.ref x, l1, l2] (.ref x :: st) h Q := T_aload_n c166_15 rfl
theorem c166_16 : cod 166 16 = some (.getfield 7, 3) := cod_of b166 dX8_leaves_16
theorem t166_16 {d : Nat} {h : Hp} {Q : Pst} {a : Nat} {ls : List Value} {st : List Value} : T d 166 16 ls (.ref a :: st) h Q ↔ gF (h.2.2 a) 7 0 (fun v => T d 166 19 ls (v :: st) h Q) := T_getfieldR m166 c166_16 f8_7
theorem c166_19 : cod 166 19 = some (.iconst 0, 1) := cod_of b166 dX8_leaves_19
theorem t166_19 {d : Nat} {h : Hp} {Q : Pst} {ls : List Value} {st : List Value} : T d 166 19 ls st h Q ↔ T d 166 20 ls (.int 0 :: st) h Q := T_iconstV c166_19 (by decide)
theorem c166_20 : cod 166 20 = some (.iload_n 1, 1) := cod_of b166 dX8_leaves_20
theorem t166_20 {d : Nat} {h : Hp} {Q : Pst} {l0 l2 : Value} {x : Int32} {st : List Value} : T d 166 20 [l0, .int x, l2] st h Q ↔ T d 166 21 [l0, .int x, l2] (.int x :: st) h Q := T_iload_n c166_20 rfl
theorem c166_21 : cod 166 21 = some (.iadd, 1) := cod_of b166 dX8_leaves_21
theorem t166_21 {d : Nat} {h : Hp} {Q : Pst} {x y : Int32} {ls : List Value} {st : List Value} : T d 166 21 ls (.int y :: .int x :: st) h Q ↔ T d 166 22 ls (.int (x + y) :: st) h Q := T_iadd c166_21
theorem c166_22 : cod 166 22 = some (.iaload, 1) := cod_of b166 dX8_leaves_22
theorem t166_22 {d : Nat} {h : Hp} {Q : Pst} {a : Nat} {i : Int32} {ls : List Value} {st : List Value} : T d 166 22 ls (.int i :: .ref a :: st) h Q ↔ aL (h.2.2 a) i (fun x => T d 166 23 ls (.int x :: st) h Q) := T_iaload c166_22
theorem c166_23 : cod 166 23 = some (.istore_n 2, 1) := cod_of b166 dX8_leaves_23
theorem t166_23 {d : Nat} {h : Hp} {Q : Pst} {l0 l1 l2 : Value} {x : Int32} {st : List Value} : T d 166 23 [l0, l1, l2] (.int x :: st) h Q ↔ T d 166 24 [l0, kil l1, .int x] st h Q := T_istore_n c166_23 (Nat.le_of_ble_eq_true rfl)
theorem c166_24 : cod 166 24 = some (.iload_n 2, 1) := cod_of b166 dX8_leaves_24
theorem t166_24 {d : Nat} {h : Hp} {Q : Pst} {l0 l1 : Value} {x : Int32} {st : List Value} : T d 166 24 [l0, l1, .int x] st h Q ↔ T d 166 25 [l0, l1, .int x] (.int x :: st) h Q := T_iload_n c166_24 rfl
theorem c166_25 : cod 166 25 = some (.iconst (-1), 1) := cod_of b166 dX8_leaves_25
theorem t166_25 {d : Nat} {h : Hp} {Q : Pst} {ls : List Value} {st : List Value} : T d 166 25 ls st h Q ↔ T d 166 26 ls (.int (-1) :: st) h Q := T_iconstV c166_25 (by decide)
theorem c166_26 : cod 166 26 = some (.if_icmp .ne 10, 3) := cod_of b166 dX8_leaves_26
theorem t166_26 {d : Nat} {h : Hp} {Q : Pst} {x y : Int32} {ls : List Value} {st : List Value} : T d 166 26 ls (.int y :: .int x :: st) h Q ↔ (if ¬ x = y then T d 166 36 ls st h Q else T d 166 29 ls st h Q) := T_icmp_ne c166_26 (by decide)
theorem c166_29 : cod 166 29 = some (.aload_n 0, 1) := cod_of b166 dX8_leaves_29
theorem t166_29 {d : Nat} {h : Hp} {Q : Pst} {l1 l2 : Value} {x : Nat} {st : List Value} : T d 166 29 [.ref x, l1, l2] st h Q ↔ T d 166 30 [.ref x, l1, l2] (.ref x :: st) h Q := T_aload_n c166_29 rfl
theorem c166_30 : cod 166 30 = some (.bipush (-3), 2) := cod_of b166 dX8_leaves_30
theorem t166_30 {d : Nat} {h : Hp} {Q : Pst} {ls : List Value} {st : List Value} : T d 166 30 ls st h Q ↔ T d 166 32 ls (.int (-3) :: st) h Q := T_bipushV c166_30 (by decide)
theorem c166_32 : cod 166 32 = some (.invokevirtual 45, 3) := cod_of b166 dX8_leaves_32
theorem t166_32 {d : Nat} {h : Hp} {Q : Pst} {a0 : Int32} {a : Nat} {ls : List Value} (ho : isO (h.2.2 a) 7) : T (d + 1) 166 32 ls [.int a0, .ref a] h Q ↔ T d 129 0 [.ref a, .int a0] [] h (fun x h2 => T (d + 1) 166 35 ls (rl x []) h2 Q) := T_virtualR (as := [.int a0]) (r := []) m166 m129 c166_32 k8_45  rfl (by decide) rfl (by simp [wrd, Value.category]) (by simp [stk, Value.category]) rfl (by decide +kernel) ho
theorem c166_35 : cod 166 35 = some (.ireturn, 1) := cod_of b166 dX8_leaves_35
theorem t166_35 {d : Nat} {h : Hp} {Q : Pst} {x : Int32} {ls : List Value} : T d 166 35 ls [.int x] h Q ↔ Q (some (.int x)) h := T_iretR m166 c166_35 rfl
theorem c166_36 : cod 166 36 = some (.aload_n 0, 1) := cod_of b166 dX8_leaves_36
theorem t166_36 {d : Nat} {h : Hp} {Q : Pst} {l1 l2 : Value} {x : Nat} {st : List Value} : T d 166 36 [.ref x, l1, l2] st h Q ↔ T d 166 37 [.ref x, l1, l2] (.ref x :: st) h Q := T_aload_n c166_36 rfl
theorem c166_37 : cod 166 37 = some (.invokevirtual 163, 3) := cod_of b166 dX8_leaves_37
theorem t166_37 {d : Nat} {h : Hp} {Q : Pst} {a : Nat} {ls : List Value} (ho : isO (h.2.2 a) 7) : T (d + 1) 166 37 ls [.ref a] h Q ↔ T d 162 0 [.ref a, un] [] h (fun x h2 => T (d + 1) 166 40 ls (rl x []) h2 Q) := T_virtualR (as := []) (r := []) m166 m162 c166_37 k8_163  rfl (by decide) rfl (by simp [wrd, Value.category]) (by simp [stk, Value.category]) rfl (by decide +kernel) ho
theorem c166_40 : cod 166 40 = some (.aload_n 0, 1) := cod_of b166 dX8_leaves_40
theorem t166_40 {d : Nat} {h : Hp} {Q : Pst} {l1 l2 : Value} {x : Nat} {st : List Value} : T d 166 40 [.ref x, l1, l2] st h Q ↔ T d 166 41 [.ref x, l1, l2] (.ref x :: st) h Q := T_aload_n c166_40 rfl
theorem c166_41 : cod 166 41 = some (.getfield 7, 3) := cod_of b166 dX8_leaves_41
theorem t166_41 {d : Nat} {h : Hp} {Q : Pst} {a : Nat} {ls : List Value} {st : List Value} : T d 166 41 ls (.ref a :: st) h Q ↔ gF (h.2.2 a) 7 0 (fun v => T d 166 44 ls (v :: st) h Q) := T_getfieldR m166 c166_41 f8_7
theorem c166_44 : cod 166 44 = some (.iconst 0, 1) := cod_of b166 dX8_leaves_44
theorem t166_44 {d : Nat} {h : Hp} {Q : Pst} {ls : List Value} {st : List Value} : T d 166 44 ls st h Q ↔ T d 166 45 ls (.int 0 :: st) h Q := T_iconstV c166_44 (by decide)
theorem c166_45 : cod 166 45 = some (.iload_n 1, 1) := cod_of b166 dX8_leaves_45
theorem t166_45 {d : Nat} {h : Hp} {Q : Pst} {l0 l2 : Value} {x : Int32} {st : List Value} : T d 166 45 [l0, .int x, l2] st h Q ↔ T d 166 46 [l0, .int x, l2] (.int x :: st) h Q := T_iload_n c166_45 rfl
theorem c166_46 : cod 166 46 = some (.iadd, 1) := cod_of b166 dX8_leaves_46
theorem t166_46 {d : Nat} {h : Hp} {Q : Pst} {x y : Int32} {ls : List Value} {st : List Value} : T d 166 46 ls (.int y :: .int x :: st) h Q ↔ T d 166 47 ls (.int (x + y) :: st) h Q := T_iadd c166_46
theorem c166_47 : cod 166 47 = some (.iconst (-1), 1) := cod_of b166 dX8_leaves_47
theorem t166_47 {d : Nat} {h : Hp} {Q : Pst} {ls : List Value} {st : List Value} : T d 166 47 ls st h Q ↔ T d 166 48 ls (.int (-1) :: st) h Q := T_iconstV c166_47 (by decide)
theorem c166_48 : cod 166 48 = some (.iastore, 1) := cod_of b166 dX8_leaves_48
theorem t166_48 {d : Nat} {h : Hp} {Q : Pst} {a : Nat} {i x : Int32} {ls : List Value} {st : List Value} : T d 166 48 ls (.int x :: .int i :: .ref a :: st) h Q ↔ aS (h.2.2 a) i x (fun cell => T d 166 49 ls st (hup h a cell) Q) := T_iastore c166_48
theorem c166_49 : cod 166 49 = some (.iload_n 2, 1) := cod_of b166 dX8_leaves_49
theorem t166_49 {d : Nat} {h : Hp} {Q : Pst} {l0 l1 : Value} {x : Int32} {st : List Value} : T d 166 49 [l0, l1, .int x] st h Q ↔ T d 166 50 [l0, l1, .int x] (.int x :: st) h Q := T_iload_n c166_49 rfl
theorem c166_50 : cod 166 50 = some (.ireturn, 1) := cod_of b166 dX8_leaves_50
theorem t166_50 {d : Nat} {h : Hp} {Q : Pst} {x : Int32} {ls : List Value} : T d 166 50 ls [.int x] h Q ↔ Q (some (.int x)) h := T_iretR m166 c166_50 rfl
theorem b167 : (mR 167).2.2.1 = cX8_wets := by rw [m167]
theorem c167_0 : cod 167 0 = some (.iload_n 1, 1) := cod_of b167 dX8_wets_0
theorem t167_0 {d : Nat} {h : Hp} {Q : Pst} {l0 l2 : Value} {x : Int32} {st : List Value} : T d 167 0 [l0, .int x, l2] st h Q ↔ T d 167 1 [l0, .int x, l2] (.int x :: st) h Q := T_iload_n c167_0 rfl
theorem c167_1 : cod 167 1 = some (.iconst 0, 1) := cod_of b167 dX8_wets_1
theorem t167_1 {d : Nat} {h : Hp} {Q : Pst} {ls : List Value} {st : List Value} : T d 167 1 ls st h Q ↔ T d 167 2 ls (.int 0 :: st) h Q := T_iconstV c167_1 (by decide)
theorem c167_2 : cod 167 2 = some (.iconst 4, 1) := cod_of b167 dX8_wets_2
theorem t167_2 {d : Nat} {h : Hp} {Q : Pst} {ls : List Value} {st : List Value} : T d 167 2 ls st h Q ↔ T d 167 3 ls (.int 4 :: st) h Q := T_iconstV c167_2 (by decide)
theorem c167_3 : cod 167 3 = some (.invokestatic 49, 3) := cod_of b167 dX8_wets_3
theorem t167_3 {d : Nat} {h : Hp} {Q : Pst} {a0 a1 a2 : Int32} {ls : List Value} : T (d + 1) 167 3 ls [.int a2, .int a1, .int a0] h Q ↔ T d 126 0 [.int a0, .int a1, .int a2] [] h (fun x h2 => T (d + 1) 167 6 ls (rl x []) h2 Q) := T_staticR (as := [.int a0, .int a1, .int a2]) (r := []) m167 m126 c167_3 k8_49 (Or.inl rfl) rfl (by decide) rfl (by simp [wrd, Value.category]) (by simp [stk, Value.category]) rfl
theorem c167_6 : cod 167 6 = some (.ifCond .ne 10, 3) := cod_of b167 dX8_wets_6
theorem t167_6 {d : Nat} {h : Hp} {Q : Pst} {x : Int32} {ls : List Value} {st : List Value} : T d 167 6 ls (.int x :: st) h Q ↔ (if ¬ x = 0 then T d 167 16 ls st h Q else T d 167 9 ls st h Q) := T_if_ne c167_6 (by decide)
theorem c167_9 : cod 167 9 = some (.aload_n 0, 1) := cod_of b167 dX8_wets_9
theorem t167_9 {d : Nat} {h : Hp} {Q : Pst} {l1 l2 : Value} {x : Nat} {st : List Value} : T d 167 9 [.ref x, l1, l2] st h Q ↔ T d 167 10 [.ref x, l1, l2] (.ref x :: st) h Q := T_aload_n c167_9 rfl
theorem c167_10 : cod 167 10 = some (.bipush (-2), 2) := cod_of b167 dX8_wets_10
theorem t167_10 {d : Nat} {h : Hp} {Q : Pst} {ls : List Value} {st : List Value} : T d 167 10 ls st h Q ↔ T d 167 12 ls (.int (-2) :: st) h Q := T_bipushV c167_10 (by decide)
theorem c167_12 : cod 167 12 = some (.invokevirtual 45, 3) := cod_of b167 dX8_wets_12
theorem t167_12 {d : Nat} {h : Hp} {Q : Pst} {a0 : Int32} {a : Nat} {ls : List Value} (ho : isO (h.2.2 a) 7) : T (d + 1) 167 12 ls [.int a0, .ref a] h Q ↔ T d 129 0 [.ref a, .int a0] [] h (fun x h2 => T (d + 1) 167 15 ls (rl x []) h2 Q) := T_virtualR (as := [.int a0]) (r := []) m167 m129 c167_12 k8_45  rfl (by decide) rfl (by simp [wrd, Value.category]) (by simp [stk, Value.category]) rfl (by decide +kernel) ho
theorem c167_15 : cod 167 15 = some (.ireturn, 1) := cod_of b167 dX8_wets_15
theorem t167_15 {d : Nat} {h : Hp} {Q : Pst} {x : Int32} {ls : List Value} : T d 167 15 ls [.int x] h Q ↔ Q (some (.int x)) h := T_iretR m167 c167_15 rfl
theorem c167_16 : cod 167 16 = some (.aload_n 0, 1) := cod_of b167 dX8_wets_16
theorem t167_16 {d : Nat} {h : Hp} {Q : Pst} {l1 l2 : Value} {x : Nat} {st : List Value} : T d 167 16 [.ref x, l1, l2] st h Q ↔ T d 167 17 [.ref x, l1, l2] (.ref x :: st) h Q := T_aload_n c167_16 rfl
theorem c167_17 : cod 167 17 = some (.getfield 7, 3) := cod_of b167 dX8_wets_17
theorem t167_17 {d : Nat} {h : Hp} {Q : Pst} {a : Nat} {ls : List Value} {st : List Value} : T d 167 17 ls (.ref a :: st) h Q ↔ gF (h.2.2 a) 7 0 (fun v => T d 167 20 ls (v :: st) h Q) := T_getfieldR m167 c167_17 f8_7
theorem c167_20 : cod 167 20 = some (.bipush 10, 2) := cod_of b167 dX8_wets_20
theorem t167_20 {d : Nat} {h : Hp} {Q : Pst} {ls : List Value} {st : List Value} : T d 167 20 ls st h Q ↔ T d 167 22 ls (.int 10 :: st) h Q := T_bipushV c167_20 (by decide)
theorem c167_22 : cod 167 22 = some (.iaload, 1) := cod_of b167 dX8_wets_22
theorem t167_22 {d : Nat} {h : Hp} {Q : Pst} {a : Nat} {i : Int32} {ls : List Value} {st : List Value} : T d 167 22 ls (.int i :: .ref a :: st) h Q ↔ aL (h.2.2 a) i (fun x => T d 167 23 ls (.int x :: st) h Q) := T_iaload c167_22
theorem c167_23 : cod 167 23 = some (.istore_n 2, 1) := cod_of b167 dX8_wets_23
theorem t167_23 {d : Nat} {h : Hp} {Q : Pst} {l0 l1 l2 : Value} {x : Int32} {st : List Value} : T d 167 23 [l0, l1, l2] (.int x :: st) h Q ↔ T d 167 24 [l0, kil l1, .int x] st h Q := T_istore_n c167_23 (Nat.le_of_ble_eq_true rfl)
theorem c167_24 : cod 167 24 = some (.iload_n 2, 1) := cod_of b167 dX8_wets_24
theorem t167_24 {d : Nat} {h : Hp} {Q : Pst} {l0 l1 : Value} {x : Int32} {st : List Value} : T d 167 24 [l0, l1, .int x] st h Q ↔ T d 167 25 [l0, l1, .int x] (.int x :: st) h Q := T_iload_n c167_24 rfl
theorem c167_25 : cod 167 25 = some (.iload_n 1, 1) := cod_of b167 dX8_wets_25
theorem t167_25 {d : Nat} {h : Hp} {Q : Pst} {l0 l2 : Value} {x : Int32} {st : List Value} : T d 167 25 [l0, .int x, l2] st h Q ↔ T d 167 26 [l0, .int x, l2] (.int x :: st) h Q := T_iload_n c167_25 rfl
theorem c167_26 : cod 167 26 = some (.if_icmp .ne 10, 3) := cod_of b167 dX8_wets_26
theorem t167_26 {d : Nat} {h : Hp} {Q : Pst} {x y : Int32} {ls : List Value} {st : List Value} : T d 167 26 ls (.int y :: .int x :: st) h Q ↔ (if ¬ x = y then T d 167 36 ls st h Q else T d 167 29 ls st h Q) := T_icmp_ne c167_26 (by decide)
theorem c167_29 : cod 167 29 = some (.aload_n 0, 1) := cod_of b167 dX8_wets_29
theorem t167_29 {d : Nat} {h : Hp} {Q : Pst} {l1 l2 : Value} {x : Nat} {st : List Value} : T d 167 29 [.ref x, l1, l2] st h Q ↔ T d 167 30 [.ref x, l1, l2] (.ref x :: st) h Q := T_aload_n c167_29 rfl
theorem c167_30 : cod 167 30 = some (.bipush (-3), 2) := cod_of b167 dX8_wets_30
theorem t167_30 {d : Nat} {h : Hp} {Q : Pst} {ls : List Value} {st : List Value} : T d 167 30 ls st h Q ↔ T d 167 32 ls (.int (-3) :: st) h Q := T_bipushV c167_30 (by decide)
theorem c167_32 : cod 167 32 = some (.invokevirtual 45, 3) := cod_of b167 dX8_wets_32
theorem t167_32 {d : Nat} {h : Hp} {Q : Pst} {a0 : Int32} {a : Nat} {ls : List Value} (ho : isO (h.2.2 a) 7) : T (d + 1) 167 32 ls [.int a0, .ref a] h Q ↔ T d 129 0 [.ref a, .int a0] [] h (fun x h2 => T (d + 1) 167 35 ls (rl x []) h2 Q) := T_virtualR (as := [.int a0]) (r := []) m167 m129 c167_32 k8_45  rfl (by decide) rfl (by simp [wrd, Value.category]) (by simp [stk, Value.category]) rfl (by decide +kernel) ho
theorem c167_35 : cod 167 35 = some (.ireturn, 1) := cod_of b167 dX8_wets_35
theorem t167_35 {d : Nat} {h : Hp} {Q : Pst} {x : Int32} {ls : List Value} : T d 167 35 ls [.int x] h Q ↔ Q (some (.int x)) h := T_iretR m167 c167_35 rfl
theorem c167_36 : cod 167 36 = some (.aload_n 0, 1) := cod_of b167 dX8_wets_36
theorem t167_36 {d : Nat} {h : Hp} {Q : Pst} {l1 l2 : Value} {x : Nat} {st : List Value} : T d 167 36 [.ref x, l1, l2] st h Q ↔ T d 167 37 [.ref x, l1, l2] (.ref x :: st) h Q := T_aload_n c167_36 rfl
theorem c167_37 : cod 167 37 = some (.invokevirtual 163, 3) := cod_of b167 dX8_wets_37
theorem t167_37 {d : Nat} {h : Hp} {Q : Pst} {a : Nat} {ls : List Value} (ho : isO (h.2.2 a) 7) : T (d + 1) 167 37 ls [.ref a] h Q ↔ T d 162 0 [.ref a, un] [] h (fun x h2 => T (d + 1) 167 40 ls (rl x []) h2 Q) := T_virtualR (as := []) (r := []) m167 m162 c167_37 k8_163  rfl (by decide) rfl (by simp [wrd, Value.category]) (by simp [stk, Value.category]) rfl (by decide +kernel) ho
theorem c167_40 : cod 167 40 = some (.aload_n 0, 1) := cod_of b167 dX8_wets_40
theorem t167_40 {d : Nat} {h : Hp} {Q : Pst} {l1 l2 : Value} {x : Nat} {st : List Value} : T d 167 40 [.ref x, l1, l2] st h Q ↔ T d 167 41 [.ref x, l1, l2] (.ref x :: st) h Q := T_aload_n c167_40 rfl
theorem c167_41 : cod 167 41 = some (.getfield 7, 3) := cod_of b167 dX8_wets_41
theorem t167_41 {d : Nat} {h : Hp} {Q : Pst} {a : Nat} {ls : List Value} {st : List Value} : T d 167 41 ls (.ref a :: st) h Q ↔ gF (h.2.2 a) 7 0 (fun v => T d 167 44 ls (v :: st) h Q) := T_getfieldR m167 c167_41 f8_7
theorem c167_44 : cod 167 44 = some (.bipush 10, 2) := cod_of b167 dX8_wets_44
theorem t167_44 {d : Nat} {h : Hp} {Q : Pst} {ls : List Value} {st : List Value} : T d 167 44 ls st h Q ↔ T d 167 46 ls (.int 10 :: st) h Q := T_bipushV c167_44 (by decide)
theorem c167_46 : cod 167 46 = some (.iload_n 1, 1) := cod_of b167 dX8_wets_46
theorem t167_46 {d : Nat} {h : Hp} {Q : Pst} {l0 l2 : Value} {x : Int32} {st : List Value} : T d 167 46 [l0, .int x, l2] st h Q ↔ T d 167 47 [l0, .int x, l2] (.int x :: st) h Q := T_iload_n c167_46 rfl
theorem c167_47 : cod 167 47 = some (.iastore, 1) := cod_of b167 dX8_wets_47
theorem t167_47 {d : Nat} {h : Hp} {Q : Pst} {a : Nat} {i x : Int32} {ls : List Value} {st : List Value} : T d 167 47 ls (.int x :: .int i :: .ref a :: st) h Q ↔ aS (h.2.2 a) i x (fun cell => T d 167 48 ls st (hup h a cell) Q) := T_iastore c167_47
theorem c167_48 : cod 167 48 = some (.iload_n 2, 1) := cod_of b167 dX8_wets_48
theorem t167_48 {d : Nat} {h : Hp} {Q : Pst} {l0 l1 : Value} {x : Int32} {st : List Value} : T d 167 48 [l0, l1, .int x] st h Q ↔ T d 167 49 [l0, l1, .int x] (.int x :: st) h Q := T_iload_n c167_48 rfl
theorem c167_49 : cod 167 49 = some (.ireturn, 1) := cod_of b167 dX8_wets_49
theorem t167_49 {d : Nat} {h : Hp} {Q : Pst} {x : Int32} {ls : List Value} : T d 167 49 ls [.int x] h Q ↔ Q (some (.int x)) h := T_iretR m167 c167_49 rfl
theorem b168 : (mR 168).2.2.1 = cX8_evenings := by rw [m168]
theorem c168_0 : cod 168 0 = some (.iload_n 1, 1) := cod_of b168 dX8_evenings_0
theorem t168_0 {d : Nat} {h : Hp} {Q : Pst} {l0 : Value} {x : Int32} {st : List Value} : T d 168 0 [l0, .int x] st h Q ↔ T d 168 1 [l0, .int x] (.int x :: st) h Q := T_iload_n c168_0 rfl
theorem c168_1 : cod 168 1 = some (.iconst 1, 1) := cod_of b168 dX8_evenings_1
theorem t168_1 {d : Nat} {h : Hp} {Q : Pst} {ls : List Value} {st : List Value} : T d 168 1 ls st h Q ↔ T d 168 2 ls (.int 1 :: st) h Q := T_iconstV c168_1 (by decide)
theorem c168_2 : cod 168 2 = some (.bipush 60, 2) := cod_of b168 dX8_evenings_2
theorem t168_2 {d : Nat} {h : Hp} {Q : Pst} {ls : List Value} {st : List Value} : T d 168 2 ls st h Q ↔ T d 168 4 ls (.int 60 :: st) h Q := T_bipushV c168_2 (by decide)
theorem c168_4 : cod 168 4 = some (.invokestatic 49, 3) := cod_of b168 dX8_evenings_4
theorem t168_4 {d : Nat} {h : Hp} {Q : Pst} {a0 a1 a2 : Int32} {ls : List Value} : T (d + 1) 168 4 ls [.int a2, .int a1, .int a0] h Q ↔ T d 126 0 [.int a0, .int a1, .int a2] [] h (fun x h2 => T (d + 1) 168 7 ls (rl x []) h2 Q) := T_staticR (as := [.int a0, .int a1, .int a2]) (r := []) m168 m126 c168_4 k8_49 (Or.inl rfl) rfl (by decide) rfl (by simp [wrd, Value.category]) (by simp [stk, Value.category]) rfl
theorem c168_7 : cod 168 7 = some (.ifCond .ne 10, 3) := cod_of b168 dX8_evenings_7
theorem t168_7 {d : Nat} {h : Hp} {Q : Pst} {x : Int32} {ls : List Value} {st : List Value} : T d 168 7 ls (.int x :: st) h Q ↔ (if ¬ x = 0 then T d 168 17 ls st h Q else T d 168 10 ls st h Q) := T_if_ne c168_7 (by decide)
theorem c168_10 : cod 168 10 = some (.aload_n 0, 1) := cod_of b168 dX8_evenings_10
theorem t168_10 {d : Nat} {h : Hp} {Q : Pst} {l1 : Value} {x : Nat} {st : List Value} : T d 168 10 [.ref x, l1] st h Q ↔ T d 168 11 [.ref x, l1] (.ref x :: st) h Q := T_aload_n c168_10 rfl
theorem c168_11 : cod 168 11 = some (.bipush (-2), 2) := cod_of b168 dX8_evenings_11
theorem t168_11 {d : Nat} {h : Hp} {Q : Pst} {ls : List Value} {st : List Value} : T d 168 11 ls st h Q ↔ T d 168 13 ls (.int (-2) :: st) h Q := T_bipushV c168_11 (by decide)
theorem c168_13 : cod 168 13 = some (.invokevirtual 45, 3) := cod_of b168 dX8_evenings_13
theorem t168_13 {d : Nat} {h : Hp} {Q : Pst} {a0 : Int32} {a : Nat} {ls : List Value} (ho : isO (h.2.2 a) 7) : T (d + 1) 168 13 ls [.int a0, .ref a] h Q ↔ T d 129 0 [.ref a, .int a0] [] h (fun x h2 => T (d + 1) 168 16 ls (rl x []) h2 Q) := T_virtualR (as := [.int a0]) (r := []) m168 m129 c168_13 k8_45  rfl (by decide) rfl (by simp [wrd, Value.category]) (by simp [stk, Value.category]) rfl (by decide +kernel) ho
theorem c168_16 : cod 168 16 = some (.ireturn, 1) := cod_of b168 dX8_evenings_16
theorem t168_16 {d : Nat} {h : Hp} {Q : Pst} {x : Int32} {ls : List Value} : T d 168 16 ls [.int x] h Q ↔ Q (some (.int x)) h := T_iretR m168 c168_16 rfl
theorem c168_17 : cod 168 17 = some (.aload_n 0, 1) := cod_of b168 dX8_evenings_17
theorem t168_17 {d : Nat} {h : Hp} {Q : Pst} {l1 : Value} {x : Nat} {st : List Value} : T d 168 17 [.ref x, l1] st h Q ↔ T d 168 18 [.ref x, l1] (.ref x :: st) h Q := T_aload_n c168_17 rfl
theorem c168_18 : cod 168 18 = some (.invokevirtual 163, 3) := cod_of b168 dX8_evenings_18
theorem t168_18 {d : Nat} {h : Hp} {Q : Pst} {a : Nat} {ls : List Value} (ho : isO (h.2.2 a) 7) : T (d + 1) 168 18 ls [.ref a] h Q ↔ T d 162 0 [.ref a, un] [] h (fun x h2 => T (d + 1) 168 21 ls (rl x []) h2 Q) := T_virtualR (as := []) (r := []) m168 m162 c168_18 k8_163  rfl (by decide) rfl (by simp [wrd, Value.category]) (by simp [stk, Value.category]) rfl (by decide +kernel) ho
theorem c168_21 : cod 168 21 = some (.aload_n 0, 1) := cod_of b168 dX8_evenings_21
theorem t168_21 {d : Nat} {h : Hp} {Q : Pst} {l1 : Value} {x : Nat} {st : List Value} : T d 168 21 [.ref x, l1] st h Q ↔ T d 168 22 [.ref x, l1] (.ref x :: st) h Q := T_aload_n c168_21 rfl
theorem c168_22 : cod 168 22 = some (.iload_n 1, 1) := cod_of b168 dX8_evenings_22
theorem t168_22 {d : Nat} {h : Hp} {Q : Pst} {l0 : Value} {x : Int32} {st : List Value} : T d 168 22 [l0, .int x] st h Q ↔ T d 168 23 [l0, .int x] (.int x :: st) h Q := T_iload_n c168_22 rfl
theorem c168_23 : cod 168 23 = some (.invokevirtual 115, 3) := cod_of b168 dX8_evenings_23
theorem t168_23 {d : Nat} {h : Hp} {Q : Pst} {a0 : Int32} {a : Nat} {ls : List Value} (ho : isO (h.2.2 a) 7) : T (d + 1) 168 23 ls [.int a0, .ref a] h Q ↔ T d 160 0 [.ref a, .int a0, un] [] h (fun x h2 => T (d + 1) 168 26 ls (rl x []) h2 Q) := T_virtualR (as := [.int a0]) (r := []) m168 m160 c168_23 k8_115  rfl (by decide) rfl (by simp [wrd, Value.category]) (by simp [stk, Value.category]) rfl (by decide +kernel) ho
theorem c168_26 : cod 168 26 = some (.aload_n 0, 1) := cod_of b168 dX8_evenings_26
theorem t168_26 {d : Nat} {h : Hp} {Q : Pst} {l1 : Value} {x : Nat} {st : List Value} : T d 168 26 [.ref x, l1] st h Q ↔ T d 168 27 [.ref x, l1] (.ref x :: st) h Q := T_aload_n c168_26 rfl
theorem c168_27 : cod 168 27 = some (.iconst 0, 1) := cod_of b168 dX8_evenings_27
theorem t168_27 {d : Nat} {h : Hp} {Q : Pst} {ls : List Value} {st : List Value} : T d 168 27 ls st h Q ↔ T d 168 28 ls (.int 0 :: st) h Q := T_iconstV c168_27 (by decide)
theorem c168_28 : cod 168 28 = some (.invokevirtual 166, 3) := cod_of b168 dX8_evenings_28
theorem t168_28 {d : Nat} {h : Hp} {Q : Pst} {a0 : Int32} {a : Nat} {ls : List Value} (ho : isO (h.2.2 a) 7) : T (d + 1) 168 28 ls [.int a0, .ref a] h Q ↔ T d 161 0 [.ref a, .int a0, un, un] [] h (fun x h2 => T (d + 1) 168 31 ls (rl x []) h2 Q) := T_virtualR (as := [.int a0]) (r := []) m168 m161 c168_28 k8_166  rfl (by decide) rfl (by simp [wrd, Value.category]) (by simp [stk, Value.category]) rfl (by decide +kernel) ho
theorem c168_31 : cod 168 31 = some (.ireturn, 1) := cod_of b168 dX8_evenings_31
theorem t168_31 {d : Nat} {h : Hp} {Q : Pst} {x : Int32} {ls : List Value} : T d 168 31 ls [.int x] h Q ↔ Q (some (.int x)) h := T_iretR m168 c168_31 rfl
theorem b169 : (mR 169).2.2.1 = cX8_undo := by rw [m169]
theorem c169_0 : cod 169 0 = some (.aload_n 0, 1) := cod_of b169 dX8_undo_0
theorem t169_0 {d : Nat} {h : Hp} {Q : Pst} {l1 : Value} {x : Nat} {st : List Value} : T d 169 0 [.ref x, l1] st h Q ↔ T d 169 1 [.ref x, l1] (.ref x :: st) h Q := T_aload_n c169_0 rfl
theorem c169_1 : cod 169 1 = some (.getfield 7, 3) := cod_of b169 dX8_undo_1
theorem t169_1 {d : Nat} {h : Hp} {Q : Pst} {a : Nat} {ls : List Value} {st : List Value} : T d 169 1 ls (.ref a :: st) h Q ↔ gF (h.2.2 a) 7 0 (fun v => T d 169 4 ls (v :: st) h Q) := T_getfieldR m169 c169_1 f8_7
theorem c169_4 : cod 169 4 = some (.bipush 111, 2) := cod_of b169 dX8_undo_4
theorem t169_4 {d : Nat} {h : Hp} {Q : Pst} {ls : List Value} {st : List Value} : T d 169 4 ls st h Q ↔ T d 169 6 ls (.int 111 :: st) h Q := T_bipushV c169_4 (by decide)
theorem c169_6 : cod 169 6 = some (.iaload, 1) := cod_of b169 dX8_undo_6
theorem t169_6 {d : Nat} {h : Hp} {Q : Pst} {a : Nat} {i : Int32} {ls : List Value} {st : List Value} : T d 169 6 ls (.int i :: .ref a :: st) h Q ↔ aL (h.2.2 a) i (fun x => T d 169 7 ls (.int x :: st) h Q) := T_iaload c169_6
theorem c169_7 : cod 169 7 = some (.ifCond .ne 10, 3) := cod_of b169 dX8_undo_7
theorem t169_7 {d : Nat} {h : Hp} {Q : Pst} {x : Int32} {ls : List Value} {st : List Value} : T d 169 7 ls (.int x :: st) h Q ↔ (if ¬ x = 0 then T d 169 17 ls st h Q else T d 169 10 ls st h Q) := T_if_ne c169_7 (by decide)
theorem c169_10 : cod 169 10 = some (.aload_n 0, 1) := cod_of b169 dX8_undo_10
theorem t169_10 {d : Nat} {h : Hp} {Q : Pst} {l1 : Value} {x : Nat} {st : List Value} : T d 169 10 [.ref x, l1] st h Q ↔ T d 169 11 [.ref x, l1] (.ref x :: st) h Q := T_aload_n c169_10 rfl
theorem c169_11 : cod 169 11 = some (.bipush (-3), 2) := cod_of b169 dX8_undo_11
theorem t169_11 {d : Nat} {h : Hp} {Q : Pst} {ls : List Value} {st : List Value} : T d 169 11 ls st h Q ↔ T d 169 13 ls (.int (-3) :: st) h Q := T_bipushV c169_11 (by decide)
theorem c169_13 : cod 169 13 = some (.invokevirtual 45, 3) := cod_of b169 dX8_undo_13
theorem t169_13 {d : Nat} {h : Hp} {Q : Pst} {a0 : Int32} {a : Nat} {ls : List Value} (ho : isO (h.2.2 a) 7) : T (d + 1) 169 13 ls [.int a0, .ref a] h Q ↔ T d 129 0 [.ref a, .int a0] [] h (fun x h2 => T (d + 1) 169 16 ls (rl x []) h2 Q) := T_virtualR (as := [.int a0]) (r := []) m169 m129 c169_13 k8_45  rfl (by decide) rfl (by simp [wrd, Value.category]) (by simp [stk, Value.category]) rfl (by decide +kernel) ho
theorem c169_16 : cod 169 16 = some (.ireturn, 1) := cod_of b169 dX8_undo_16
theorem t169_16 {d : Nat} {h : Hp} {Q : Pst} {x : Int32} {ls : List Value} : T d 169 16 ls [.int x] h Q ↔ Q (some (.int x)) h := T_iretR m169 c169_16 rfl
theorem c169_17 : cod 169 17 = some (.aload_n 0, 1) := cod_of b169 dX8_undo_17
theorem t169_17 {d : Nat} {h : Hp} {Q : Pst} {l1 : Value} {x : Nat} {st : List Value} : T d 169 17 [.ref x, l1] st h Q ↔ T d 169 18 [.ref x, l1] (.ref x :: st) h Q := T_aload_n c169_17 rfl
theorem c169_18 : cod 169 18 = some (.getfield 7, 3) := cod_of b169 dX8_undo_18
theorem t169_18 {d : Nat} {h : Hp} {Q : Pst} {a : Nat} {ls : List Value} {st : List Value} : T d 169 18 ls (.ref a :: st) h Q ↔ gF (h.2.2 a) 7 0 (fun v => T d 169 21 ls (v :: st) h Q) := T_getfieldR m169 c169_18 f8_7
theorem c169_21 : cod 169 21 = some (.bipush 111, 2) := cod_of b169 dX8_undo_21
theorem t169_21 {d : Nat} {h : Hp} {Q : Pst} {ls : List Value} {st : List Value} : T d 169 21 ls st h Q ↔ T d 169 23 ls (.int 111 :: st) h Q := T_bipushV c169_21 (by decide)
theorem c169_23 : cod 169 23 = some (.dup2, 1) := cod_of b169 dX8_undo_23
theorem t169_23 {d : Nat} {h : Hp} {Q : Pst} {x : Int32} {y : Nat} {ls : List Value} {st : List Value} : T d 169 23 ls (.int x :: .ref y :: st) h Q ↔ T d 169 24 ls (.int x :: .ref y :: .int x :: .ref y :: st) h Q := T_dup2 c169_23 rfl rfl
theorem c169_24 : cod 169 24 = some (.iaload, 1) := cod_of b169 dX8_undo_24
theorem t169_24 {d : Nat} {h : Hp} {Q : Pst} {a : Nat} {i : Int32} {ls : List Value} {st : List Value} : T d 169 24 ls (.int i :: .ref a :: st) h Q ↔ aL (h.2.2 a) i (fun x => T d 169 25 ls (.int x :: st) h Q) := T_iaload c169_24
theorem c169_25 : cod 169 25 = some (.iconst 1, 1) := cod_of b169 dX8_undo_25
theorem t169_25 {d : Nat} {h : Hp} {Q : Pst} {ls : List Value} {st : List Value} : T d 169 25 ls st h Q ↔ T d 169 26 ls (.int 1 :: st) h Q := T_iconstV c169_25 (by decide)
theorem c169_26 : cod 169 26 = some (.isub, 1) := cod_of b169 dX8_undo_26
theorem t169_26 {d : Nat} {h : Hp} {Q : Pst} {x y : Int32} {ls : List Value} {st : List Value} : T d 169 26 ls (.int y :: .int x :: st) h Q ↔ T d 169 27 ls (.int (x - y) :: st) h Q := T_isub c169_26
theorem c169_27 : cod 169 27 = some (.iastore, 1) := cod_of b169 dX8_undo_27
theorem t169_27 {d : Nat} {h : Hp} {Q : Pst} {a : Nat} {i x : Int32} {ls : List Value} {st : List Value} : T d 169 27 ls (.int x :: .int i :: .ref a :: st) h Q ↔ aS (h.2.2 a) i x (fun cell => T d 169 28 ls st (hup h a cell) Q) := T_iastore c169_27
theorem c169_28 : cod 169 28 = some (.iconst 0, 1) := cod_of b169 dX8_undo_28
theorem t169_28 {d : Nat} {h : Hp} {Q : Pst} {ls : List Value} {st : List Value} : T d 169 28 ls st h Q ↔ T d 169 29 ls (.int 0 :: st) h Q := T_iconstV c169_28 (by decide)
theorem c169_29 : cod 169 29 = some (.istore_n 1, 1) := cod_of b169 dX8_undo_29
theorem t169_29 {d : Nat} {h : Hp} {Q : Pst} {l0 l1 : Value} {x : Int32} {st : List Value} : T d 169 29 [l0, l1] (.int x :: st) h Q ↔ T d 169 30 [kil l0, .int x] st h Q := T_istore_n c169_29 (Nat.le_of_ble_eq_true rfl)
theorem c169_30 : cod 169 30 = some (.iload_n 1, 1) := cod_of b169 dX8_undo_30
theorem t169_30 {d : Nat} {h : Hp} {Q : Pst} {l0 : Value} {x : Int32} {st : List Value} : T d 169 30 [l0, .int x] st h Q ↔ T d 169 31 [l0, .int x] (.int x :: st) h Q := T_iload_n c169_30 rfl
theorem c169_31 : cod 169 31 = some (.bipush 12, 2) := cod_of b169 dX8_undo_31
theorem t169_31 {d : Nat} {h : Hp} {Q : Pst} {ls : List Value} {st : List Value} : T d 169 31 ls st h Q ↔ T d 169 33 ls (.int 12 :: st) h Q := T_bipushV c169_31 (by decide)
theorem c169_33 : cod 169 33 = some (.if_icmp .ge 35, 3) := cod_of b169 dX8_undo_33
theorem t169_33 {d : Nat} {h : Hp} {Q : Pst} {x y : Int32} {ls : List Value} {st : List Value} : T d 169 33 ls (.int y :: .int x :: st) h Q ↔ (if y ≤ x then T d 169 68 ls st h Q else T d 169 36 ls st h Q) := T_icmp_ge c169_33 (by decide)
theorem c169_36 : cod 169 36 = some (.aload_n 0, 1) := cod_of b169 dX8_undo_36
theorem t169_36 {d : Nat} {h : Hp} {Q : Pst} {l1 : Value} {x : Nat} {st : List Value} : T d 169 36 [.ref x, l1] st h Q ↔ T d 169 37 [.ref x, l1] (.ref x :: st) h Q := T_aload_n c169_36 rfl
theorem c169_37 : cod 169 37 = some (.getfield 7, 3) := cod_of b169 dX8_undo_37
theorem t169_37 {d : Nat} {h : Hp} {Q : Pst} {a : Nat} {ls : List Value} {st : List Value} : T d 169 37 ls (.ref a :: st) h Q ↔ gF (h.2.2 a) 7 0 (fun v => T d 169 40 ls (v :: st) h Q) := T_getfieldR m169 c169_37 f8_7
theorem c169_40 : cod 169 40 = some (.iload_n 1, 1) := cod_of b169 dX8_undo_40
theorem t169_40 {d : Nat} {h : Hp} {Q : Pst} {l0 : Value} {x : Int32} {st : List Value} : T d 169 40 [l0, .int x] st h Q ↔ T d 169 41 [l0, .int x] (.int x :: st) h Q := T_iload_n c169_40 rfl
theorem c169_41 : cod 169 41 = some (.aload_n 0, 1) := cod_of b169 dX8_undo_41
theorem t169_41 {d : Nat} {h : Hp} {Q : Pst} {l1 : Value} {x : Nat} {st : List Value} : T d 169 41 [.ref x, l1] st h Q ↔ T d 169 42 [.ref x, l1] (.ref x :: st) h Q := T_aload_n c169_41 rfl
theorem c169_42 : cod 169 42 = some (.getfield 7, 3) := cod_of b169 dX8_undo_42
theorem t169_42 {d : Nat} {h : Hp} {Q : Pst} {a : Nat} {ls : List Value} {st : List Value} : T d 169 42 ls (.ref a :: st) h Q ↔ gF (h.2.2 a) 7 0 (fun v => T d 169 45 ls (v :: st) h Q) := T_getfieldR m169 c169_42 f8_7
theorem c169_45 : cod 169 45 = some (.bipush 112, 2) := cod_of b169 dX8_undo_45
theorem t169_45 {d : Nat} {h : Hp} {Q : Pst} {ls : List Value} {st : List Value} : T d 169 45 ls st h Q ↔ T d 169 47 ls (.int 112 :: st) h Q := T_bipushV c169_45 (by decide)
theorem c169_47 : cod 169 47 = some (.bipush 12, 2) := cod_of b169 dX8_undo_47
theorem t169_47 {d : Nat} {h : Hp} {Q : Pst} {ls : List Value} {st : List Value} : T d 169 47 ls st h Q ↔ T d 169 49 ls (.int 12 :: st) h Q := T_bipushV c169_47 (by decide)
theorem c169_49 : cod 169 49 = some (.aload_n 0, 1) := cod_of b169 dX8_undo_49
theorem t169_49 {d : Nat} {h : Hp} {Q : Pst} {l1 : Value} {x : Nat} {st : List Value} : T d 169 49 [.ref x, l1] st h Q ↔ T d 169 50 [.ref x, l1] (.ref x :: st) h Q := T_aload_n c169_49 rfl
theorem c169_50 : cod 169 50 = some (.getfield 7, 3) := cod_of b169 dX8_undo_50
theorem t169_50 {d : Nat} {h : Hp} {Q : Pst} {a : Nat} {ls : List Value} {st : List Value} : T d 169 50 ls (.ref a :: st) h Q ↔ gF (h.2.2 a) 7 0 (fun v => T d 169 53 ls (v :: st) h Q) := T_getfieldR m169 c169_50 f8_7
theorem c169_53 : cod 169 53 = some (.bipush 111, 2) := cod_of b169 dX8_undo_53
theorem t169_53 {d : Nat} {h : Hp} {Q : Pst} {ls : List Value} {st : List Value} : T d 169 53 ls st h Q ↔ T d 169 55 ls (.int 111 :: st) h Q := T_bipushV c169_53 (by decide)
theorem c169_55 : cod 169 55 = some (.iaload, 1) := cod_of b169 dX8_undo_55
theorem t169_55 {d : Nat} {h : Hp} {Q : Pst} {a : Nat} {i : Int32} {ls : List Value} {st : List Value} : T d 169 55 ls (.int i :: .ref a :: st) h Q ↔ aL (h.2.2 a) i (fun x => T d 169 56 ls (.int x :: st) h Q) := T_iaload c169_55
theorem c169_56 : cod 169 56 = some (.imul, 1) := cod_of b169 dX8_undo_56
theorem t169_56 {d : Nat} {h : Hp} {Q : Pst} {x y : Int32} {ls : List Value} {st : List Value} : T d 169 56 ls (.int y :: .int x :: st) h Q ↔ T d 169 57 ls (.int (x * y) :: st) h Q := T_imul c169_56
theorem c169_57 : cod 169 57 = some (.iadd, 1) := cod_of b169 dX8_undo_57
theorem t169_57 {d : Nat} {h : Hp} {Q : Pst} {x y : Int32} {ls : List Value} {st : List Value} : T d 169 57 ls (.int y :: .int x :: st) h Q ↔ T d 169 58 ls (.int (x + y) :: st) h Q := T_iadd c169_57
theorem c169_58 : cod 169 58 = some (.iload_n 1, 1) := cod_of b169 dX8_undo_58
theorem t169_58 {d : Nat} {h : Hp} {Q : Pst} {l0 : Value} {x : Int32} {st : List Value} : T d 169 58 [l0, .int x] st h Q ↔ T d 169 59 [l0, .int x] (.int x :: st) h Q := T_iload_n c169_58 rfl
theorem c169_59 : cod 169 59 = some (.iadd, 1) := cod_of b169 dX8_undo_59
theorem t169_59 {d : Nat} {h : Hp} {Q : Pst} {x y : Int32} {ls : List Value} {st : List Value} : T d 169 59 ls (.int y :: .int x :: st) h Q ↔ T d 169 60 ls (.int (x + y) :: st) h Q := T_iadd c169_59
theorem c169_60 : cod 169 60 = some (.iaload, 1) := cod_of b169 dX8_undo_60
theorem t169_60 {d : Nat} {h : Hp} {Q : Pst} {a : Nat} {i : Int32} {ls : List Value} {st : List Value} : T d 169 60 ls (.int i :: .ref a :: st) h Q ↔ aL (h.2.2 a) i (fun x => T d 169 61 ls (.int x :: st) h Q) := T_iaload c169_60
theorem c169_61 : cod 169 61 = some (.iastore, 1) := cod_of b169 dX8_undo_61
theorem t169_61 {d : Nat} {h : Hp} {Q : Pst} {a : Nat} {i x : Int32} {ls : List Value} {st : List Value} : T d 169 61 ls (.int x :: .int i :: .ref a :: st) h Q ↔ aS (h.2.2 a) i x (fun cell => T d 169 62 ls st (hup h a cell) Q) := T_iastore c169_61
theorem c169_62 : cod 169 62 = some (.iinc 1 1, 3) := cod_of b169 dX8_undo_62
theorem t169_62 {d : Nat} {h : Hp} {Q : Pst} {l0 : Value} {x : Int32} {st : List Value} : T d 169 62 [l0, .int x] st h Q ↔ T d 169 65 [kil l0, .int (x + 1)] st h Q := T_iincV c169_62 rfl (Nat.le_of_ble_eq_true rfl) (by decide) rfl
theorem c169_65 : cod 169 65 = some (.goto (-35), 3) := cod_of b169 dX8_undo_65
theorem t169_65 {d : Nat} {h : Hp} {Q : Pst} {ls : List Value} {st : List Value} : T d 169 65 ls st h Q ↔ T d 169 30 ls st h Q := T_goto c169_65 (by decide)
theorem c169_68 : cod 169 68 = some (.aload_n 0, 1) := cod_of b169 dX8_undo_68
theorem t169_68 {d : Nat} {h : Hp} {Q : Pst} {l1 : Value} {x : Nat} {st : List Value} : T d 169 68 [.ref x, l1] st h Q ↔ T d 169 69 [.ref x, l1] (.ref x :: st) h Q := T_aload_n c169_68 rfl
theorem c169_69 : cod 169 69 = some (.getfield 7, 3) := cod_of b169 dX8_undo_69
theorem t169_69 {d : Nat} {h : Hp} {Q : Pst} {a : Nat} {ls : List Value} {st : List Value} : T d 169 69 ls (.ref a :: st) h Q ↔ gF (h.2.2 a) 7 0 (fun v => T d 169 72 ls (v :: st) h Q) := T_getfieldR m169 c169_69 f8_7
theorem c169_72 : cod 169 72 = some (.bipush 11, 2) := cod_of b169 dX8_undo_72
theorem t169_72 {d : Nat} {h : Hp} {Q : Pst} {ls : List Value} {st : List Value} : T d 169 72 ls st h Q ↔ T d 169 74 ls (.int 11 :: st) h Q := T_bipushV c169_72 (by decide)
theorem c169_74 : cod 169 74 = some (.iaload, 1) := cod_of b169 dX8_undo_74
theorem t169_74 {d : Nat} {h : Hp} {Q : Pst} {a : Nat} {i : Int32} {ls : List Value} {st : List Value} : T d 169 74 ls (.int i :: .ref a :: st) h Q ↔ aL (h.2.2 a) i (fun x => T d 169 75 ls (.int x :: st) h Q) := T_iaload c169_74
theorem c169_75 : cod 169 75 = some (.ireturn, 1) := cod_of b169 dX8_undo_75
theorem t169_75 {d : Nat} {h : Hp} {Q : Pst} {x : Int32} {ls : List Value} : T d 169 75 ls [.int x] h Q ↔ Q (some (.int x)) h := T_iretR m169 c169_75 rfl
