theorem dX0_init_0 : decode cX0_init 0 = .ok (.aload_n 0, 1) := by decide +kernel
theorem dX0_init_1 : decode cX0_init 1 = .ok (.invokespecial 3, 3) := by decide +kernel
theorem dX0_init_4 : decode cX0_init 4 = .ok (.aload_n 0, 1) := by decide +kernel
theorem dX0_init_5 : decode cX0_init 5 = .ok (.bipush 10, 2) := by decide +kernel
theorem dX0_init_7 : decode cX0_init 7 = .ok (.newarray .int, 2) := by decide +kernel
theorem dX0_init_9 : decode cX0_init 9 = .ok (.putfield 9, 3) := by decide +kernel
theorem dX0_init_12 : decode cX0_init 12 = .ok (.aload_n 0, 1) := by decide +kernel
theorem dX0_init_13 : decode cX0_init 13 = .ok (.bipush 10, 2) := by decide +kernel
theorem dX0_init_15 : decode cX0_init 15 = .ok (.newarray .int, 2) := by decide +kernel
theorem dX0_init_17 : decode cX0_init 17 = .ok (.putfield 15, 3) := by decide +kernel
theorem dX0_init_20 : decode cX0_init 20 = .ok (.return_, 1) := by decide +kernel
theorem dX0_setUp_0 : decode cX0_setUp 0 = .ok (.iconst 1, 1) := by decide +kernel
theorem dX0_setUp_1 : decode cX0_setUp 1 = .ok (.istore 5, 2) := by decide +kernel
theorem dX0_setUp_3 : decode cX0_setUp 3 = .ok (.iload 5, 2) := by decide +kernel
theorem dX0_setUp_5 : decode cX0_setUp 5 = .ok (.bipush 9, 2) := by decide +kernel
theorem dX0_setUp_7 : decode cX0_setUp 7 = .ok (.if_icmp .gt 45, 3) := by decide +kernel
theorem dX0_setUp_10 : decode cX0_setUp 10 = .ok (.aload_n 0, 1) := by decide +kernel
theorem dX0_setUp_11 : decode cX0_setUp 11 = .ok (.getfield 9, 3) := by decide +kernel
theorem dX0_setUp_14 : decode cX0_setUp 14 = .ok (.iload 5, 2) := by decide +kernel
theorem dX0_setUp_16 : decode cX0_setUp 16 = .ok (.aload_n 1, 1) := by decide +kernel
theorem dX0_setUp_17 : decode cX0_setUp 17 = .ok (.iload 4, 2) := by decide +kernel
theorem dX0_setUp_19 : decode cX0_setUp 19 = .ok (.iload_n 2, 1) := by decide +kernel
theorem dX0_setUp_20 : decode cX0_setUp 20 = .ok (.iload 5, 2) := by decide +kernel
theorem dX0_setUp_22 : decode cX0_setUp 22 = .ok (.invokevirtual 18, 3) := by decide +kernel
theorem dX0_setUp_25 : decode cX0_setUp 25 = .ok (.invokestatic 24, 3) := by decide +kernel
theorem dX0_setUp_28 : decode cX0_setUp 28 = .ok (.aload_n 0, 1) := by decide +kernel
theorem dX0_setUp_29 : decode cX0_setUp 29 = .ok (.getfield 15, 3) := by decide +kernel
theorem dX0_setUp_32 : decode cX0_setUp 32 = .ok (.iload 5, 2) := by decide +kernel
theorem dX0_setUp_34 : decode cX0_setUp 34 = .ok (.aload_n 1, 1) := by decide +kernel
theorem dX0_setUp_35 : decode cX0_setUp 35 = .ok (.iload 4, 2) := by decide +kernel
theorem dX0_setUp_37 : decode cX0_setUp 37 = .ok (.iload_n 3, 1) := by decide +kernel
theorem dX0_setUp_38 : decode cX0_setUp 38 = .ok (.iload 5, 2) := by decide +kernel
theorem dX0_setUp_40 : decode cX0_setUp 40 = .ok (.invokevirtual 18, 3) := by decide +kernel
theorem dX0_setUp_43 : decode cX0_setUp 43 = .ok (.invokestatic 24, 3) := by decide +kernel
theorem dX0_setUp_46 : decode cX0_setUp 46 = .ok (.iinc 5 1, 3) := by decide +kernel
theorem dX0_setUp_49 : decode cX0_setUp 49 = .ok (.goto (-46), 3) := by decide +kernel
theorem dX0_setUp_52 : decode cX0_setUp 52 = .ok (.return_, 1) := by decide +kernel
theorem dX0_restingPair_0 : decode cX0_restingPair 0 = .ok (.iconst 0, 1) := by decide +kernel
theorem dX0_restingPair_1 : decode cX0_restingPair 1 = .ok (.istore_n 2, 1) := by decide +kernel
theorem dX0_restingPair_2 : decode cX0_restingPair 2 = .ok (.iconst 1, 1) := by decide +kernel
theorem dX0_restingPair_3 : decode cX0_restingPair 3 = .ok (.istore_n 3, 1) := by decide +kernel
theorem dX0_restingPair_4 : decode cX0_restingPair 4 = .ok (.iload_n 3, 1) := by decide +kernel
theorem dX0_restingPair_5 : decode cX0_restingPair 5 = .ok (.bipush 9, 2) := by decide +kernel
theorem dX0_restingPair_7 : decode cX0_restingPair 7 = .ok (.if_icmp .gt 51, 3) := by decide +kernel
theorem dX0_restingPair_10 : decode cX0_restingPair 10 = .ok (.iconst 1, 1) := by decide +kernel
theorem dX0_restingPair_11 : decode cX0_restingPair 11 = .ok (.istore 4, 2) := by decide +kernel
theorem dX0_restingPair_13 : decode cX0_restingPair 13 = .ok (.iload 4, 2) := by decide +kernel
theorem dX0_restingPair_15 : decode cX0_restingPair 15 = .ok (.bipush 9, 2) := by decide +kernel
theorem dX0_restingPair_17 : decode cX0_restingPair 17 = .ok (.if_icmp .gt 35, 3) := by decide +kernel
theorem dX0_restingPair_20 : decode cX0_restingPair 20 = .ok (.aload_n 0, 1) := by decide +kernel
theorem dX0_restingPair_21 : decode cX0_restingPair 21 = .ok (.iload_n 3, 1) := by decide +kernel
theorem dX0_restingPair_22 : decode cX0_restingPair 22 = .ok (.iload 4, 2) := by decide +kernel
theorem dX0_restingPair_24 : decode cX0_restingPair 24 = .ok (.invokevirtual 28, 3) := by decide +kernel
theorem dX0_restingPair_27 : decode cX0_restingPair 27 = .ok (.ifCond .eq 19, 3) := by decide +kernel
theorem dX0_restingPair_30 : decode cX0_restingPair 30 = .ok (.iload_n 2, 1) := by decide +kernel
theorem dX0_restingPair_31 : decode cX0_restingPair 31 = .ok (.iload_n 1, 1) := by decide +kernel
theorem dX0_restingPair_32 : decode cX0_restingPair 32 = .ok (.if_icmp .ne 11, 3) := by decide +kernel
theorem dX0_restingPair_35 : decode cX0_restingPair 35 = .ok (.bipush 10, 2) := by decide +kernel
theorem dX0_restingPair_37 : decode cX0_restingPair 37 = .ok (.iload_n 3, 1) := by decide +kernel
theorem dX0_restingPair_38 : decode cX0_restingPair 38 = .ok (.imul, 1) := by decide +kernel
theorem dX0_restingPair_39 : decode cX0_restingPair 39 = .ok (.iload 4, 2) := by decide +kernel
theorem dX0_restingPair_41 : decode cX0_restingPair 41 = .ok (.iadd, 1) := by decide +kernel
theorem dX0_restingPair_42 : decode cX0_restingPair 42 = .ok (.ireturn, 1) := by decide +kernel
theorem dX0_restingPair_43 : decode cX0_restingPair 43 = .ok (.iinc 2 1, 3) := by decide +kernel
theorem dX0_restingPair_46 : decode cX0_restingPair 46 = .ok (.iinc 4 1, 3) := by decide +kernel
theorem dX0_restingPair_49 : decode cX0_restingPair 49 = .ok (.goto (-36), 3) := by decide +kernel
theorem dX0_restingPair_52 : decode cX0_restingPair 52 = .ok (.iinc 3 1, 3) := by decide +kernel
theorem dX0_restingPair_55 : decode cX0_restingPair 55 = .ok (.goto (-51), 3) := by decide +kernel
theorem dX0_restingPair_58 : decode cX0_restingPair 58 = .ok (.iload_n 1, 1) := by decide +kernel
theorem dX0_restingPair_59 : decode cX0_restingPair 59 = .ok (.iconst (-1), 1) := by decide +kernel
theorem dX0_restingPair_60 : decode cX0_restingPair 60 = .ok (.if_icmp .ne 7, 3) := by decide +kernel
theorem dX0_restingPair_63 : decode cX0_restingPair 63 = .ok (.iload_n 2, 1) := by decide +kernel
theorem dX0_restingPair_64 : decode cX0_restingPair 64 = .ok (.goto 5, 3) := by decide +kernel
theorem dX0_restingPair_67 : decode cX0_restingPair 67 = .ok (.bipush (-5), 2) := by decide +kernel
theorem dX0_restingPair_69 : decode cX0_restingPair 69 = .ok (.ireturn, 1) := by decide +kernel
theorem dX0_rests_0 : decode cX0_rests 0 = .ok (.aload_n 0, 1) := by decide +kernel
theorem dX0_rests_1 : decode cX0_rests 1 = .ok (.getfield 9, 3) := by decide +kernel
theorem dX0_rests_4 : decode cX0_rests 4 = .ok (.iload_n 1, 1) := by decide +kernel
theorem dX0_rests_5 : decode cX0_rests 5 = .ok (.invokestatic 32, 3) := by decide +kernel
theorem dX0_rests_8 : decode cX0_rests 8 = .ok (.istore_n 3, 1) := by decide +kernel
theorem dX0_rests_9 : decode cX0_rests 9 = .ok (.aload_n 0, 1) := by decide +kernel
theorem dX0_rests_10 : decode cX0_rests 10 = .ok (.getfield 15, 3) := by decide +kernel
theorem dX0_rests_13 : decode cX0_rests 13 = .ok (.iload_n 2, 1) := by decide +kernel
theorem dX0_rests_14 : decode cX0_rests 14 = .ok (.invokestatic 32, 3) := by decide +kernel
theorem dX0_rests_17 : decode cX0_rests 17 = .ok (.istore 4, 2) := by decide +kernel
theorem dX0_rests_19 : decode cX0_rests 19 = .ok (.iconst 1, 1) := by decide +kernel
theorem dX0_rests_20 : decode cX0_rests 20 = .ok (.istore 5, 2) := by decide +kernel
theorem dX0_rests_22 : decode cX0_rests 22 = .ok (.iload 5, 2) := by decide +kernel
theorem dX0_rests_24 : decode cX0_rests 24 = .ok (.bipush 9, 2) := by decide +kernel
theorem dX0_rests_26 : decode cX0_rests 26 = .ok (.if_icmp .gt 68, 3) := by decide +kernel
theorem dX0_rests_29 : decode cX0_rests 29 = .ok (.aload_n 0, 1) := by decide +kernel
theorem dX0_rests_30 : decode cX0_rests 30 = .ok (.getfield 9, 3) := by decide +kernel
theorem dX0_rests_33 : decode cX0_rests 33 = .ok (.iload 5, 2) := by decide +kernel
theorem dX0_rests_35 : decode cX0_rests 35 = .ok (.invokestatic 32, 3) := by decide +kernel
theorem dX0_rests_38 : decode cX0_rests 38 = .ok (.iload 4, 2) := by decide +kernel
theorem dX0_rests_40 : decode cX0_rests 40 = .ok (.invokestatic 36, 3) := by decide +kernel
theorem dX0_rests_43 : decode cX0_rests 43 = .ok (.iload_n 3, 1) := by decide +kernel
theorem dX0_rests_44 : decode cX0_rests 44 = .ok (.iload 4, 2) := by decide +kernel
theorem dX0_rests_46 : decode cX0_rests 46 = .ok (.invokestatic 36, 3) := by decide +kernel
theorem dX0_rests_49 : decode cX0_rests 49 = .ok (.if_icmp .le 7, 3) := by decide +kernel
theorem dX0_rests_52 : decode cX0_rests 52 = .ok (.iconst 1, 1) := by decide +kernel
theorem dX0_rests_53 : decode cX0_rests 53 = .ok (.goto 4, 3) := by decide +kernel
theorem dX0_rests_56 : decode cX0_rests 56 = .ok (.iconst 0, 1) := by decide +kernel
theorem dX0_rests_57 : decode cX0_rests 57 = .ok (.istore 6, 2) := by decide +kernel
theorem dX0_rests_59 : decode cX0_rests 59 = .ok (.iload 6, 2) := by decide +kernel
theorem dX0_rests_61 : decode cX0_rests 61 = .ok (.ifCond .ne 25, 3) := by decide +kernel
theorem dX0_rests_64 : decode cX0_rests 64 = .ok (.aload_n 0, 1) := by decide +kernel
theorem dX0_rests_65 : decode cX0_rests 65 = .ok (.getfield 15, 3) := by decide +kernel
theorem dX0_rests_68 : decode cX0_rests 68 = .ok (.iload 5, 2) := by decide +kernel
theorem dX0_rests_70 : decode cX0_rests 70 = .ok (.invokestatic 32, 3) := by decide +kernel
theorem dX0_rests_73 : decode cX0_rests 73 = .ok (.iload_n 3, 1) := by decide +kernel
theorem dX0_rests_74 : decode cX0_rests 74 = .ok (.invokestatic 36, 3) := by decide +kernel
theorem dX0_rests_77 : decode cX0_rests 77 = .ok (.iload 4, 2) := by decide +kernel
theorem dX0_rests_79 : decode cX0_rests 79 = .ok (.iload_n 3, 1) := by decide +kernel
theorem dX0_rests_80 : decode cX0_rests 80 = .ok (.invokestatic 36, 3) := by decide +kernel
theorem dX0_rests_83 : decode cX0_rests 83 = .ok (.if_icmp .le 5, 3) := by decide +kernel
theorem dX0_rests_86 : decode cX0_rests 86 = .ok (.iconst 0, 1) := by decide +kernel
theorem dX0_rests_87 : decode cX0_rests 87 = .ok (.ireturn, 1) := by decide +kernel
theorem dX0_rests_88 : decode cX0_rests 88 = .ok (.iinc 5 1, 3) := by decide +kernel
theorem dX0_rests_91 : decode cX0_rests 91 = .ok (.goto (-69), 3) := by decide +kernel
theorem dX0_rests_94 : decode cX0_rests 94 = .ok (.iconst 1, 1) := by decide +kernel
theorem dX0_rests_95 : decode cX0_rests 95 = .ok (.ireturn, 1) := by decide +kernel
theorem dX0_gets_0 : decode cX0_gets 0 = .ok (.iload_n 1, 1) := by decide +kernel
theorem dX0_gets_1 : decode cX0_gets 1 = .ok (.iload_n 0, 1) := by decide +kernel
theorem dX0_gets_2 : decode cX0_gets 2 = .ok (.if_icmp .lt 9, 3) := by decide +kernel
theorem dX0_gets_5 : decode cX0_gets 5 = .ok (.iload_n 0, 1) := by decide +kernel
theorem dX0_gets_6 : decode cX0_gets 6 = .ok (.iconst 2, 1) := by decide +kernel
theorem dX0_gets_7 : decode cX0_gets 7 = .ok (.isub, 1) := by decide +kernel
theorem dX0_gets_8 : decode cX0_gets 8 = .ok (.goto 4, 3) := by decide +kernel
theorem dX0_gets_11 : decode cX0_gets 11 = .ok (.iload_n 0, 1) := by decide +kernel
theorem dX0_gets_12 : decode cX0_gets 12 = .ok (.ireturn, 1) := by decide +kernel
theorem dX1_init_0 : decode cX1_init 0 = .ok (.aload_n 0, 1) := by decide +kernel
theorem dX1_init_1 : decode cX1_init 1 = .ok (.invokespecial 3, 3) := by decide +kernel
theorem dX1_init_4 : decode cX1_init 4 = .ok (.aload_n 0, 1) := by decide +kernel
theorem dX1_init_5 : decode cX1_init 5 = .ok (.bipush 6, 2) := by decide +kernel
theorem dX1_init_7 : decode cX1_init 7 = .ok (.newarray .int, 2) := by decide +kernel
theorem dX1_init_9 : decode cX1_init 9 = .ok (.putfield 9, 3) := by decide +kernel
theorem dX1_init_12 : decode cX1_init 12 = .ok (.return_, 1) := by decide +kernel
theorem dX1_sizeBits_0 : decode cX1_sizeBits 0 = .ok (.iconst 0, 1) := by decide +kernel
theorem dX1_sizeBits_1 : decode cX1_sizeBits 1 = .ok (.istore_n 3, 1) := by decide +kernel
theorem dX1_sizeBits_2 : decode cX1_sizeBits 2 = .ok (.iconst 1, 1) := by decide +kernel
theorem dX1_sizeBits_3 : decode cX1_sizeBits 3 = .ok (.istore 4, 2) := by decide +kernel
theorem dX1_sizeBits_5 : decode cX1_sizeBits 5 = .ok (.iload 4, 2) := by decide +kernel
theorem dX1_sizeBits_7 : decode cX1_sizeBits 7 = .ok (.bipush 30, 2) := by decide +kernel
theorem dX1_sizeBits_9 : decode cX1_sizeBits 9 = .ok (.if_icmp .gt 27, 3) := by decide +kernel
theorem dX1_sizeBits_12 : decode cX1_sizeBits 12 = .ok (.aload_n 0, 1) := by decide +kernel
theorem dX1_sizeBits_13 : decode cX1_sizeBits 13 = .ok (.aload_n 1, 1) := by decide +kernel
theorem dX1_sizeBits_14 : decode cX1_sizeBits 14 = .ok (.iload_n 2, 1) := by decide +kernel
theorem dX1_sizeBits_15 : decode cX1_sizeBits 15 = .ok (.iload 4, 2) := by decide +kernel
theorem dX1_sizeBits_17 : decode cX1_sizeBits 17 = .ok (.invokevirtual 15, 3) := by decide +kernel
theorem dX1_sizeBits_20 : decode cX1_sizeBits 20 = .ok (.ifCond .eq 10, 3) := by decide +kernel
theorem dX1_sizeBits_23 : decode cX1_sizeBits 23 = .ok (.iload_n 3, 1) := by decide +kernel
theorem dX1_sizeBits_24 : decode cX1_sizeBits 24 = .ok (.iconst 1, 1) := by decide +kernel
theorem dX1_sizeBits_25 : decode cX1_sizeBits 25 = .ok (.iload 4, 2) := by decide +kernel
theorem dX1_sizeBits_27 : decode cX1_sizeBits 27 = .ok (.ishl, 1) := by decide +kernel
theorem dX1_sizeBits_28 : decode cX1_sizeBits 28 = .ok (.ior, 1) := by decide +kernel
theorem dX1_sizeBits_29 : decode cX1_sizeBits 29 = .ok (.istore_n 3, 1) := by decide +kernel
theorem dX1_sizeBits_30 : decode cX1_sizeBits 30 = .ok (.iinc 4 1, 3) := by decide +kernel
theorem dX1_sizeBits_33 : decode cX1_sizeBits 33 = .ok (.goto (-28), 3) := by decide +kernel
theorem dX1_sizeBits_36 : decode cX1_sizeBits 36 = .ok (.iload_n 3, 1) := by decide +kernel
theorem dX1_sizeBits_37 : decode cX1_sizeBits 37 = .ok (.ireturn, 1) := by decide +kernel
theorem dX1_sizeFits_0 : decode cX1_sizeFits 0 = .ok (.aload_n 1, 1) := by decide +kernel
theorem dX1_sizeFits_1 : decode cX1_sizeFits 1 = .ok (.getfield 19, 3) := by decide +kernel
theorem dX1_sizeFits_4 : decode cX1_sizeFits 4 = .ok (.astore 4, 2) := by decide +kernel
theorem dX1_sizeFits_6 : decode cX1_sizeFits 6 = .ok (.iconst 0, 1) := by decide +kernel
theorem dX1_sizeFits_7 : decode cX1_sizeFits 7 = .ok (.istore 5, 2) := by decide +kernel
theorem dX1_sizeFits_9 : decode cX1_sizeFits 9 = .ok (.iload 5, 2) := by decide +kernel
theorem dX1_sizeFits_11 : decode cX1_sizeFits 11 = .ok (.aload 4, 2) := by decide +kernel
theorem dX1_sizeFits_13 : decode cX1_sizeFits 13 = .ok (.getfield 25, 3) := by decide +kernel
theorem dX1_sizeFits_16 : decode cX1_sizeFits 16 = .ok (.if_icmp .ge 68, 3) := by decide +kernel
theorem dX1_sizeFits_19 : decode cX1_sizeFits 19 = .ok (.aload 4, 2) := by decide +kernel
theorem dX1_sizeFits_21 : decode cX1_sizeFits 21 = .ok (.iload 5, 2) := by decide +kernel
theorem dX1_sizeFits_23 : decode cX1_sizeFits 23 = .ok (.iconst 0, 1) := by decide +kernel
theorem dX1_sizeFits_24 : decode cX1_sizeFits 24 = .ok (.invokevirtual 31, 3) := by decide +kernel
theorem dX1_sizeFits_27 : decode cX1_sizeFits 27 = .ok (.iload_n 2, 1) := by decide +kernel
theorem dX1_sizeFits_28 : decode cX1_sizeFits 28 = .ok (.if_icmp .ne 7, 3) := by decide +kernel
theorem dX1_sizeFits_31 : decode cX1_sizeFits 31 = .ok (.iconst 1, 1) := by decide +kernel
theorem dX1_sizeFits_32 : decode cX1_sizeFits 32 = .ok (.goto 4, 3) := by decide +kernel
theorem dX1_sizeFits_35 : decode cX1_sizeFits 35 = .ok (.iconst 0, 1) := by decide +kernel
theorem dX1_sizeFits_36 : decode cX1_sizeFits 36 = .ok (.istore 6, 2) := by decide +kernel
theorem dX1_sizeFits_38 : decode cX1_sizeFits 38 = .ok (.iload 6, 2) := by decide +kernel
theorem dX1_sizeFits_40 : decode cX1_sizeFits 40 = .ok (.ifCond .eq 38, 3) := by decide +kernel
theorem dX1_sizeFits_43 : decode cX1_sizeFits 43 = .ok (.aload_n 1, 1) := by decide +kernel
theorem dX1_sizeFits_44 : decode cX1_sizeFits 44 = .ok (.iload_n 2, 1) := by decide +kernel
theorem dX1_sizeFits_45 : decode cX1_sizeFits 45 = .ok (.iload_n 3, 1) := by decide +kernel
theorem dX1_sizeFits_46 : decode cX1_sizeFits 46 = .ok (.aload 4, 2) := by decide +kernel
theorem dX1_sizeFits_48 : decode cX1_sizeFits 48 = .ok (.iload 5, 2) := by decide +kernel
theorem dX1_sizeFits_50 : decode cX1_sizeFits 50 = .ok (.iconst 1, 1) := by decide +kernel
theorem dX1_sizeFits_51 : decode cX1_sizeFits 51 = .ok (.invokevirtual 31, 3) := by decide +kernel
theorem dX1_sizeFits_54 : decode cX1_sizeFits 54 = .ok (.aload 4, 2) := by decide +kernel
theorem dX1_sizeFits_56 : decode cX1_sizeFits 56 = .ok (.iload 5, 2) := by decide +kernel
theorem dX1_sizeFits_58 : decode cX1_sizeFits 58 = .ok (.iconst 2, 1) := by decide +kernel
theorem dX1_sizeFits_59 : decode cX1_sizeFits 59 = .ok (.invokevirtual 31, 3) := by decide +kernel
theorem dX1_sizeFits_62 : decode cX1_sizeFits 62 = .ok (.invokevirtual 35, 3) := by decide +kernel
theorem dX1_sizeFits_65 : decode cX1_sizeFits 65 = .ok (.aload 4, 2) := by decide +kernel
theorem dX1_sizeFits_67 : decode cX1_sizeFits 67 = .ok (.iload 5, 2) := by decide +kernel
theorem dX1_sizeFits_69 : decode cX1_sizeFits 69 = .ok (.iconst 3, 1) := by decide +kernel
theorem dX1_sizeFits_70 : decode cX1_sizeFits 70 = .ok (.invokevirtual 31, 3) := by decide +kernel
theorem dX1_sizeFits_73 : decode cX1_sizeFits 73 = .ok (.if_icmp .eq 5, 3) := by decide +kernel
theorem dX1_sizeFits_76 : decode cX1_sizeFits 76 = .ok (.iconst 0, 1) := by decide +kernel
theorem dX1_sizeFits_77 : decode cX1_sizeFits 77 = .ok (.ireturn, 1) := by decide +kernel
theorem dX1_sizeFits_78 : decode cX1_sizeFits 78 = .ok (.iinc 5 1, 3) := by decide +kernel
theorem dX1_sizeFits_81 : decode cX1_sizeFits 81 = .ok (.goto (-72), 3) := by decide +kernel
theorem dX1_sizeFits_84 : decode cX1_sizeFits 84 = .ok (.iconst 1, 1) := by decide +kernel
theorem dX1_sizeFits_85 : decode cX1_sizeFits 85 = .ok (.ireturn, 1) := by decide +kernel
theorem dX1_bestHouse_0 : decode cX1_bestHouse 0 = .ok (.aload_n 0, 1) := by decide +kernel
theorem dX1_bestHouse_1 : decode cX1_bestHouse 1 = .ok (.aload_n 1, 1) := by decide +kernel
theorem dX1_bestHouse_2 : decode cX1_bestHouse 2 = .ok (.iload_n 2, 1) := by decide +kernel
theorem dX1_bestHouse_3 : decode cX1_bestHouse 3 = .ok (.invokevirtual 39, 3) := by decide +kernel
theorem dX1_bestHouse_6 : decode cX1_bestHouse 6 = .ok (.istore_n 3, 1) := by decide +kernel
theorem dX1_bestHouse_7 : decode cX1_bestHouse 7 = .ok (.iconst (-1), 1) := by decide +kernel
theorem dX1_bestHouse_8 : decode cX1_bestHouse 8 = .ok (.istore 4, 2) := by decide +kernel
theorem dX1_bestHouse_10 : decode cX1_bestHouse 10 = .ok (.bipush 31, 2) := by decide +kernel
theorem dX1_bestHouse_12 : decode cX1_bestHouse 12 = .ok (.istore 5, 2) := by decide +kernel
theorem dX1_bestHouse_14 : decode cX1_bestHouse 14 = .ok (.iconst 0, 1) := by decide +kernel
theorem dX1_bestHouse_15 : decode cX1_bestHouse 15 = .ok (.istore 6, 2) := by decide +kernel
theorem dX1_bestHouse_17 : decode cX1_bestHouse 17 = .ok (.iload_n 3, 1) := by decide +kernel
theorem dX1_bestHouse_18 : decode cX1_bestHouse 18 = .ok (.ifCond .eq 44, 3) := by decide +kernel
theorem dX1_bestHouse_21 : decode cX1_bestHouse 21 = .ok (.iload 6, 2) := by decide +kernel
theorem dX1_bestHouse_23 : decode cX1_bestHouse 23 = .ok (.aload_n 1, 1) := by decide +kernel
theorem dX1_bestHouse_24 : decode cX1_bestHouse 24 = .ok (.getfield 43, 3) := by decide +kernel
theorem dX1_bestHouse_27 : decode cX1_bestHouse 27 = .ok (.if_icmp .ge 35, 3) := by decide +kernel
theorem dX1_bestHouse_30 : decode cX1_bestHouse 30 = .ok (.aload_n 0, 1) := by decide +kernel
theorem dX1_bestHouse_31 : decode cX1_bestHouse 31 = .ok (.aload_n 1, 1) := by decide +kernel
theorem dX1_bestHouse_32 : decode cX1_bestHouse 32 = .ok (.iload_n 2, 1) := by decide +kernel
theorem dX1_bestHouse_33 : decode cX1_bestHouse 33 = .ok (.iload_n 3, 1) := by decide +kernel
theorem dX1_bestHouse_34 : decode cX1_bestHouse 34 = .ok (.iload 6, 2) := by decide +kernel
theorem dX1_bestHouse_36 : decode cX1_bestHouse 36 = .ok (.invokevirtual 46, 3) := by decide +kernel
theorem dX1_bestHouse_39 : decode cX1_bestHouse 39 = .ok (.istore 7, 2) := by decide +kernel
theorem dX1_bestHouse_41 : decode cX1_bestHouse 41 = .ok (.iload 7, 2) := by decide +kernel
theorem dX1_bestHouse_43 : decode cX1_bestHouse 43 = .ok (.iload 5, 2) := by decide +kernel
theorem dX1_bestHouse_45 : decode cX1_bestHouse 45 = .ok (.if_icmp .ge 11, 3) := by decide +kernel
theorem dX1_bestHouse_48 : decode cX1_bestHouse 48 = .ok (.iload 7, 2) := by decide +kernel
theorem dX1_bestHouse_50 : decode cX1_bestHouse 50 = .ok (.istore 5, 2) := by decide +kernel
theorem dX1_bestHouse_52 : decode cX1_bestHouse 52 = .ok (.iload 6, 2) := by decide +kernel
theorem dX1_bestHouse_54 : decode cX1_bestHouse 54 = .ok (.istore 4, 2) := by decide +kernel
theorem dX1_bestHouse_56 : decode cX1_bestHouse 56 = .ok (.iinc 6 1, 3) := by decide +kernel
theorem dX1_bestHouse_59 : decode cX1_bestHouse 59 = .ok (.goto (-42), 3) := by decide +kernel
theorem dX1_bestHouse_62 : decode cX1_bestHouse 62 = .ok (.iload 4, 2) := by decide +kernel
theorem dX1_bestHouse_64 : decode cX1_bestHouse 64 = .ok (.ireturn, 1) := by decide +kernel
theorem dX1_largestGroup_0 : decode cX1_largestGroup 0 = .ok (.iconst 0, 1) := by decide +kernel
theorem dX1_largestGroup_1 : decode cX1_largestGroup 1 = .ok (.istore 5, 2) := by decide +kernel
theorem dX1_largestGroup_3 : decode cX1_largestGroup 3 = .ok (.iload 5, 2) := by decide +kernel
theorem dX1_largestGroup_5 : decode cX1_largestGroup 5 = .ok (.iconst 5, 1) := by decide +kernel
theorem dX1_largestGroup_6 : decode cX1_largestGroup 6 = .ok (.if_icmp .gt 19, 3) := by decide +kernel
theorem dX1_largestGroup_9 : decode cX1_largestGroup 9 = .ok (.aload_n 0, 1) := by decide +kernel
theorem dX1_largestGroup_10 : decode cX1_largestGroup 10 = .ok (.getfield 9, 3) := by decide +kernel
theorem dX1_largestGroup_13 : decode cX1_largestGroup 13 = .ok (.iload 5, 2) := by decide +kernel
theorem dX1_largestGroup_15 : decode cX1_largestGroup 15 = .ok (.iconst 0, 1) := by decide +kernel
theorem dX1_largestGroup_16 : decode cX1_largestGroup 16 = .ok (.invokestatic 50, 3) := by decide +kernel
theorem dX1_largestGroup_19 : decode cX1_largestGroup 19 = .ok (.iinc 5 1, 3) := by decide +kernel
theorem dX1_largestGroup_22 : decode cX1_largestGroup 22 = .ok (.goto (-19), 3) := by decide +kernel
theorem dX1_largestGroup_25 : decode cX1_largestGroup 25 = .ok (.iconst 0, 1) := by decide +kernel
theorem dX1_largestGroup_26 : decode cX1_largestGroup 26 = .ok (.istore 5, 2) := by decide +kernel
theorem dX1_largestGroup_28 : decode cX1_largestGroup 28 = .ok (.iconst 1, 1) := by decide +kernel
theorem dX1_largestGroup_29 : decode cX1_largestGroup 29 = .ok (.istore 6, 2) := by decide +kernel
theorem dX1_largestGroup_31 : decode cX1_largestGroup 31 = .ok (.iload 6, 2) := by decide +kernel
theorem dX1_largestGroup_33 : decode cX1_largestGroup 33 = .ok (.bipush 30, 2) := by decide +kernel
theorem dX1_largestGroup_35 : decode cX1_largestGroup 35 = .ok (.if_icmp .gt 69, 3) := by decide +kernel
theorem dX1_largestGroup_38 : decode cX1_largestGroup 38 = .ok (.iload_n 3, 1) := by decide +kernel
theorem dX1_largestGroup_39 : decode cX1_largestGroup 39 = .ok (.iload 6, 2) := by decide +kernel
theorem dX1_largestGroup_41 : decode cX1_largestGroup 41 = .ok (.invokestatic 54, 3) := by decide +kernel
theorem dX1_largestGroup_44 : decode cX1_largestGroup 44 = .ok (.ifCond .eq 54, 3) := by decide +kernel
theorem dX1_largestGroup_47 : decode cX1_largestGroup 47 = .ok (.aload_n 1, 1) := by decide +kernel
theorem dX1_largestGroup_48 : decode cX1_largestGroup 48 = .ok (.iload_n 2, 1) := by decide +kernel
theorem dX1_largestGroup_49 : decode cX1_largestGroup 49 = .ok (.iload 6, 2) := by decide +kernel
theorem dX1_largestGroup_51 : decode cX1_largestGroup 51 = .ok (.iload 4, 2) := by decide +kernel
theorem dX1_largestGroup_53 : decode cX1_largestGroup 53 = .ok (.aload_n 1, 1) := by decide +kernel
theorem dX1_largestGroup_54 : decode cX1_largestGroup 54 = .ok (.getfield 58, 3) := by decide +kernel
theorem dX1_largestGroup_57 : decode cX1_largestGroup 57 = .ok (.invokevirtual 35, 3) := by decide +kernel
theorem dX1_largestGroup_60 : decode cX1_largestGroup 60 = .ok (.istore 7, 2) := by decide +kernel
theorem dX1_largestGroup_62 : decode cX1_largestGroup 62 = .ok (.aload_n 0, 1) := by decide +kernel
theorem dX1_largestGroup_63 : decode cX1_largestGroup 63 = .ok (.getfield 9, 3) := by decide +kernel
theorem dX1_largestGroup_66 : decode cX1_largestGroup 66 = .ok (.iload 7, 2) := by decide +kernel
theorem dX1_largestGroup_68 : decode cX1_largestGroup 68 = .ok (.aload_n 0, 1) := by decide +kernel
theorem dX1_largestGroup_69 : decode cX1_largestGroup 69 = .ok (.getfield 9, 3) := by decide +kernel
theorem dX1_largestGroup_72 : decode cX1_largestGroup 72 = .ok (.iload 7, 2) := by decide +kernel
theorem dX1_largestGroup_74 : decode cX1_largestGroup 74 = .ok (.invokestatic 61, 3) := by decide +kernel
theorem dX1_largestGroup_77 : decode cX1_largestGroup 77 = .ok (.iconst 1, 1) := by decide +kernel
theorem dX1_largestGroup_78 : decode cX1_largestGroup 78 = .ok (.iadd, 1) := by decide +kernel
theorem dX1_largestGroup_79 : decode cX1_largestGroup 79 = .ok (.invokestatic 50, 3) := by decide +kernel
theorem dX1_largestGroup_82 : decode cX1_largestGroup 82 = .ok (.iload 5, 2) := by decide +kernel
theorem dX1_largestGroup_84 : decode cX1_largestGroup 84 = .ok (.aload_n 0, 1) := by decide +kernel
theorem dX1_largestGroup_85 : decode cX1_largestGroup 85 = .ok (.getfield 9, 3) := by decide +kernel
theorem dX1_largestGroup_88 : decode cX1_largestGroup 88 = .ok (.iload 7, 2) := by decide +kernel
theorem dX1_largestGroup_90 : decode cX1_largestGroup 90 = .ok (.invokestatic 61, 3) := by decide +kernel
theorem dX1_largestGroup_93 : decode cX1_largestGroup 93 = .ok (.invokestatic 65, 3) := by decide +kernel
theorem dX1_largestGroup_96 : decode cX1_largestGroup 96 = .ok (.istore 5, 2) := by decide +kernel
theorem dX1_largestGroup_98 : decode cX1_largestGroup 98 = .ok (.iinc 6 1, 3) := by decide +kernel
theorem dX1_largestGroup_101 : decode cX1_largestGroup 101 = .ok (.goto (-70), 3) := by decide +kernel
theorem dX1_largestGroup_104 : decode cX1_largestGroup 104 = .ok (.iload 5, 2) := by decide +kernel
theorem dX1_largestGroup_106 : decode cX1_largestGroup 106 = .ok (.ireturn, 1) := by decide +kernel
theorem dX1_guestKindBits_0 : decode cX1_guestKindBits 0 = .ok (.iconst 0, 1) := by decide +kernel
theorem dX1_guestKindBits_1 : decode cX1_guestKindBits 1 = .ok (.istore_n 3, 1) := by decide +kernel
theorem dX1_guestKindBits_2 : decode cX1_guestKindBits 2 = .ok (.iconst 0, 1) := by decide +kernel
theorem dX1_guestKindBits_3 : decode cX1_guestKindBits 3 = .ok (.istore 4, 2) := by decide +kernel
theorem dX1_guestKindBits_5 : decode cX1_guestKindBits 5 = .ok (.iload 4, 2) := by decide +kernel
theorem dX1_guestKindBits_7 : decode cX1_guestKindBits 7 = .ok (.bipush 6, 2) := by decide +kernel
theorem dX1_guestKindBits_9 : decode cX1_guestKindBits 9 = .ok (.if_icmp .ge 27, 3) := by decide +kernel
theorem dX1_guestKindBits_12 : decode cX1_guestKindBits 12 = .ok (.aload_n 0, 1) := by decide +kernel
theorem dX1_guestKindBits_13 : decode cX1_guestKindBits 13 = .ok (.aload_n 1, 1) := by decide +kernel
theorem dX1_guestKindBits_14 : decode cX1_guestKindBits 14 = .ok (.iload_n 2, 1) := by decide +kernel
theorem dX1_guestKindBits_15 : decode cX1_guestKindBits 15 = .ok (.iload 4, 2) := by decide +kernel
theorem dX1_guestKindBits_17 : decode cX1_guestKindBits 17 = .ok (.invokevirtual 70, 3) := by decide +kernel
theorem dX1_guestKindBits_20 : decode cX1_guestKindBits 20 = .ok (.ifCond .eq 10, 3) := by decide +kernel
theorem dX1_guestKindBits_23 : decode cX1_guestKindBits 23 = .ok (.iload_n 3, 1) := by decide +kernel
theorem dX1_guestKindBits_24 : decode cX1_guestKindBits 24 = .ok (.iconst 1, 1) := by decide +kernel
theorem dX1_guestKindBits_25 : decode cX1_guestKindBits 25 = .ok (.iload 4, 2) := by decide +kernel
theorem dX1_guestKindBits_27 : decode cX1_guestKindBits 27 = .ok (.ishl, 1) := by decide +kernel
theorem dX1_guestKindBits_28 : decode cX1_guestKindBits 28 = .ok (.ior, 1) := by decide +kernel
theorem dX1_guestKindBits_29 : decode cX1_guestKindBits 29 = .ok (.istore_n 3, 1) := by decide +kernel
theorem dX1_guestKindBits_30 : decode cX1_guestKindBits 30 = .ok (.iinc 4 1, 3) := by decide +kernel
theorem dX1_guestKindBits_33 : decode cX1_guestKindBits 33 = .ok (.goto (-28), 3) := by decide +kernel
theorem dX1_guestKindBits_36 : decode cX1_guestKindBits 36 = .ok (.iload_n 3, 1) := by decide +kernel
theorem dX1_guestKindBits_37 : decode cX1_guestKindBits 37 = .ok (.ireturn, 1) := by decide +kernel
theorem dX1_guestKindFits_0 : decode cX1_guestKindFits 0 = .ok (.aload_n 1, 1) := by decide +kernel
theorem dX1_guestKindFits_1 : decode cX1_guestKindFits 1 = .ok (.getfield 73, 3) := by decide +kernel
theorem dX1_guestKindFits_4 : decode cX1_guestKindFits 4 = .ok (.astore 4, 2) := by decide +kernel
theorem dX1_guestKindFits_6 : decode cX1_guestKindFits 6 = .ok (.iconst 0, 1) := by decide +kernel
theorem dX1_guestKindFits_7 : decode cX1_guestKindFits 7 = .ok (.istore 5, 2) := by decide +kernel
theorem dX1_guestKindFits_9 : decode cX1_guestKindFits 9 = .ok (.iload 5, 2) := by decide +kernel
theorem dX1_guestKindFits_11 : decode cX1_guestKindFits 11 = .ok (.aload 4, 2) := by decide +kernel
theorem dX1_guestKindFits_13 : decode cX1_guestKindFits 13 = .ok (.getfield 25, 3) := by decide +kernel
theorem dX1_guestKindFits_16 : decode cX1_guestKindFits 16 = .ok (.if_icmp .ge 66, 3) := by decide +kernel
theorem dX1_guestKindFits_19 : decode cX1_guestKindFits 19 = .ok (.aload 4, 2) := by decide +kernel
theorem dX1_guestKindFits_21 : decode cX1_guestKindFits 21 = .ok (.iload 5, 2) := by decide +kernel
theorem dX1_guestKindFits_23 : decode cX1_guestKindFits 23 = .ok (.iconst 0, 1) := by decide +kernel
theorem dX1_guestKindFits_24 : decode cX1_guestKindFits 24 = .ok (.invokevirtual 31, 3) := by decide +kernel
theorem dX1_guestKindFits_27 : decode cX1_guestKindFits 27 = .ok (.iload_n 2, 1) := by decide +kernel
theorem dX1_guestKindFits_28 : decode cX1_guestKindFits 28 = .ok (.if_icmp .ne 7, 3) := by decide +kernel
theorem dX1_guestKindFits_31 : decode cX1_guestKindFits 31 = .ok (.iconst 1, 1) := by decide +kernel
theorem dX1_guestKindFits_32 : decode cX1_guestKindFits 32 = .ok (.goto 4, 3) := by decide +kernel
theorem dX1_guestKindFits_35 : decode cX1_guestKindFits 35 = .ok (.iconst 0, 1) := by decide +kernel
theorem dX1_guestKindFits_36 : decode cX1_guestKindFits 36 = .ok (.istore 6, 2) := by decide +kernel
theorem dX1_guestKindFits_38 : decode cX1_guestKindFits 38 = .ok (.iload 6, 2) := by decide +kernel
theorem dX1_guestKindFits_40 : decode cX1_guestKindFits 40 = .ok (.ifCond .eq 36, 3) := by decide +kernel
theorem dX1_guestKindFits_43 : decode cX1_guestKindFits 43 = .ok (.iload_n 3, 1) := by decide +kernel
theorem dX1_guestKindFits_44 : decode cX1_guestKindFits 44 = .ok (.aload 4, 2) := by decide +kernel
theorem dX1_guestKindFits_46 : decode cX1_guestKindFits 46 = .ok (.iload 5, 2) := by decide +kernel
theorem dX1_guestKindFits_48 : decode cX1_guestKindFits 48 = .ok (.iconst 1, 1) := by decide +kernel
theorem dX1_guestKindFits_49 : decode cX1_guestKindFits 49 = .ok (.invokevirtual 31, 3) := by decide +kernel
theorem dX1_guestKindFits_52 : decode cX1_guestKindFits 52 = .ok (.aload 4, 2) := by decide +kernel
theorem dX1_guestKindFits_54 : decode cX1_guestKindFits 54 = .ok (.iload 5, 2) := by decide +kernel
theorem dX1_guestKindFits_56 : decode cX1_guestKindFits 56 = .ok (.iconst 2, 1) := by decide +kernel
theorem dX1_guestKindFits_57 : decode cX1_guestKindFits 57 = .ok (.invokevirtual 31, 3) := by decide +kernel
theorem dX1_guestKindFits_60 : decode cX1_guestKindFits 60 = .ok (.invokestatic 76, 3) := by decide +kernel
theorem dX1_guestKindFits_63 : decode cX1_guestKindFits 63 = .ok (.aload 4, 2) := by decide +kernel
theorem dX1_guestKindFits_65 : decode cX1_guestKindFits 65 = .ok (.iload 5, 2) := by decide +kernel
theorem dX1_guestKindFits_67 : decode cX1_guestKindFits 67 = .ok (.iconst 3, 1) := by decide +kernel
theorem dX1_guestKindFits_68 : decode cX1_guestKindFits 68 = .ok (.invokevirtual 31, 3) := by decide +kernel
theorem dX1_guestKindFits_71 : decode cX1_guestKindFits 71 = .ok (.if_icmp .eq 5, 3) := by decide +kernel
theorem dX1_guestKindFits_74 : decode cX1_guestKindFits 74 = .ok (.iconst 0, 1) := by decide +kernel
theorem dX1_guestKindFits_75 : decode cX1_guestKindFits 75 = .ok (.ireturn, 1) := by decide +kernel
theorem dX1_guestKindFits_76 : decode cX1_guestKindFits 76 = .ok (.iinc 5 1, 3) := by decide +kernel
theorem dX1_guestKindFits_79 : decode cX1_guestKindFits 79 = .ok (.goto (-70), 3) := by decide +kernel
theorem dX1_guestKindFits_82 : decode cX1_guestKindFits 82 = .ok (.iconst 1, 1) := by decide +kernel
theorem dX1_guestKindFits_83 : decode cX1_guestKindFits 83 = .ok (.ireturn, 1) := by decide +kernel
theorem dX1_bestPart_0 : decode cX1_bestPart 0 = .ok (.aload_n 0, 1) := by decide +kernel
theorem dX1_bestPart_1 : decode cX1_bestPart 1 = .ok (.aload_n 1, 1) := by decide +kernel
theorem dX1_bestPart_2 : decode cX1_bestPart 2 = .ok (.iload_n 2, 1) := by decide +kernel
theorem dX1_bestPart_3 : decode cX1_bestPart 3 = .ok (.invokevirtual 82, 3) := by decide +kernel
theorem dX1_bestPart_6 : decode cX1_bestPart 6 = .ok (.istore_n 3, 1) := by decide +kernel
theorem dX1_bestPart_7 : decode cX1_bestPart 7 = .ok (.iconst (-1), 1) := by decide +kernel
theorem dX1_bestPart_8 : decode cX1_bestPart 8 = .ok (.istore 4, 2) := by decide +kernel
theorem dX1_bestPart_10 : decode cX1_bestPart 10 = .ok (.bipush 7, 2) := by decide +kernel
theorem dX1_bestPart_12 : decode cX1_bestPart 12 = .ok (.istore 5, 2) := by decide +kernel
theorem dX1_bestPart_14 : decode cX1_bestPart 14 = .ok (.iconst 0, 1) := by decide +kernel
theorem dX1_bestPart_15 : decode cX1_bestPart 15 = .ok (.istore 6, 2) := by decide +kernel
theorem dX1_bestPart_17 : decode cX1_bestPart 17 = .ok (.iload_n 3, 1) := by decide +kernel
theorem dX1_bestPart_18 : decode cX1_bestPart 18 = .ok (.ifCond .eq 47, 3) := by decide +kernel
theorem dX1_bestPart_21 : decode cX1_bestPart 21 = .ok (.iload 6, 2) := by decide +kernel
theorem dX1_bestPart_23 : decode cX1_bestPart 23 = .ok (.iconst 5, 1) := by decide +kernel
theorem dX1_bestPart_24 : decode cX1_bestPart 24 = .ok (.if_icmp .ge 41, 3) := by decide +kernel
theorem dX1_bestPart_27 : decode cX1_bestPart 27 = .ok (.aload_n 0, 1) := by decide +kernel
theorem dX1_bestPart_28 : decode cX1_bestPart 28 = .ok (.iload_n 3, 1) := by decide +kernel
theorem dX1_bestPart_29 : decode cX1_bestPart 29 = .ok (.aload_n 1, 1) := by decide +kernel
theorem dX1_bestPart_30 : decode cX1_bestPart 30 = .ok (.getfield 85, 3) := by decide +kernel
theorem dX1_bestPart_33 : decode cX1_bestPart 33 = .ok (.iload_n 2, 1) := by decide +kernel
theorem dX1_bestPart_34 : decode cX1_bestPart 34 = .ok (.invokestatic 61, 3) := by decide +kernel
theorem dX1_bestPart_37 : decode cX1_bestPart 37 = .ok (.iload 6, 2) := by decide +kernel
theorem dX1_bestPart_39 : decode cX1_bestPart 39 = .ok (.invokevirtual 88, 3) := by decide +kernel
theorem dX1_bestPart_42 : decode cX1_bestPart 42 = .ok (.istore 7, 2) := by decide +kernel
theorem dX1_bestPart_44 : decode cX1_bestPart 44 = .ok (.iload 7, 2) := by decide +kernel
theorem dX1_bestPart_46 : decode cX1_bestPart 46 = .ok (.iload 5, 2) := by decide +kernel
theorem dX1_bestPart_48 : decode cX1_bestPart 48 = .ok (.if_icmp .ge 11, 3) := by decide +kernel
theorem dX1_bestPart_51 : decode cX1_bestPart 51 = .ok (.iload 7, 2) := by decide +kernel
theorem dX1_bestPart_53 : decode cX1_bestPart 53 = .ok (.istore 5, 2) := by decide +kernel
theorem dX1_bestPart_55 : decode cX1_bestPart 55 = .ok (.iload 6, 2) := by decide +kernel
theorem dX1_bestPart_57 : decode cX1_bestPart 57 = .ok (.istore 4, 2) := by decide +kernel
theorem dX1_bestPart_59 : decode cX1_bestPart 59 = .ok (.iinc 6 1, 3) := by decide +kernel
theorem dX1_bestPart_62 : decode cX1_bestPart 62 = .ok (.goto (-45), 3) := by decide +kernel
theorem dX1_bestPart_65 : decode cX1_bestPart 65 = .ok (.iload 4, 2) := by decide +kernel
theorem dX1_bestPart_67 : decode cX1_bestPart 67 = .ok (.ireturn, 1) := by decide +kernel
theorem dX1_mostAlike_0 : decode cX1_mostAlike 0 = .ok (.iconst 0, 1) := by decide +kernel
theorem dX1_mostAlike_1 : decode cX1_mostAlike 1 = .ok (.istore 4, 2) := by decide +kernel
theorem dX1_mostAlike_3 : decode cX1_mostAlike 3 = .ok (.iconst 0, 1) := by decide +kernel
theorem dX1_mostAlike_4 : decode cX1_mostAlike 4 = .ok (.istore 5, 2) := by decide +kernel
theorem dX1_mostAlike_6 : decode cX1_mostAlike 6 = .ok (.iload 5, 2) := by decide +kernel
theorem dX1_mostAlike_8 : decode cX1_mostAlike 8 = .ok (.bipush 6, 2) := by decide +kernel
theorem dX1_mostAlike_10 : decode cX1_mostAlike 10 = .ok (.if_icmp .ge 87, 3) := by decide +kernel
theorem dX1_mostAlike_13 : decode cX1_mostAlike 13 = .ok (.iconst 0, 1) := by decide +kernel
theorem dX1_mostAlike_14 : decode cX1_mostAlike 14 = .ok (.istore 6, 2) := by decide +kernel
theorem dX1_mostAlike_16 : decode cX1_mostAlike 16 = .ok (.iconst 0, 1) := by decide +kernel
theorem dX1_mostAlike_17 : decode cX1_mostAlike 17 = .ok (.istore 7, 2) := by decide +kernel
theorem dX1_mostAlike_19 : decode cX1_mostAlike 19 = .ok (.iload_n 1, 1) := by decide +kernel
theorem dX1_mostAlike_20 : decode cX1_mostAlike 20 = .ok (.iload 5, 2) := by decide +kernel
theorem dX1_mostAlike_22 : decode cX1_mostAlike 22 = .ok (.invokestatic 54, 3) := by decide +kernel
theorem dX1_mostAlike_25 : decode cX1_mostAlike 25 = .ok (.ifCond .eq 57, 3) := by decide +kernel
theorem dX1_mostAlike_28 : decode cX1_mostAlike 28 = .ok (.iload 7, 2) := by decide +kernel
theorem dX1_mostAlike_30 : decode cX1_mostAlike 30 = .ok (.bipush 6, 2) := by decide +kernel
theorem dX1_mostAlike_32 : decode cX1_mostAlike 32 = .ok (.if_icmp .ge 50, 3) := by decide +kernel
theorem dX1_mostAlike_35 : decode cX1_mostAlike 35 = .ok (.iload 5, 2) := by decide +kernel
theorem dX1_mostAlike_37 : decode cX1_mostAlike 37 = .ok (.iload_n 2, 1) := by decide +kernel
theorem dX1_mostAlike_38 : decode cX1_mostAlike 38 = .ok (.iload_n 3, 1) := by decide +kernel
theorem dX1_mostAlike_39 : decode cX1_mostAlike 39 = .ok (.invokestatic 76, 3) := by decide +kernel
theorem dX1_mostAlike_42 : decode cX1_mostAlike 42 = .ok (.iload 7, 2) := by decide +kernel
theorem dX1_mostAlike_44 : decode cX1_mostAlike 44 = .ok (.iload_n 2, 1) := by decide +kernel
theorem dX1_mostAlike_45 : decode cX1_mostAlike 45 = .ok (.iload_n 3, 1) := by decide +kernel
theorem dX1_mostAlike_46 : decode cX1_mostAlike 46 = .ok (.invokestatic 76, 3) := by decide +kernel
theorem dX1_mostAlike_49 : decode cX1_mostAlike 49 = .ok (.if_icmp .ne 7, 3) := by decide +kernel
theorem dX1_mostAlike_52 : decode cX1_mostAlike 52 = .ok (.iconst 1, 1) := by decide +kernel
theorem dX1_mostAlike_53 : decode cX1_mostAlike 53 = .ok (.goto 4, 3) := by decide +kernel
theorem dX1_mostAlike_56 : decode cX1_mostAlike 56 = .ok (.iconst 0, 1) := by decide +kernel
theorem dX1_mostAlike_57 : decode cX1_mostAlike 57 = .ok (.istore 8, 2) := by decide +kernel
theorem dX1_mostAlike_59 : decode cX1_mostAlike 59 = .ok (.iload_n 1, 1) := by decide +kernel
theorem dX1_mostAlike_60 : decode cX1_mostAlike 60 = .ok (.iload 7, 2) := by decide +kernel
theorem dX1_mostAlike_62 : decode cX1_mostAlike 62 = .ok (.invokestatic 54, 3) := by decide +kernel
theorem dX1_mostAlike_65 : decode cX1_mostAlike 65 = .ok (.ifCond .eq 11, 3) := by decide +kernel
theorem dX1_mostAlike_68 : decode cX1_mostAlike 68 = .ok (.iload 8, 2) := by decide +kernel
theorem dX1_mostAlike_70 : decode cX1_mostAlike 70 = .ok (.ifCond .eq 6, 3) := by decide +kernel
theorem dX1_mostAlike_73 : decode cX1_mostAlike 73 = .ok (.iinc 6 1, 3) := by decide +kernel
theorem dX1_mostAlike_76 : decode cX1_mostAlike 76 = .ok (.iinc 7 1, 3) := by decide +kernel
theorem dX1_mostAlike_79 : decode cX1_mostAlike 79 = .ok (.goto (-60), 3) := by decide +kernel
theorem dX1_mostAlike_82 : decode cX1_mostAlike 82 = .ok (.iload 4, 2) := by decide +kernel
theorem dX1_mostAlike_84 : decode cX1_mostAlike 84 = .ok (.iload 6, 2) := by decide +kernel
theorem dX1_mostAlike_86 : decode cX1_mostAlike 86 = .ok (.invokestatic 65, 3) := by decide +kernel
theorem dX1_mostAlike_89 : decode cX1_mostAlike 89 = .ok (.istore 4, 2) := by decide +kernel
theorem dX1_mostAlike_91 : decode cX1_mostAlike 91 = .ok (.iinc 5 1, 3) := by decide +kernel
theorem dX1_mostAlike_94 : decode cX1_mostAlike 94 = .ok (.goto (-88), 3) := by decide +kernel
theorem dX1_mostAlike_97 : decode cX1_mostAlike 97 = .ok (.iload 4, 2) := by decide +kernel
theorem dX1_mostAlike_99 : decode cX1_mostAlike 99 = .ok (.ireturn, 1) := by decide +kernel
theorem dX1_sieveKindBits_0 : decode cX1_sieveKindBits 0 = .ok (.iconst 0, 1) := by decide +kernel
theorem dX1_sieveKindBits_1 : decode cX1_sieveKindBits 1 = .ok (.istore_n 3, 1) := by decide +kernel
theorem dX1_sieveKindBits_2 : decode cX1_sieveKindBits 2 = .ok (.iconst 0, 1) := by decide +kernel
theorem dX1_sieveKindBits_3 : decode cX1_sieveKindBits 3 = .ok (.istore 4, 2) := by decide +kernel
theorem dX1_sieveKindBits_5 : decode cX1_sieveKindBits 5 = .ok (.iload 4, 2) := by decide +kernel
theorem dX1_sieveKindBits_7 : decode cX1_sieveKindBits 7 = .ok (.bipush 6, 2) := by decide +kernel
theorem dX1_sieveKindBits_9 : decode cX1_sieveKindBits 9 = .ok (.if_icmp .ge 27, 3) := by decide +kernel
theorem dX1_sieveKindBits_12 : decode cX1_sieveKindBits 12 = .ok (.aload_n 0, 1) := by decide +kernel
theorem dX1_sieveKindBits_13 : decode cX1_sieveKindBits 13 = .ok (.aload_n 1, 1) := by decide +kernel
theorem dX1_sieveKindBits_14 : decode cX1_sieveKindBits 14 = .ok (.iload_n 2, 1) := by decide +kernel
theorem dX1_sieveKindBits_15 : decode cX1_sieveKindBits 15 = .ok (.iload 4, 2) := by decide +kernel
theorem dX1_sieveKindBits_17 : decode cX1_sieveKindBits 17 = .ok (.invokevirtual 91, 3) := by decide +kernel
theorem dX1_sieveKindBits_20 : decode cX1_sieveKindBits 20 = .ok (.ifCond .eq 10, 3) := by decide +kernel
theorem dX1_sieveKindBits_23 : decode cX1_sieveKindBits 23 = .ok (.iload_n 3, 1) := by decide +kernel
theorem dX1_sieveKindBits_24 : decode cX1_sieveKindBits 24 = .ok (.iconst 1, 1) := by decide +kernel
theorem dX1_sieveKindBits_25 : decode cX1_sieveKindBits 25 = .ok (.iload 4, 2) := by decide +kernel
theorem dX1_sieveKindBits_27 : decode cX1_sieveKindBits 27 = .ok (.ishl, 1) := by decide +kernel
theorem dX1_sieveKindBits_28 : decode cX1_sieveKindBits 28 = .ok (.ior, 1) := by decide +kernel
theorem dX1_sieveKindBits_29 : decode cX1_sieveKindBits 29 = .ok (.istore_n 3, 1) := by decide +kernel
theorem dX1_sieveKindBits_30 : decode cX1_sieveKindBits 30 = .ok (.iinc 4 1, 3) := by decide +kernel
theorem dX1_sieveKindBits_33 : decode cX1_sieveKindBits 33 = .ok (.goto (-28), 3) := by decide +kernel
theorem dX1_sieveKindBits_36 : decode cX1_sieveKindBits 36 = .ok (.iload_n 3, 1) := by decide +kernel
theorem dX1_sieveKindBits_37 : decode cX1_sieveKindBits 37 = .ok (.ireturn, 1) := by decide +kernel
theorem dX1_sieveKindFits_0 : decode cX1_sieveKindFits 0 = .ok (.aload_n 1, 1) := by decide +kernel
theorem dX1_sieveKindFits_1 : decode cX1_sieveKindFits 1 = .ok (.getfield 94, 3) := by decide +kernel
theorem dX1_sieveKindFits_4 : decode cX1_sieveKindFits 4 = .ok (.astore 4, 2) := by decide +kernel
theorem dX1_sieveKindFits_6 : decode cX1_sieveKindFits 6 = .ok (.iconst 0, 1) := by decide +kernel
theorem dX1_sieveKindFits_7 : decode cX1_sieveKindFits 7 = .ok (.istore 5, 2) := by decide +kernel
theorem dX1_sieveKindFits_9 : decode cX1_sieveKindFits 9 = .ok (.iload 5, 2) := by decide +kernel
theorem dX1_sieveKindFits_11 : decode cX1_sieveKindFits 11 = .ok (.aload 4, 2) := by decide +kernel
theorem dX1_sieveKindFits_13 : decode cX1_sieveKindFits 13 = .ok (.getfield 25, 3) := by decide +kernel
theorem dX1_sieveKindFits_16 : decode cX1_sieveKindFits 16 = .ok (.if_icmp .ge 78, 3) := by decide +kernel
theorem dX1_sieveKindFits_19 : decode cX1_sieveKindFits 19 = .ok (.iload_n 3, 1) := by decide +kernel
theorem dX1_sieveKindFits_20 : decode cX1_sieveKindFits 20 = .ok (.aload 4, 2) := by decide +kernel
theorem dX1_sieveKindFits_22 : decode cX1_sieveKindFits 22 = .ok (.iload 5, 2) := by decide +kernel
theorem dX1_sieveKindFits_24 : decode cX1_sieveKindFits 24 = .ok (.iconst 1, 1) := by decide +kernel
theorem dX1_sieveKindFits_25 : decode cX1_sieveKindFits 25 = .ok (.invokevirtual 31, 3) := by decide +kernel
theorem dX1_sieveKindFits_28 : decode cX1_sieveKindFits 28 = .ok (.aload 4, 2) := by decide +kernel
theorem dX1_sieveKindFits_30 : decode cX1_sieveKindFits 30 = .ok (.iload 5, 2) := by decide +kernel
theorem dX1_sieveKindFits_32 : decode cX1_sieveKindFits 32 = .ok (.iconst 2, 1) := by decide +kernel
theorem dX1_sieveKindFits_33 : decode cX1_sieveKindFits 33 = .ok (.invokevirtual 31, 3) := by decide +kernel
theorem dX1_sieveKindFits_36 : decode cX1_sieveKindFits 36 = .ok (.invokestatic 97, 3) := by decide +kernel
theorem dX1_sieveKindFits_39 : decode cX1_sieveKindFits 39 = .ok (.istore 6, 2) := by decide +kernel
theorem dX1_sieveKindFits_41 : decode cX1_sieveKindFits 41 = .ok (.aload 4, 2) := by decide +kernel
theorem dX1_sieveKindFits_43 : decode cX1_sieveKindFits 43 = .ok (.iload 5, 2) := by decide +kernel
theorem dX1_sieveKindFits_45 : decode cX1_sieveKindFits 45 = .ok (.iconst 3, 1) := by decide +kernel
theorem dX1_sieveKindFits_46 : decode cX1_sieveKindFits 46 = .ok (.invokevirtual 31, 3) := by decide +kernel
theorem dX1_sieveKindFits_49 : decode cX1_sieveKindFits 49 = .ok (.iload 6, 2) := by decide +kernel
theorem dX1_sieveKindFits_51 : decode cX1_sieveKindFits 51 = .ok (.if_icmp .lt 7, 3) := by decide +kernel
theorem dX1_sieveKindFits_54 : decode cX1_sieveKindFits 54 = .ok (.iconst 1, 1) := by decide +kernel
theorem dX1_sieveKindFits_55 : decode cX1_sieveKindFits 55 = .ok (.goto 4, 3) := by decide +kernel
theorem dX1_sieveKindFits_58 : decode cX1_sieveKindFits 58 = .ok (.iconst 0, 1) := by decide +kernel
theorem dX1_sieveKindFits_59 : decode cX1_sieveKindFits 59 = .ok (.istore 7, 2) := by decide +kernel
theorem dX1_sieveKindFits_61 : decode cX1_sieveKindFits 61 = .ok (.aload 4, 2) := by decide +kernel
theorem dX1_sieveKindFits_63 : decode cX1_sieveKindFits 63 = .ok (.iload 5, 2) := by decide +kernel
theorem dX1_sieveKindFits_65 : decode cX1_sieveKindFits 65 = .ok (.iconst 0, 1) := by decide +kernel
theorem dX1_sieveKindFits_66 : decode cX1_sieveKindFits 66 = .ok (.invokevirtual 31, 3) := by decide +kernel
theorem dX1_sieveKindFits_69 : decode cX1_sieveKindFits 69 = .ok (.iload_n 2, 1) := by decide +kernel
theorem dX1_sieveKindFits_70 : decode cX1_sieveKindFits 70 = .ok (.if_icmp .ne 18, 3) := by decide +kernel
theorem dX1_sieveKindFits_73 : decode cX1_sieveKindFits 73 = .ok (.iload 7, 2) := by decide +kernel
theorem dX1_sieveKindFits_75 : decode cX1_sieveKindFits 75 = .ok (.aload 4, 2) := by decide +kernel
theorem dX1_sieveKindFits_77 : decode cX1_sieveKindFits 77 = .ok (.iload 5, 2) := by decide +kernel
theorem dX1_sieveKindFits_79 : decode cX1_sieveKindFits 79 = .ok (.iconst 4, 1) := by decide +kernel
theorem dX1_sieveKindFits_80 : decode cX1_sieveKindFits 80 = .ok (.invokevirtual 31, 3) := by decide +kernel
theorem dX1_sieveKindFits_83 : decode cX1_sieveKindFits 83 = .ok (.if_icmp .eq 5, 3) := by decide +kernel
theorem dX1_sieveKindFits_86 : decode cX1_sieveKindFits 86 = .ok (.iconst 0, 1) := by decide +kernel
theorem dX1_sieveKindFits_87 : decode cX1_sieveKindFits 87 = .ok (.ireturn, 1) := by decide +kernel
theorem dX1_sieveKindFits_88 : decode cX1_sieveKindFits 88 = .ok (.iinc 5 1, 3) := by decide +kernel
theorem dX1_sieveKindFits_91 : decode cX1_sieveKindFits 91 = .ok (.goto (-82), 3) := by decide +kernel
theorem dX1_sieveKindFits_94 : decode cX1_sieveKindFits 94 = .ok (.iconst 1, 1) := by decide +kernel
theorem dX1_sieveKindFits_95 : decode cX1_sieveKindFits 95 = .ok (.ireturn, 1) := by decide +kernel
theorem dX1_bestQuestion_0 : decode cX1_bestQuestion 0 = .ok (.aload_n 0, 1) := by decide +kernel
theorem dX1_bestQuestion_1 : decode cX1_bestQuestion 1 = .ok (.aload_n 1, 1) := by decide +kernel
theorem dX1_bestQuestion_2 : decode cX1_bestQuestion 2 = .ok (.iload_n 2, 1) := by decide +kernel
theorem dX1_bestQuestion_3 : decode cX1_bestQuestion 3 = .ok (.invokevirtual 100, 3) := by decide +kernel
theorem dX1_bestQuestion_6 : decode cX1_bestQuestion 6 = .ok (.istore_n 3, 1) := by decide +kernel
theorem dX1_bestQuestion_7 : decode cX1_bestQuestion 7 = .ok (.iconst (-1), 1) := by decide +kernel
theorem dX1_bestQuestion_8 : decode cX1_bestQuestion 8 = .ok (.istore 4, 2) := by decide +kernel
theorem dX1_bestQuestion_10 : decode cX1_bestQuestion 10 = .ok (.bipush 7, 2) := by decide +kernel
theorem dX1_bestQuestion_12 : decode cX1_bestQuestion 12 = .ok (.istore 5, 2) := by decide +kernel
theorem dX1_bestQuestion_14 : decode cX1_bestQuestion 14 = .ok (.iconst 0, 1) := by decide +kernel
theorem dX1_bestQuestion_15 : decode cX1_bestQuestion 15 = .ok (.istore 6, 2) := by decide +kernel
theorem dX1_bestQuestion_17 : decode cX1_bestQuestion 17 = .ok (.iload_n 3, 1) := by decide +kernel
theorem dX1_bestQuestion_18 : decode cX1_bestQuestion 18 = .ok (.ifCond .eq 71, 3) := by decide +kernel
theorem dX1_bestQuestion_21 : decode cX1_bestQuestion 21 = .ok (.iload 6, 2) := by decide +kernel
theorem dX1_bestQuestion_23 : decode cX1_bestQuestion 23 = .ok (.iconst 4, 1) := by decide +kernel
theorem dX1_bestQuestion_24 : decode cX1_bestQuestion 24 = .ok (.if_icmp .gt 65, 3) := by decide +kernel
theorem dX1_bestQuestion_27 : decode cX1_bestQuestion 27 = .ok (.iconst 0, 1) := by decide +kernel
theorem dX1_bestQuestion_28 : decode cX1_bestQuestion 28 = .ok (.istore 7, 2) := by decide +kernel
theorem dX1_bestQuestion_30 : decode cX1_bestQuestion 30 = .ok (.iload 7, 2) := by decide +kernel
theorem dX1_bestQuestion_32 : decode cX1_bestQuestion 32 = .ok (.bipush 60, 2) := by decide +kernel
theorem dX1_bestQuestion_34 : decode cX1_bestQuestion 34 = .ok (.if_icmp .gt 49, 3) := by decide +kernel
theorem dX1_bestQuestion_37 : decode cX1_bestQuestion 37 = .ok (.aload_n 0, 1) := by decide +kernel
theorem dX1_bestQuestion_38 : decode cX1_bestQuestion 38 = .ok (.iload_n 3, 1) := by decide +kernel
theorem dX1_bestQuestion_39 : decode cX1_bestQuestion 39 = .ok (.aload_n 1, 1) := by decide +kernel
theorem dX1_bestQuestion_40 : decode cX1_bestQuestion 40 = .ok (.getfield 103, 3) := by decide +kernel
theorem dX1_bestQuestion_43 : decode cX1_bestQuestion 43 = .ok (.iload_n 2, 1) := by decide +kernel
theorem dX1_bestQuestion_44 : decode cX1_bestQuestion 44 = .ok (.invokestatic 61, 3) := by decide +kernel
theorem dX1_bestQuestion_47 : decode cX1_bestQuestion 47 = .ok (.iload 6, 2) := by decide +kernel
theorem dX1_bestQuestion_49 : decode cX1_bestQuestion 49 = .ok (.iload 7, 2) := by decide +kernel
theorem dX1_bestQuestion_51 : decode cX1_bestQuestion 51 = .ok (.invokevirtual 106, 3) := by decide +kernel
theorem dX1_bestQuestion_54 : decode cX1_bestQuestion 54 = .ok (.istore 8, 2) := by decide +kernel
theorem dX1_bestQuestion_56 : decode cX1_bestQuestion 56 = .ok (.iload 8, 2) := by decide +kernel
theorem dX1_bestQuestion_58 : decode cX1_bestQuestion 58 = .ok (.iload 5, 2) := by decide +kernel
theorem dX1_bestQuestion_60 : decode cX1_bestQuestion 60 = .ok (.if_icmp .ge 17, 3) := by decide +kernel
theorem dX1_bestQuestion_63 : decode cX1_bestQuestion 63 = .ok (.iload 8, 2) := by decide +kernel
theorem dX1_bestQuestion_65 : decode cX1_bestQuestion 65 = .ok (.istore 5, 2) := by decide +kernel
theorem dX1_bestQuestion_67 : decode cX1_bestQuestion 67 = .ok (.bipush 100, 2) := by decide +kernel
theorem dX1_bestQuestion_69 : decode cX1_bestQuestion 69 = .ok (.iload 6, 2) := by decide +kernel
theorem dX1_bestQuestion_71 : decode cX1_bestQuestion 71 = .ok (.imul, 1) := by decide +kernel
theorem dX1_bestQuestion_72 : decode cX1_bestQuestion 72 = .ok (.iload 7, 2) := by decide +kernel
theorem dX1_bestQuestion_74 : decode cX1_bestQuestion 74 = .ok (.iadd, 1) := by decide +kernel
theorem dX1_bestQuestion_75 : decode cX1_bestQuestion 75 = .ok (.istore 4, 2) := by decide +kernel
theorem dX1_bestQuestion_77 : decode cX1_bestQuestion 77 = .ok (.iinc 7 1, 3) := by decide +kernel
theorem dX1_bestQuestion_80 : decode cX1_bestQuestion 80 = .ok (.goto (-50), 3) := by decide +kernel
theorem dX1_bestQuestion_83 : decode cX1_bestQuestion 83 = .ok (.iinc 6 1, 3) := by decide +kernel
theorem dX1_bestQuestion_86 : decode cX1_bestQuestion 86 = .ok (.goto (-69), 3) := by decide +kernel
theorem dX1_bestQuestion_89 : decode cX1_bestQuestion 89 = .ok (.iload 4, 2) := by decide +kernel
theorem dX1_bestQuestion_91 : decode cX1_bestQuestion 91 = .ok (.ireturn, 1) := by decide +kernel
theorem dX1_greaterHalf_0 : decode cX1_greaterHalf 0 = .ok (.iconst 0, 1) := by decide +kernel
theorem dX1_greaterHalf_1 : decode cX1_greaterHalf 1 = .ok (.istore 5, 2) := by decide +kernel
theorem dX1_greaterHalf_3 : decode cX1_greaterHalf 3 = .ok (.iconst 0, 1) := by decide +kernel
theorem dX1_greaterHalf_4 : decode cX1_greaterHalf 4 = .ok (.istore 6, 2) := by decide +kernel
theorem dX1_greaterHalf_6 : decode cX1_greaterHalf 6 = .ok (.iload 6, 2) := by decide +kernel
theorem dX1_greaterHalf_8 : decode cX1_greaterHalf 8 = .ok (.bipush 6, 2) := by decide +kernel
theorem dX1_greaterHalf_10 : decode cX1_greaterHalf 10 = .ok (.if_icmp .ge 33, 3) := by decide +kernel
theorem dX1_greaterHalf_13 : decode cX1_greaterHalf 13 = .ok (.iload_n 1, 1) := by decide +kernel
theorem dX1_greaterHalf_14 : decode cX1_greaterHalf 14 = .ok (.iload 6, 2) := by decide +kernel
theorem dX1_greaterHalf_16 : decode cX1_greaterHalf 16 = .ok (.invokestatic 54, 3) := by decide +kernel
theorem dX1_greaterHalf_19 : decode cX1_greaterHalf 19 = .ok (.ifCond .eq 18, 3) := by decide +kernel
theorem dX1_greaterHalf_22 : decode cX1_greaterHalf 22 = .ok (.iload 4, 2) := by decide +kernel
theorem dX1_greaterHalf_24 : decode cX1_greaterHalf 24 = .ok (.iload 6, 2) := by decide +kernel
theorem dX1_greaterHalf_26 : decode cX1_greaterHalf 26 = .ok (.iload_n 2, 1) := by decide +kernel
theorem dX1_greaterHalf_27 : decode cX1_greaterHalf 27 = .ok (.iload_n 3, 1) := by decide +kernel
theorem dX1_greaterHalf_28 : decode cX1_greaterHalf 28 = .ok (.invokestatic 97, 3) := by decide +kernel
theorem dX1_greaterHalf_31 : decode cX1_greaterHalf 31 = .ok (.if_icmp .lt 6, 3) := by decide +kernel
theorem dX1_greaterHalf_34 : decode cX1_greaterHalf 34 = .ok (.iinc 5 1, 3) := by decide +kernel
theorem dX1_greaterHalf_37 : decode cX1_greaterHalf 37 = .ok (.iinc 6 1, 3) := by decide +kernel
theorem dX1_greaterHalf_40 : decode cX1_greaterHalf 40 = .ok (.goto (-34), 3) := by decide +kernel
theorem dX1_greaterHalf_43 : decode cX1_greaterHalf 43 = .ok (.iload 5, 2) := by decide +kernel
theorem dX1_greaterHalf_45 : decode cX1_greaterHalf 45 = .ok (.iload_n 1, 1) := by decide +kernel
theorem dX1_greaterHalf_46 : decode cX1_greaterHalf 46 = .ok (.invokestatic 109, 3) := by decide +kernel
theorem dX1_greaterHalf_49 : decode cX1_greaterHalf 49 = .ok (.iload 5, 2) := by decide +kernel
theorem dX1_greaterHalf_51 : decode cX1_greaterHalf 51 = .ok (.isub, 1) := by decide +kernel
theorem dX1_greaterHalf_52 : decode cX1_greaterHalf 52 = .ok (.invokestatic 65, 3) := by decide +kernel
theorem dX1_greaterHalf_55 : decode cX1_greaterHalf 55 = .ok (.ireturn, 1) := by decide +kernel
theorem dX2_init_0 : decode cX2_init 0 = .ok (.aload_n 0, 1) := by decide +kernel
theorem dX2_init_1 : decode cX2_init 1 = .ok (.invokespecial 3, 3) := by decide +kernel
theorem dX2_init_4 : decode cX2_init 4 = .ok (.aload_n 0, 1) := by decide +kernel
theorem dX2_init_5 : decode cX2_init 5 = .ok (.sipush 150, 3) := by decide +kernel
theorem dX2_init_8 : decode cX2_init 8 = .ok (.newarray .int, 2) := by decide +kernel
theorem dX2_init_10 : decode cX2_init 10 = .ok (.putfield 9, 3) := by decide +kernel
theorem dX2_init_13 : decode cX2_init 13 = .ok (.aload_n 0, 1) := by decide +kernel
theorem dX2_init_14 : decode cX2_init 14 = .ok (.iconst 0, 1) := by decide +kernel
theorem dX2_init_15 : decode cX2_init 15 = .ok (.putfield 15, 3) := by decide +kernel
theorem dX2_init_18 : decode cX2_init 18 = .ok (.aload_n 0, 1) := by decide +kernel
theorem dX2_init_19 : decode cX2_init 19 = .ok (.iconst 0, 1) := by decide +kernel
theorem dX2_init_20 : decode cX2_init 20 = .ok (.putfield 19, 3) := by decide +kernel
theorem dX2_init_23 : decode cX2_init 23 = .ok (.aload_n 0, 1) := by decide +kernel
theorem dX2_init_24 : decode cX2_init 24 = .ok (.iconst 0, 1) := by decide +kernel
theorem dX2_init_25 : decode cX2_init 25 = .ok (.putfield 22, 3) := by decide +kernel
theorem dX2_init_28 : decode cX2_init 28 = .ok (.aload_n 0, 1) := by decide +kernel
theorem dX2_init_29 : decode cX2_init 29 = .ok (.iconst 0, 1) := by decide +kernel
theorem dX2_init_30 : decode cX2_init 30 = .ok (.putfield 25, 3) := by decide +kernel
theorem dX2_init_33 : decode cX2_init 33 = .ok (.aload_n 0, 1) := by decide +kernel
theorem dX2_init_34 : decode cX2_init 34 = .ok (.iconst 0, 1) := by decide +kernel
theorem dX2_init_35 : decode cX2_init 35 = .ok (.putfield 28, 3) := by decide +kernel
theorem dX2_init_38 : decode cX2_init 38 = .ok (.aload_n 0, 1) := by decide +kernel
theorem dX2_init_39 : decode cX2_init 39 = .ok (.iconst (-1), 1) := by decide +kernel
theorem dX2_init_40 : decode cX2_init 40 = .ok (.putfield 31, 3) := by decide +kernel
theorem dX2_init_43 : decode cX2_init 43 = .ok (.aload_n 0, 1) := by decide +kernel
theorem dX2_init_44 : decode cX2_init 44 = .ok (.iconst 0, 1) := by decide +kernel
theorem dX2_init_45 : decode cX2_init 45 = .ok (.putfield 34, 3) := by decide +kernel
theorem dX2_init_48 : decode cX2_init 48 = .ok (.aload_n 0, 1) := by decide +kernel
theorem dX2_init_49 : decode cX2_init 49 = .ok (.iconst 0, 1) := by decide +kernel
theorem dX2_init_50 : decode cX2_init 50 = .ok (.putfield 37, 3) := by decide +kernel
theorem dX2_init_53 : decode cX2_init 53 = .ok (.return_, 1) := by decide +kernel
theorem dX2_addByte_0 : decode cX2_addByte 0 = .ok (.aload_n 0, 1) := by decide +kernel
theorem dX2_addByte_1 : decode cX2_addByte 1 = .ok (.getfield 9, 3) := by decide +kernel
theorem dX2_addByte_4 : decode cX2_addByte 4 = .ok (.aload_n 0, 1) := by decide +kernel
theorem dX2_addByte_5 : decode cX2_addByte 5 = .ok (.getfield 15, 3) := by decide +kernel
theorem dX2_addByte_8 : decode cX2_addByte 8 = .ok (.iload_n 1, 1) := by decide +kernel
theorem dX2_addByte_9 : decode cX2_addByte 9 = .ok (.invokestatic 40, 3) := by decide +kernel
theorem dX2_addByte_12 : decode cX2_addByte 12 = .ok (.aload_n 0, 1) := by decide +kernel
theorem dX2_addByte_13 : decode cX2_addByte 13 = .ok (.dup, 1) := by decide +kernel
theorem dX2_addByte_14 : decode cX2_addByte 14 = .ok (.getfield 15, 3) := by decide +kernel
theorem dX2_addByte_17 : decode cX2_addByte 17 = .ok (.iconst 1, 1) := by decide +kernel
theorem dX2_addByte_18 : decode cX2_addByte 18 = .ok (.iadd, 1) := by decide +kernel
theorem dX2_addByte_19 : decode cX2_addByte 19 = .ok (.putfield 15, 3) := by decide +kernel
theorem dX2_addByte_22 : decode cX2_addByte 22 = .ok (.aload_n 0, 1) := by decide +kernel
theorem dX2_addByte_23 : decode cX2_addByte 23 = .ok (.getfield 15, 3) := by decide +kernel
theorem dX2_addByte_26 : decode cX2_addByte 26 = .ok (.ireturn, 1) := by decide +kernel
theorem dX2_readItem_0 : decode cX2_readItem 0 = .ok (.aload_n 0, 1) := by decide +kernel
theorem dX2_readItem_1 : decode cX2_readItem 1 = .ok (.aload_n 0, 1) := by decide +kernel
theorem dX2_readItem_2 : decode cX2_readItem 2 = .ok (.getfield 25, 3) := by decide +kernel
theorem dX2_readItem_5 : decode cX2_readItem 5 = .ok (.iconst 1, 1) := by decide +kernel
theorem dX2_readItem_6 : decode cX2_readItem 6 = .ok (.if_icmp .ne 10, 3) := by decide +kernel
theorem dX2_readItem_9 : decode cX2_readItem 9 = .ok (.aload_n 0, 1) := by decide +kernel
theorem dX2_readItem_10 : decode cX2_readItem 10 = .ok (.getfield 28, 3) := by decide +kernel
theorem dX2_readItem_13 : decode cX2_readItem 13 = .ok (.goto 4, 3) := by decide +kernel
theorem dX2_readItem_16 : decode cX2_readItem 16 = .ok (.iconst (-1), 1) := by decide +kernel
theorem dX2_readItem_17 : decode cX2_readItem 17 = .ok (.putfield 31, 3) := by decide +kernel
theorem dX2_readItem_20 : decode cX2_readItem 20 = .ok (.aload_n 0, 1) := by decide +kernel
theorem dX2_readItem_21 : decode cX2_readItem 21 = .ok (.getfield 31, 3) := by decide +kernel
theorem dX2_readItem_24 : decode cX2_readItem 24 = .ok (.iconst (-1), 1) := by decide +kernel
theorem dX2_readItem_25 : decode cX2_readItem 25 = .ok (.if_icmp .eq 27, 3) := by decide +kernel
theorem dX2_readItem_28 : decode cX2_readItem 28 = .ok (.iload_n 2, 1) := by decide +kernel
theorem dX2_readItem_29 : decode cX2_readItem 29 = .ok (.aload_n 0, 1) := by decide +kernel
theorem dX2_readItem_30 : decode cX2_readItem 30 = .ok (.getfield 31, 3) := by decide +kernel
theorem dX2_readItem_33 : decode cX2_readItem 33 = .ok (.ifCond .ne 7, 3) := by decide +kernel
theorem dX2_readItem_36 : decode cX2_readItem 36 = .ok (.iconst 1, 1) := by decide +kernel
theorem dX2_readItem_37 : decode cX2_readItem 37 = .ok (.goto 4, 3) := by decide +kernel
theorem dX2_readItem_40 : decode cX2_readItem 40 = .ok (.iconst 0, 1) := by decide +kernel
theorem dX2_readItem_41 : decode cX2_readItem 41 = .ok (.if_icmp .ne 11, 3) := by decide +kernel
theorem dX2_readItem_44 : decode cX2_readItem 44 = .ok (.aload_n 0, 1) := by decide +kernel
theorem dX2_readItem_45 : decode cX2_readItem 45 = .ok (.aload_n 1, 1) := by decide +kernel
theorem dX2_readItem_46 : decode cX2_readItem 46 = .ok (.invokevirtual 44, 3) := by decide +kernel
theorem dX2_readItem_49 : decode cX2_readItem 49 = .ok (.ifCond .ne 5, 3) := by decide +kernel
theorem dX2_readItem_52 : decode cX2_readItem 52 = .ok (.iconst 0, 1) := by decide +kernel
theorem dX2_readItem_53 : decode cX2_readItem 53 = .ok (.ireturn, 1) := by decide +kernel
theorem dX2_readItem_54 : decode cX2_readItem 54 = .ok (.aload_n 0, 1) := by decide +kernel
theorem dX2_readItem_55 : decode cX2_readItem 55 = .ok (.iconst 0, 1) := by decide +kernel
theorem dX2_readItem_56 : decode cX2_readItem 56 = .ok (.aload_n 1, 1) := by decide +kernel
theorem dX2_readItem_57 : decode cX2_readItem 57 = .ok (.invokevirtual 48, 3) := by decide +kernel
theorem dX2_readItem_60 : decode cX2_readItem 60 = .ok (.ifCond .ne 5, 3) := by decide +kernel
theorem dX2_readItem_63 : decode cX2_readItem 63 = .ok (.iconst 0, 1) := by decide +kernel
theorem dX2_readItem_64 : decode cX2_readItem 64 = .ok (.ireturn, 1) := by decide +kernel
theorem dX2_readItem_65 : decode cX2_readItem 65 = .ok (.aload_n 0, 1) := by decide +kernel
theorem dX2_readItem_66 : decode cX2_readItem 66 = .ok (.aload_n 0, 1) := by decide +kernel
theorem dX2_readItem_67 : decode cX2_readItem 67 = .ok (.getfield 28, 3) := by decide +kernel
theorem dX2_readItem_70 : decode cX2_readItem 70 = .ok (.putfield 34, 3) := by decide +kernel
theorem dX2_readItem_73 : decode cX2_readItem 73 = .ok (.aload_n 0, 1) := by decide +kernel
theorem dX2_readItem_74 : decode cX2_readItem 74 = .ok (.invokevirtual 52, 3) := by decide +kernel
theorem dX2_readItem_77 : decode cX2_readItem 77 = .ok (.ifCond .eq 14, 3) := by decide +kernel
theorem dX2_readItem_80 : decode cX2_readItem 80 = .ok (.aload_n 0, 1) := by decide +kernel
theorem dX2_readItem_81 : decode cX2_readItem 81 = .ok (.iconst 1, 1) := by decide +kernel
theorem dX2_readItem_82 : decode cX2_readItem 82 = .ok (.aload_n 1, 1) := by decide +kernel
theorem dX2_readItem_83 : decode cX2_readItem 83 = .ok (.invokevirtual 48, 3) := by decide +kernel
theorem dX2_readItem_86 : decode cX2_readItem 86 = .ok (.ifCond .ne 5, 3) := by decide +kernel
theorem dX2_readItem_89 : decode cX2_readItem 89 = .ok (.iconst 0, 1) := by decide +kernel
theorem dX2_readItem_90 : decode cX2_readItem 90 = .ok (.ireturn, 1) := by decide +kernel
theorem dX2_readItem_91 : decode cX2_readItem 91 = .ok (.aload_n 0, 1) := by decide +kernel
theorem dX2_readItem_92 : decode cX2_readItem 92 = .ok (.aload_n 0, 1) := by decide +kernel
theorem dX2_readItem_93 : decode cX2_readItem 93 = .ok (.getfield 28, 3) := by decide +kernel
theorem dX2_readItem_96 : decode cX2_readItem 96 = .ok (.putfield 37, 3) := by decide +kernel
theorem dX2_readItem_99 : decode cX2_readItem 99 = .ok (.aload_n 0, 1) := by decide +kernel
theorem dX2_readItem_100 : decode cX2_readItem 100 = .ok (.invokevirtual 56, 3) := by decide +kernel
theorem dX2_readItem_103 : decode cX2_readItem 103 = .ok (.aload_n 0, 1) := by decide +kernel
theorem dX2_readItem_104 : decode cX2_readItem 104 = .ok (.getfield 25, 3) := by decide +kernel
theorem dX2_readItem_107 : decode cX2_readItem 107 = .ok (.iconst 3, 1) := by decide +kernel
theorem dX2_readItem_108 : decode cX2_readItem 108 = .ok (.if_icmp .ne 7, 3) := by decide +kernel
theorem dX2_readItem_111 : decode cX2_readItem 111 = .ok (.iconst 1, 1) := by decide +kernel
theorem dX2_readItem_112 : decode cX2_readItem 112 = .ok (.goto 4, 3) := by decide +kernel
theorem dX2_readItem_115 : decode cX2_readItem 115 = .ok (.iconst 0, 1) := by decide +kernel
theorem dX2_readItem_116 : decode cX2_readItem 116 = .ok (.ireturn, 1) := by decide +kernel
theorem dX2_hasRoom_0 : decode cX2_hasRoom 0 = .ok (.aload_n 0, 1) := by decide +kernel
theorem dX2_hasRoom_1 : decode cX2_hasRoom 1 = .ok (.getfield 31, 3) := by decide +kernel
theorem dX2_hasRoom_4 : decode cX2_hasRoom 4 = .ok (.iconst 1, 1) := by decide +kernel
theorem dX2_hasRoom_5 : decode cX2_hasRoom 5 = .ok (.if_icmp .ne 18, 3) := by decide +kernel
theorem dX2_hasRoom_8 : decode cX2_hasRoom 8 = .ok (.aload_n 1, 1) := by decide +kernel
theorem dX2_hasRoom_9 : decode cX2_hasRoom 9 = .ok (.getfield 59, 3) := by decide +kernel
theorem dX2_hasRoom_12 : decode cX2_hasRoom 12 = .ok (.bipush 6, 2) := by decide +kernel
theorem dX2_hasRoom_14 : decode cX2_hasRoom 14 = .ok (.if_icmp .ge 7, 3) := by decide +kernel
theorem dX2_hasRoom_17 : decode cX2_hasRoom 17 = .ok (.iconst 1, 1) := by decide +kernel
theorem dX2_hasRoom_18 : decode cX2_hasRoom 18 = .ok (.goto 4, 3) := by decide +kernel
theorem dX2_hasRoom_21 : decode cX2_hasRoom 21 = .ok (.iconst 0, 1) := by decide +kernel
theorem dX2_hasRoom_22 : decode cX2_hasRoom 22 = .ok (.ireturn, 1) := by decide +kernel
theorem dX2_hasRoom_23 : decode cX2_hasRoom 23 = .ok (.aload_n 0, 1) := by decide +kernel
theorem dX2_hasRoom_24 : decode cX2_hasRoom 24 = .ok (.getfield 31, 3) := by decide +kernel
theorem dX2_hasRoom_27 : decode cX2_hasRoom 27 = .ok (.iconst 2, 1) := by decide +kernel
theorem dX2_hasRoom_28 : decode cX2_hasRoom 28 = .ok (.if_icmp .ne 11, 3) := by decide +kernel
theorem dX2_hasRoom_31 : decode cX2_hasRoom 31 = .ok (.aload_n 1, 1) := by decide +kernel
theorem dX2_hasRoom_32 : decode cX2_hasRoom 32 = .ok (.getfield 64, 3) := by decide +kernel
theorem dX2_hasRoom_35 : decode cX2_hasRoom 35 = .ok (.iconst 4, 1) := by decide +kernel
theorem dX2_hasRoom_36 : decode cX2_hasRoom 36 = .ok (.if_icmp .ge 7, 3) := by decide +kernel
theorem dX2_hasRoom_39 : decode cX2_hasRoom 39 = .ok (.iconst 1, 1) := by decide +kernel
theorem dX2_hasRoom_40 : decode cX2_hasRoom 40 = .ok (.goto 4, 3) := by decide +kernel
theorem dX2_hasRoom_43 : decode cX2_hasRoom 43 = .ok (.iconst 0, 1) := by decide +kernel
theorem dX2_hasRoom_44 : decode cX2_hasRoom 44 = .ok (.ireturn, 1) := by decide +kernel
theorem dX2_hasTwoNumbers_0 : decode cX2_hasTwoNumbers 0 = .ok (.aload_n 0, 1) := by decide +kernel
theorem dX2_hasTwoNumbers_1 : decode cX2_hasTwoNumbers 1 = .ok (.getfield 31, 3) := by decide +kernel
theorem dX2_hasTwoNumbers_4 : decode cX2_hasTwoNumbers 4 = .ok (.iconst 1, 1) := by decide +kernel
theorem dX2_hasTwoNumbers_5 : decode cX2_hasTwoNumbers 5 = .ok (.if_icmp .eq 19, 3) := by decide +kernel
theorem dX2_hasTwoNumbers_8 : decode cX2_hasTwoNumbers 8 = .ok (.aload_n 0, 1) := by decide +kernel
theorem dX2_hasTwoNumbers_9 : decode cX2_hasTwoNumbers 9 = .ok (.getfield 31, 3) := by decide +kernel
theorem dX2_hasTwoNumbers_12 : decode cX2_hasTwoNumbers 12 = .ok (.iconst 2, 1) := by decide +kernel
theorem dX2_hasTwoNumbers_13 : decode cX2_hasTwoNumbers 13 = .ok (.if_icmp .eq 11, 3) := by decide +kernel
theorem dX2_hasTwoNumbers_16 : decode cX2_hasTwoNumbers 16 = .ok (.aload_n 0, 1) := by decide +kernel
theorem dX2_hasTwoNumbers_17 : decode cX2_hasTwoNumbers 17 = .ok (.getfield 31, 3) := by decide +kernel
theorem dX2_hasTwoNumbers_20 : decode cX2_hasTwoNumbers 20 = .ok (.iconst 3, 1) := by decide +kernel
theorem dX2_hasTwoNumbers_21 : decode cX2_hasTwoNumbers 21 = .ok (.if_icmp .ne 7, 3) := by decide +kernel
theorem dX2_hasTwoNumbers_24 : decode cX2_hasTwoNumbers 24 = .ok (.iconst 1, 1) := by decide +kernel
theorem dX2_hasTwoNumbers_25 : decode cX2_hasTwoNumbers 25 = .ok (.goto 4, 3) := by decide +kernel
theorem dX2_hasTwoNumbers_28 : decode cX2_hasTwoNumbers 28 = .ok (.iconst 0, 1) := by decide +kernel
theorem dX2_hasTwoNumbers_29 : decode cX2_hasTwoNumbers 29 = .ok (.ireturn, 1) := by decide +kernel
theorem dX2_readNumber_0 : decode cX2_readNumber 0 = .ok (.aload_n 0, 1) := by decide +kernel
theorem dX2_readNumber_1 : decode cX2_readNumber 1 = .ok (.invokevirtual 56, 3) := by decide +kernel
theorem dX2_readNumber_4 : decode cX2_readNumber 4 = .ok (.aload_n 0, 1) := by decide +kernel
theorem dX2_readNumber_5 : decode cX2_readNumber 5 = .ok (.getfield 25, 3) := by decide +kernel
theorem dX2_readNumber_8 : decode cX2_readNumber 8 = .ok (.iconst 2, 1) := by decide +kernel
theorem dX2_readNumber_9 : decode cX2_readNumber 9 = .ok (.if_icmp .ne 28, 3) := by decide +kernel
theorem dX2_readNumber_12 : decode cX2_readNumber 12 = .ok (.aload_n 0, 1) := by decide +kernel
theorem dX2_readNumber_13 : decode cX2_readNumber 13 = .ok (.getfield 28, 3) := by decide +kernel
theorem dX2_readNumber_16 : decode cX2_readNumber 16 = .ok (.aload_n 0, 1) := by decide +kernel
theorem dX2_readNumber_17 : decode cX2_readNumber 17 = .ok (.iload_n 1, 1) := by decide +kernel
theorem dX2_readNumber_18 : decode cX2_readNumber 18 = .ok (.invokevirtual 67, 3) := by decide +kernel
theorem dX2_readNumber_21 : decode cX2_readNumber 21 = .ok (.aload_n 0, 1) := by decide +kernel
theorem dX2_readNumber_22 : decode cX2_readNumber 22 = .ok (.iload_n 1, 1) := by decide +kernel
theorem dX2_readNumber_23 : decode cX2_readNumber 23 = .ok (.aload_n 2, 1) := by decide +kernel
theorem dX2_readNumber_24 : decode cX2_readNumber 24 = .ok (.invokevirtual 71, 3) := by decide +kernel
theorem dX2_readNumber_27 : decode cX2_readNumber 27 = .ok (.invokestatic 75, 3) := by decide +kernel
theorem dX2_readNumber_30 : decode cX2_readNumber 30 = .ok (.ifCond .eq 7, 3) := by decide +kernel
theorem dX2_readNumber_33 : decode cX2_readNumber 33 = .ok (.iconst 1, 1) := by decide +kernel
theorem dX2_readNumber_34 : decode cX2_readNumber 34 = .ok (.goto 4, 3) := by decide +kernel
theorem dX2_readNumber_37 : decode cX2_readNumber 37 = .ok (.iconst 0, 1) := by decide +kernel
theorem dX2_readNumber_38 : decode cX2_readNumber 38 = .ok (.ireturn, 1) := by decide +kernel
theorem dX2_leastTold_0 : decode cX2_leastTold 0 = .ok (.iload_n 1, 1) := by decide +kernel
theorem dX2_leastTold_1 : decode cX2_leastTold 1 = .ok (.iconst 1, 1) := by decide +kernel
theorem dX2_leastTold_2 : decode cX2_leastTold 2 = .ok (.if_icmp .ne 23, 3) := by decide +kernel
theorem dX2_leastTold_5 : decode cX2_leastTold 5 = .ok (.aload_n 0, 1) := by decide +kernel
theorem dX2_leastTold_6 : decode cX2_leastTold 6 = .ok (.getfield 31, 3) := by decide +kernel
theorem dX2_leastTold_9 : decode cX2_leastTold 9 = .ok (.iconst 1, 1) := by decide +kernel
theorem dX2_leastTold_10 : decode cX2_leastTold 10 = .ok (.if_icmp .eq 11, 3) := by decide +kernel
theorem dX2_leastTold_13 : decode cX2_leastTold 13 = .ok (.aload_n 0, 1) := by decide +kernel
theorem dX2_leastTold_14 : decode cX2_leastTold 14 = .ok (.getfield 31, 3) := by decide +kernel
theorem dX2_leastTold_17 : decode cX2_leastTold 17 = .ok (.iconst 2, 1) := by decide +kernel
theorem dX2_leastTold_18 : decode cX2_leastTold 18 = .ok (.if_icmp .ne 7, 3) := by decide +kernel
theorem dX2_leastTold_21 : decode cX2_leastTold 21 = .ok (.iconst 1, 1) := by decide +kernel
theorem dX2_leastTold_22 : decode cX2_leastTold 22 = .ok (.goto 4, 3) := by decide +kernel
theorem dX2_leastTold_25 : decode cX2_leastTold 25 = .ok (.iconst 0, 1) := by decide +kernel
theorem dX2_leastTold_26 : decode cX2_leastTold 26 = .ok (.istore_n 2, 1) := by decide +kernel
theorem dX2_leastTold_27 : decode cX2_leastTold 27 = .ok (.iload_n 2, 1) := by decide +kernel
theorem dX2_leastTold_28 : decode cX2_leastTold 28 = .ok (.ifCond .ne 11, 3) := by decide +kernel
theorem dX2_leastTold_31 : decode cX2_leastTold 31 = .ok (.aload_n 0, 1) := by decide +kernel
theorem dX2_leastTold_32 : decode cX2_leastTold 32 = .ok (.getfield 31, 3) := by decide +kernel
theorem dX2_leastTold_35 : decode cX2_leastTold 35 = .ok (.iconst 5, 1) := by decide +kernel
theorem dX2_leastTold_36 : decode cX2_leastTold 36 = .ok (.if_icmp .ne 7, 3) := by decide +kernel
theorem dX2_leastTold_39 : decode cX2_leastTold 39 = .ok (.iconst 1, 1) := by decide +kernel
theorem dX2_leastTold_40 : decode cX2_leastTold 40 = .ok (.goto 4, 3) := by decide +kernel
theorem dX2_leastTold_43 : decode cX2_leastTold 43 = .ok (.iconst 0, 1) := by decide +kernel
theorem dX2_leastTold_44 : decode cX2_leastTold 44 = .ok (.ireturn, 1) := by decide +kernel
theorem dX2_mostTold_0 : decode cX2_mostTold 0 = .ok (.aload_n 0, 1) := by decide +kernel
theorem dX2_mostTold_1 : decode cX2_mostTold 1 = .ok (.getfield 31, 3) := by decide +kernel
theorem dX2_mostTold_4 : decode cX2_mostTold 4 = .ok (.tableswitch 76 0 4 #[36, 38, 38, 49, 69], 36) := by decide +kernel
theorem dX2_mostTold_40 : decode cX2_mostTold 40 = .ok (.iconst 4, 1) := by decide +kernel
theorem dX2_mostTold_41 : decode cX2_mostTold 41 = .ok (.ireturn, 1) := by decide +kernel
theorem dX2_mostTold_42 : decode cX2_mostTold 42 = .ok (.iload_n 1, 1) := by decide +kernel
theorem dX2_mostTold_43 : decode cX2_mostTold 43 = .ok (.ifCond .ne 7, 3) := by decide +kernel
theorem dX2_mostTold_46 : decode cX2_mostTold 46 = .ok (.iconst 5, 1) := by decide +kernel
theorem dX2_mostTold_47 : decode cX2_mostTold 47 = .ok (.goto 5, 3) := by decide +kernel
theorem dX2_mostTold_50 : decode cX2_mostTold 50 = .ok (.bipush 30, 2) := by decide +kernel
theorem dX2_mostTold_52 : decode cX2_mostTold 52 = .ok (.ireturn, 1) := by decide +kernel
theorem dX2_mostTold_53 : decode cX2_mostTold 53 = .ok (.iload_n 1, 1) := by decide +kernel
theorem dX2_mostTold_54 : decode cX2_mostTold 54 = .ok (.ifCond .ne 12, 3) := by decide +kernel
theorem dX2_mostTold_57 : decode cX2_mostTold 57 = .ok (.aload_n 2, 1) := by decide +kernel
theorem dX2_mostTold_58 : decode cX2_mostTold 58 = .ok (.getfield 59, 3) := by decide +kernel
theorem dX2_mostTold_61 : decode cX2_mostTold 61 = .ok (.iconst 1, 1) := by decide +kernel
theorem dX2_mostTold_62 : decode cX2_mostTold 62 = .ok (.isub, 1) := by decide +kernel
theorem dX2_mostTold_63 : decode cX2_mostTold 63 = .ok (.goto 9, 3) := by decide +kernel
theorem dX2_mostTold_66 : decode cX2_mostTold 66 = .ok (.aload_n 2, 1) := by decide +kernel
theorem dX2_mostTold_67 : decode cX2_mostTold 67 = .ok (.getfield 64, 3) := by decide +kernel
theorem dX2_mostTold_70 : decode cX2_mostTold 70 = .ok (.iconst 1, 1) := by decide +kernel
theorem dX2_mostTold_71 : decode cX2_mostTold 71 = .ok (.isub, 1) := by decide +kernel
theorem dX2_mostTold_72 : decode cX2_mostTold 72 = .ok (.ireturn, 1) := by decide +kernel
theorem dX2_mostTold_73 : decode cX2_mostTold 73 = .ok (.aload_n 2, 1) := by decide +kernel
theorem dX2_mostTold_74 : decode cX2_mostTold 74 = .ok (.getfield 59, 3) := by decide +kernel
theorem dX2_mostTold_77 : decode cX2_mostTold 77 = .ok (.iconst 1, 1) := by decide +kernel
theorem dX2_mostTold_78 : decode cX2_mostTold 78 = .ok (.isub, 1) := by decide +kernel
theorem dX2_mostTold_79 : decode cX2_mostTold 79 = .ok (.ireturn, 1) := by decide +kernel
theorem dX2_mostTold_80 : decode cX2_mostTold 80 = .ok (.bipush 99, 2) := by decide +kernel
theorem dX2_mostTold_82 : decode cX2_mostTold 82 = .ok (.ireturn, 1) := by decide +kernel
theorem dX2_carryOut_0 : decode cX2_carryOut 0 = .ok (.aload_n 0, 1) := by decide +kernel
theorem dX2_carryOut_1 : decode cX2_carryOut 1 = .ok (.getfield 31, 3) := by decide +kernel
theorem dX2_carryOut_4 : decode cX2_carryOut 4 = .ok (.tableswitch 112 0 4 #[36, 47, 63, 79, 97], 36) := by decide +kernel
theorem dX2_carryOut_40 : decode cX2_carryOut 40 = .ok (.aload_n 1, 1) := by decide +kernel
theorem dX2_carryOut_41 : decode cX2_carryOut 41 = .ok (.aload_n 0, 1) := by decide +kernel
theorem dX2_carryOut_42 : decode cX2_carryOut 42 = .ok (.getfield 34, 3) := by decide +kernel
theorem dX2_carryOut_45 : decode cX2_carryOut 45 = .ok (.putfield 79, 3) := by decide +kernel
theorem dX2_carryOut_48 : decode cX2_carryOut 48 = .ok (.goto 76, 3) := by decide +kernel
theorem dX2_carryOut_51 : decode cX2_carryOut 51 = .ok (.aload_n 1, 1) := by decide +kernel
theorem dX2_carryOut_52 : decode cX2_carryOut 52 = .ok (.aload_n 0, 1) := by decide +kernel
theorem dX2_carryOut_53 : decode cX2_carryOut 53 = .ok (.getfield 34, 3) := by decide +kernel
theorem dX2_carryOut_56 : decode cX2_carryOut 56 = .ok (.aload_n 0, 1) := by decide +kernel
theorem dX2_carryOut_57 : decode cX2_carryOut 57 = .ok (.getfield 37, 3) := by decide +kernel
theorem dX2_carryOut_60 : decode cX2_carryOut 60 = .ok (.invokevirtual 82, 3) := by decide +kernel
theorem dX2_carryOut_63 : decode cX2_carryOut 63 = .ok (.pop, 1) := by decide +kernel
theorem dX2_carryOut_64 : decode cX2_carryOut 64 = .ok (.goto 60, 3) := by decide +kernel
theorem dX2_carryOut_67 : decode cX2_carryOut 67 = .ok (.aload_n 1, 1) := by decide +kernel
theorem dX2_carryOut_68 : decode cX2_carryOut 68 = .ok (.aload_n 0, 1) := by decide +kernel
theorem dX2_carryOut_69 : decode cX2_carryOut 69 = .ok (.getfield 34, 3) := by decide +kernel
theorem dX2_carryOut_72 : decode cX2_carryOut 72 = .ok (.aload_n 0, 1) := by decide +kernel
theorem dX2_carryOut_73 : decode cX2_carryOut 73 = .ok (.getfield 37, 3) := by decide +kernel
theorem dX2_carryOut_76 : decode cX2_carryOut 76 = .ok (.invokevirtual 86, 3) := by decide +kernel
theorem dX2_carryOut_79 : decode cX2_carryOut 79 = .ok (.pop, 1) := by decide +kernel
theorem dX2_carryOut_80 : decode cX2_carryOut 80 = .ok (.goto 44, 3) := by decide +kernel
theorem dX2_carryOut_83 : decode cX2_carryOut 83 = .ok (.aload_n 1, 1) := by decide +kernel
theorem dX2_carryOut_84 : decode cX2_carryOut 84 = .ok (.getfield 89, 3) := by decide +kernel
theorem dX2_carryOut_87 : decode cX2_carryOut 87 = .ok (.aload_n 0, 1) := by decide +kernel
theorem dX2_carryOut_88 : decode cX2_carryOut 88 = .ok (.getfield 34, 3) := by decide +kernel
theorem dX2_carryOut_91 : decode cX2_carryOut 91 = .ok (.aload_n 0, 1) := by decide +kernel
theorem dX2_carryOut_92 : decode cX2_carryOut 92 = .ok (.getfield 37, 3) := by decide +kernel
theorem dX2_carryOut_95 : decode cX2_carryOut 95 = .ok (.invokestatic 40, 3) := by decide +kernel
theorem dX2_carryOut_98 : decode cX2_carryOut 98 = .ok (.goto 26, 3) := by decide +kernel
theorem dX2_carryOut_101 : decode cX2_carryOut 101 = .ok (.aload_n 1, 1) := by decide +kernel
theorem dX2_carryOut_102 : decode cX2_carryOut 102 = .ok (.getfield 89, 3) := by decide +kernel
theorem dX2_carryOut_105 : decode cX2_carryOut 105 = .ok (.aload_n 0, 1) := by decide +kernel
theorem dX2_carryOut_106 : decode cX2_carryOut 106 = .ok (.getfield 34, 3) := by decide +kernel
theorem dX2_carryOut_109 : decode cX2_carryOut 109 = .ok (.iconst (-1), 1) := by decide +kernel
theorem dX2_carryOut_110 : decode cX2_carryOut 110 = .ok (.invokestatic 40, 3) := by decide +kernel
theorem dX2_carryOut_113 : decode cX2_carryOut 113 = .ok (.goto 11, 3) := by decide +kernel
theorem dX2_carryOut_116 : decode cX2_carryOut 116 = .ok (.aload_n 1, 1) := by decide +kernel
theorem dX2_carryOut_117 : decode cX2_carryOut 117 = .ok (.aload_n 0, 1) := by decide +kernel
theorem dX2_carryOut_118 : decode cX2_carryOut 118 = .ok (.getfield 34, 3) := by decide +kernel
theorem dX2_carryOut_121 : decode cX2_carryOut 121 = .ok (.invokevirtual 92, 3) := by decide +kernel
theorem dX2_carryOut_124 : decode cX2_carryOut 124 = .ok (.return_, 1) := by decide +kernel
theorem dX2_step_0 : decode cX2_step 0 = .ok (.aload_n 0, 1) := by decide +kernel
theorem dX2_step_1 : decode cX2_step 1 = .ok (.getfield 19, 3) := by decide +kernel
theorem dX2_step_4 : decode cX2_step 4 = .ok (.aload_n 0, 1) := by decide +kernel
theorem dX2_step_5 : decode cX2_step 5 = .ok (.getfield 15, 3) := by decide +kernel
theorem dX2_step_8 : decode cX2_step 8 = .ok (.if_icmp .ge 32, 3) := by decide +kernel
theorem dX2_step_11 : decode cX2_step 11 = .ok (.aload_n 0, 1) := by decide +kernel
theorem dX2_step_12 : decode cX2_step 12 = .ok (.getfield 9, 3) := by decide +kernel
theorem dX2_step_15 : decode cX2_step 15 = .ok (.aload_n 0, 1) := by decide +kernel
theorem dX2_step_16 : decode cX2_step 16 = .ok (.getfield 19, 3) := by decide +kernel
theorem dX2_step_19 : decode cX2_step 19 = .ok (.invokestatic 96, 3) := by decide +kernel
theorem dX2_step_22 : decode cX2_step 22 = .ok (.bipush 32, 2) := by decide +kernel
theorem dX2_step_24 : decode cX2_step 24 = .ok (.if_icmp .ne 16, 3) := by decide +kernel
theorem dX2_step_27 : decode cX2_step 27 = .ok (.aload_n 0, 1) := by decide +kernel
theorem dX2_step_28 : decode cX2_step 28 = .ok (.dup, 1) := by decide +kernel
theorem dX2_step_29 : decode cX2_step 29 = .ok (.getfield 19, 3) := by decide +kernel
theorem dX2_step_32 : decode cX2_step 32 = .ok (.iconst 1, 1) := by decide +kernel
theorem dX2_step_33 : decode cX2_step 33 = .ok (.iadd, 1) := by decide +kernel
theorem dX2_step_34 : decode cX2_step 34 = .ok (.putfield 19, 3) := by decide +kernel
theorem dX2_step_37 : decode cX2_step 37 = .ok (.goto (-37), 3) := by decide +kernel
theorem dX2_step_40 : decode cX2_step 40 = .ok (.aload_n 0, 1) := by decide +kernel
theorem dX2_step_41 : decode cX2_step 41 = .ok (.aload_n 0, 1) := by decide +kernel
theorem dX2_step_42 : decode cX2_step 42 = .ok (.getfield 19, 3) := by decide +kernel
theorem dX2_step_45 : decode cX2_step 45 = .ok (.putfield 22, 3) := by decide +kernel
theorem dX2_step_48 : decode cX2_step 48 = .ok (.aload_n 0, 1) := by decide +kernel
theorem dX2_step_49 : decode cX2_step 49 = .ok (.getfield 9, 3) := by decide +kernel
theorem dX2_step_52 : decode cX2_step 52 = .ok (.aload_n 0, 1) := by decide +kernel
theorem dX2_step_53 : decode cX2_step 53 = .ok (.getfield 19, 3) := by decide +kernel
theorem dX2_step_56 : decode cX2_step 56 = .ok (.invokestatic 96, 3) := by decide +kernel
theorem dX2_step_59 : decode cX2_step 59 = .ok (.istore_n 1, 1) := by decide +kernel
theorem dX2_step_60 : decode cX2_step 60 = .ok (.aload_n 0, 1) := by decide +kernel
theorem dX2_step_61 : decode cX2_step 61 = .ok (.getfield 19, 3) := by decide +kernel
theorem dX2_step_64 : decode cX2_step 64 = .ok (.aload_n 0, 1) := by decide +kernel
theorem dX2_step_65 : decode cX2_step 65 = .ok (.getfield 15, 3) := by decide +kernel
theorem dX2_step_68 : decode cX2_step 68 = .ok (.if_icmp .lt 11, 3) := by decide +kernel
theorem dX2_step_71 : decode cX2_step 71 = .ok (.aload_n 0, 1) := by decide +kernel
theorem dX2_step_72 : decode cX2_step 72 = .ok (.iconst 0, 1) := by decide +kernel
theorem dX2_step_73 : decode cX2_step 73 = .ok (.putfield 25, 3) := by decide +kernel
theorem dX2_step_76 : decode cX2_step 76 = .ok (.goto 56, 3) := by decide +kernel
theorem dX2_step_79 : decode cX2_step 79 = .ok (.iload_n 1, 1) := by decide +kernel
theorem dX2_step_80 : decode cX2_step 80 = .ok (.invokestatic 100, 3) := by decide +kernel
theorem dX2_step_83 : decode cX2_step 83 = .ok (.ifCond .eq 10, 3) := by decide +kernel
theorem dX2_step_86 : decode cX2_step 86 = .ok (.aload_n 0, 1) := by decide +kernel
theorem dX2_step_87 : decode cX2_step 87 = .ok (.invokevirtual 104, 3) := by decide +kernel
theorem dX2_step_90 : decode cX2_step 90 = .ok (.goto 42, 3) := by decide +kernel
theorem dX2_step_93 : decode cX2_step 93 = .ok (.iload_n 1, 1) := by decide +kernel
theorem dX2_step_94 : decode cX2_step 94 = .ok (.invokestatic 107, 3) := by decide +kernel
theorem dX2_step_97 : decode cX2_step 97 = .ok (.ifCond .eq 10, 3) := by decide +kernel
theorem dX2_step_100 : decode cX2_step 100 = .ok (.aload_n 0, 1) := by decide +kernel
theorem dX2_step_101 : decode cX2_step 101 = .ok (.invokevirtual 110, 3) := by decide +kernel
theorem dX2_step_104 : decode cX2_step 104 = .ok (.goto 28, 3) := by decide +kernel
theorem dX2_step_107 : decode cX2_step 107 = .ok (.aload_n 0, 1) := by decide +kernel
theorem dX2_step_108 : decode cX2_step 108 = .ok (.dup, 1) := by decide +kernel
theorem dX2_step_109 : decode cX2_step 109 = .ok (.getfield 19, 3) := by decide +kernel
theorem dX2_step_112 : decode cX2_step 112 = .ok (.iconst 1, 1) := by decide +kernel
theorem dX2_step_113 : decode cX2_step 113 = .ok (.iadd, 1) := by decide +kernel
theorem dX2_step_114 : decode cX2_step 114 = .ok (.putfield 19, 3) := by decide +kernel
theorem dX2_step_117 : decode cX2_step 117 = .ok (.aload_n 0, 1) := by decide +kernel
theorem dX2_step_118 : decode cX2_step 118 = .ok (.iload_n 1, 1) := by decide +kernel
theorem dX2_step_119 : decode cX2_step 119 = .ok (.bipush 59, 2) := by decide +kernel
theorem dX2_step_121 : decode cX2_step 121 = .ok (.if_icmp .ne 7, 3) := by decide +kernel
theorem dX2_step_124 : decode cX2_step 124 = .ok (.iconst 3, 1) := by decide +kernel
theorem dX2_step_125 : decode cX2_step 125 = .ok (.goto 4, 3) := by decide +kernel
theorem dX2_step_128 : decode cX2_step 128 = .ok (.iconst 4, 1) := by decide +kernel
theorem dX2_step_129 : decode cX2_step 129 = .ok (.putfield 25, 3) := by decide +kernel
theorem dX2_step_132 : decode cX2_step 132 = .ok (.return_, 1) := by decide +kernel
theorem dX2_takeWord_0 : decode cX2_takeWord 0 = .ok (.aload_n 0, 1) := by decide +kernel
theorem dX2_takeWord_1 : decode cX2_takeWord 1 = .ok (.getfield 19, 3) := by decide +kernel
theorem dX2_takeWord_4 : decode cX2_takeWord 4 = .ok (.aload_n 0, 1) := by decide +kernel
theorem dX2_takeWord_5 : decode cX2_takeWord 5 = .ok (.getfield 15, 3) := by decide +kernel
theorem dX2_takeWord_8 : decode cX2_takeWord 8 = .ok (.if_icmp .ge 33, 3) := by decide +kernel
theorem dX2_takeWord_11 : decode cX2_takeWord 11 = .ok (.aload_n 0, 1) := by decide +kernel
theorem dX2_takeWord_12 : decode cX2_takeWord 12 = .ok (.getfield 9, 3) := by decide +kernel
theorem dX2_takeWord_15 : decode cX2_takeWord 15 = .ok (.aload_n 0, 1) := by decide +kernel
theorem dX2_takeWord_16 : decode cX2_takeWord 16 = .ok (.getfield 19, 3) := by decide +kernel
theorem dX2_takeWord_19 : decode cX2_takeWord 19 = .ok (.invokestatic 96, 3) := by decide +kernel
theorem dX2_takeWord_22 : decode cX2_takeWord 22 = .ok (.invokestatic 100, 3) := by decide +kernel
theorem dX2_takeWord_25 : decode cX2_takeWord 25 = .ok (.ifCond .eq 16, 3) := by decide +kernel
theorem dX2_takeWord_28 : decode cX2_takeWord 28 = .ok (.aload_n 0, 1) := by decide +kernel
theorem dX2_takeWord_29 : decode cX2_takeWord 29 = .ok (.dup, 1) := by decide +kernel
theorem dX2_takeWord_30 : decode cX2_takeWord 30 = .ok (.getfield 19, 3) := by decide +kernel
theorem dX2_takeWord_33 : decode cX2_takeWord 33 = .ok (.iconst 1, 1) := by decide +kernel
theorem dX2_takeWord_34 : decode cX2_takeWord 34 = .ok (.iadd, 1) := by decide +kernel
theorem dX2_takeWord_35 : decode cX2_takeWord 35 = .ok (.putfield 19, 3) := by decide +kernel
theorem dX2_takeWord_38 : decode cX2_takeWord 38 = .ok (.goto (-38), 3) := by decide +kernel
theorem dX2_takeWord_41 : decode cX2_takeWord 41 = .ok (.aload_n 0, 1) := by decide +kernel
theorem dX2_takeWord_42 : decode cX2_takeWord 42 = .ok (.iconst 1, 1) := by decide +kernel
theorem dX2_takeWord_43 : decode cX2_takeWord 43 = .ok (.putfield 25, 3) := by decide +kernel
theorem dX2_takeWord_46 : decode cX2_takeWord 46 = .ok (.aload_n 0, 1) := by decide +kernel
theorem dX2_takeWord_47 : decode cX2_takeWord 47 = .ok (.iconst (-1), 1) := by decide +kernel
theorem dX2_takeWord_48 : decode cX2_takeWord 48 = .ok (.putfield 28, 3) := by decide +kernel
theorem dX2_takeWord_51 : decode cX2_takeWord 51 = .ok (.iconst 0, 1) := by decide +kernel
theorem dX2_takeWord_52 : decode cX2_takeWord 52 = .ok (.istore_n 1, 1) := by decide +kernel
theorem dX2_takeWord_53 : decode cX2_takeWord 53 = .ok (.iload_n 1, 1) := by decide +kernel
theorem dX2_takeWord_54 : decode cX2_takeWord 54 = .ok (.bipush 6, 2) := by decide +kernel
theorem dX2_takeWord_56 : decode cX2_takeWord 56 = .ok (.if_icmp .ge 25, 3) := by decide +kernel
theorem dX2_takeWord_59 : decode cX2_takeWord 59 = .ok (.aload_n 0, 1) := by decide +kernel
theorem dX2_takeWord_60 : decode cX2_takeWord 60 = .ok (.iload_n 1, 1) := by decide +kernel
theorem dX2_takeWord_61 : decode cX2_takeWord 61 = .ok (.invokestatic 113, 3) := by decide +kernel
theorem dX2_takeWord_64 : decode cX2_takeWord 64 = .ok (.invokevirtual 117, 3) := by decide +kernel
theorem dX2_takeWord_67 : decode cX2_takeWord 67 = .ok (.ifCond .eq 8, 3) := by decide +kernel
theorem dX2_takeWord_70 : decode cX2_takeWord 70 = .ok (.aload_n 0, 1) := by decide +kernel
theorem dX2_takeWord_71 : decode cX2_takeWord 71 = .ok (.iload_n 1, 1) := by decide +kernel
theorem dX2_takeWord_72 : decode cX2_takeWord 72 = .ok (.putfield 28, 3) := by decide +kernel
theorem dX2_takeWord_75 : decode cX2_takeWord 75 = .ok (.iinc 1 1, 3) := by decide +kernel
theorem dX2_takeWord_78 : decode cX2_takeWord 78 = .ok (.goto (-25), 3) := by decide +kernel
theorem dX2_takeWord_81 : decode cX2_takeWord 81 = .ok (.return_, 1) := by decide +kernel
theorem dX2_takeNumber_0 : decode cX2_takeNumber 0 = .ok (.aload_n 0, 1) := by decide +kernel
theorem dX2_takeNumber_1 : decode cX2_takeNumber 1 = .ok (.iconst 0, 1) := by decide +kernel
theorem dX2_takeNumber_2 : decode cX2_takeNumber 2 = .ok (.putfield 28, 3) := by decide +kernel
theorem dX2_takeNumber_5 : decode cX2_takeNumber 5 = .ok (.aload_n 0, 1) := by decide +kernel
theorem dX2_takeNumber_6 : decode cX2_takeNumber 6 = .ok (.getfield 19, 3) := by decide +kernel
theorem dX2_takeNumber_9 : decode cX2_takeNumber 9 = .ok (.aload_n 0, 1) := by decide +kernel
theorem dX2_takeNumber_10 : decode cX2_takeNumber 10 = .ok (.getfield 15, 3) := by decide +kernel
theorem dX2_takeNumber_13 : decode cX2_takeNumber 13 = .ok (.if_icmp .ge 59, 3) := by decide +kernel
theorem dX2_takeNumber_16 : decode cX2_takeNumber 16 = .ok (.aload_n 0, 1) := by decide +kernel
theorem dX2_takeNumber_17 : decode cX2_takeNumber 17 = .ok (.getfield 9, 3) := by decide +kernel
theorem dX2_takeNumber_20 : decode cX2_takeNumber 20 = .ok (.aload_n 0, 1) := by decide +kernel
theorem dX2_takeNumber_21 : decode cX2_takeNumber 21 = .ok (.getfield 19, 3) := by decide +kernel
theorem dX2_takeNumber_24 : decode cX2_takeNumber 24 = .ok (.invokestatic 96, 3) := by decide +kernel
theorem dX2_takeNumber_27 : decode cX2_takeNumber 27 = .ok (.invokestatic 107, 3) := by decide +kernel
theorem dX2_takeNumber_30 : decode cX2_takeNumber 30 = .ok (.ifCond .eq 42, 3) := by decide +kernel
theorem dX2_takeNumber_33 : decode cX2_takeNumber 33 = .ok (.aload_n 0, 1) := by decide +kernel
theorem dX2_takeNumber_34 : decode cX2_takeNumber 34 = .ok (.bipush 10, 2) := by decide +kernel
theorem dX2_takeNumber_36 : decode cX2_takeNumber 36 = .ok (.aload_n 0, 1) := by decide +kernel
theorem dX2_takeNumber_37 : decode cX2_takeNumber 37 = .ok (.getfield 28, 3) := by decide +kernel
theorem dX2_takeNumber_40 : decode cX2_takeNumber 40 = .ok (.imul, 1) := by decide +kernel
theorem dX2_takeNumber_41 : decode cX2_takeNumber 41 = .ok (.aload_n 0, 1) := by decide +kernel
theorem dX2_takeNumber_42 : decode cX2_takeNumber 42 = .ok (.getfield 9, 3) := by decide +kernel
theorem dX2_takeNumber_45 : decode cX2_takeNumber 45 = .ok (.aload_n 0, 1) := by decide +kernel
theorem dX2_takeNumber_46 : decode cX2_takeNumber 46 = .ok (.getfield 19, 3) := by decide +kernel
theorem dX2_takeNumber_49 : decode cX2_takeNumber 49 = .ok (.invokestatic 96, 3) := by decide +kernel
theorem dX2_takeNumber_52 : decode cX2_takeNumber 52 = .ok (.iadd, 1) := by decide +kernel
theorem dX2_takeNumber_53 : decode cX2_takeNumber 53 = .ok (.bipush 48, 2) := by decide +kernel
theorem dX2_takeNumber_55 : decode cX2_takeNumber 55 = .ok (.isub, 1) := by decide +kernel
theorem dX2_takeNumber_56 : decode cX2_takeNumber 56 = .ok (.putfield 28, 3) := by decide +kernel
theorem dX2_takeNumber_59 : decode cX2_takeNumber 59 = .ok (.aload_n 0, 1) := by decide +kernel
theorem dX2_takeNumber_60 : decode cX2_takeNumber 60 = .ok (.dup, 1) := by decide +kernel
theorem dX2_takeNumber_61 : decode cX2_takeNumber 61 = .ok (.getfield 19, 3) := by decide +kernel
theorem dX2_takeNumber_64 : decode cX2_takeNumber 64 = .ok (.iconst 1, 1) := by decide +kernel
theorem dX2_takeNumber_65 : decode cX2_takeNumber 65 = .ok (.iadd, 1) := by decide +kernel
theorem dX2_takeNumber_66 : decode cX2_takeNumber 66 = .ok (.putfield 19, 3) := by decide +kernel
theorem dX2_takeNumber_69 : decode cX2_takeNumber 69 = .ok (.goto (-64), 3) := by decide +kernel
theorem dX2_takeNumber_72 : decode cX2_takeNumber 72 = .ok (.aload_n 0, 1) := by decide +kernel
theorem dX2_takeNumber_73 : decode cX2_takeNumber 73 = .ok (.aload_n 0, 1) := by decide +kernel
theorem dX2_takeNumber_74 : decode cX2_takeNumber 74 = .ok (.getfield 19, 3) := by decide +kernel
theorem dX2_takeNumber_77 : decode cX2_takeNumber 77 = .ok (.aload_n 0, 1) := by decide +kernel
theorem dX2_takeNumber_78 : decode cX2_takeNumber 78 = .ok (.getfield 22, 3) := by decide +kernel
theorem dX2_takeNumber_81 : decode cX2_takeNumber 81 = .ok (.isub, 1) := by decide +kernel
theorem dX2_takeNumber_82 : decode cX2_takeNumber 82 = .ok (.iconst 2, 1) := by decide +kernel
theorem dX2_takeNumber_83 : decode cX2_takeNumber 83 = .ok (.if_icmp .gt 7, 3) := by decide +kernel
theorem dX2_takeNumber_86 : decode cX2_takeNumber 86 = .ok (.iconst 2, 1) := by decide +kernel
theorem dX2_takeNumber_87 : decode cX2_takeNumber 87 = .ok (.goto 4, 3) := by decide +kernel
theorem dX2_takeNumber_90 : decode cX2_takeNumber 90 = .ok (.iconst 4, 1) := by decide +kernel
theorem dX2_takeNumber_91 : decode cX2_takeNumber 91 = .ok (.putfield 25, 3) := by decide +kernel
theorem dX2_takeNumber_94 : decode cX2_takeNumber 94 = .ok (.return_, 1) := by decide +kernel
theorem dX2_isSpelt_0 : decode cX2_isSpelt 0 = .ok (.aload_n 1, 1) := by decide +kernel
theorem dX2_isSpelt_1 : decode cX2_isSpelt 1 = .ok (.invokevirtual 121, 3) := by decide +kernel
theorem dX2_isSpelt_4 : decode cX2_isSpelt 4 = .ok (.aload_n 0, 1) := by decide +kernel
theorem dX2_isSpelt_5 : decode cX2_isSpelt 5 = .ok (.getfield 19, 3) := by decide +kernel
theorem dX2_isSpelt_8 : decode cX2_isSpelt 8 = .ok (.aload_n 0, 1) := by decide +kernel
theorem dX2_isSpelt_9 : decode cX2_isSpelt 9 = .ok (.getfield 22, 3) := by decide +kernel
theorem dX2_isSpelt_12 : decode cX2_isSpelt 12 = .ok (.isub, 1) := by decide +kernel
theorem dX2_isSpelt_13 : decode cX2_isSpelt 13 = .ok (.if_icmp .eq 5, 3) := by decide +kernel
theorem dX2_isSpelt_16 : decode cX2_isSpelt 16 = .ok (.iconst 0, 1) := by decide +kernel
theorem dX2_isSpelt_17 : decode cX2_isSpelt 17 = .ok (.ireturn, 1) := by decide +kernel
theorem dX2_isSpelt_18 : decode cX2_isSpelt 18 = .ok (.iconst 0, 1) := by decide +kernel
theorem dX2_isSpelt_19 : decode cX2_isSpelt 19 = .ok (.istore_n 2, 1) := by decide +kernel
theorem dX2_isSpelt_20 : decode cX2_isSpelt 20 = .ok (.iload_n 2, 1) := by decide +kernel
theorem dX2_isSpelt_21 : decode cX2_isSpelt 21 = .ok (.aload_n 1, 1) := by decide +kernel
theorem dX2_isSpelt_22 : decode cX2_isSpelt 22 = .ok (.invokevirtual 121, 3) := by decide +kernel
theorem dX2_isSpelt_25 : decode cX2_isSpelt 25 = .ok (.if_icmp .ge 32, 3) := by decide +kernel
theorem dX2_isSpelt_28 : decode cX2_isSpelt 28 = .ok (.aload_n 1, 1) := by decide +kernel
theorem dX2_isSpelt_29 : decode cX2_isSpelt 29 = .ok (.iload_n 2, 1) := by decide +kernel
theorem dX2_isSpelt_30 : decode cX2_isSpelt 30 = .ok (.invokevirtual 126, 3) := by decide +kernel
theorem dX2_isSpelt_33 : decode cX2_isSpelt 33 = .ok (.aload_n 0, 1) := by decide +kernel
theorem dX2_isSpelt_34 : decode cX2_isSpelt 34 = .ok (.getfield 9, 3) := by decide +kernel
theorem dX2_isSpelt_37 : decode cX2_isSpelt 37 = .ok (.aload_n 0, 1) := by decide +kernel
theorem dX2_isSpelt_38 : decode cX2_isSpelt 38 = .ok (.getfield 22, 3) := by decide +kernel
theorem dX2_isSpelt_41 : decode cX2_isSpelt 41 = .ok (.iload_n 2, 1) := by decide +kernel
theorem dX2_isSpelt_42 : decode cX2_isSpelt 42 = .ok (.iadd, 1) := by decide +kernel
theorem dX2_isSpelt_43 : decode cX2_isSpelt 43 = .ok (.invokestatic 96, 3) := by decide +kernel
theorem dX2_isSpelt_46 : decode cX2_isSpelt 46 = .ok (.if_icmp .eq 5, 3) := by decide +kernel
theorem dX2_isSpelt_49 : decode cX2_isSpelt 49 = .ok (.iconst 0, 1) := by decide +kernel
theorem dX2_isSpelt_50 : decode cX2_isSpelt 50 = .ok (.ireturn, 1) := by decide +kernel
theorem dX2_isSpelt_51 : decode cX2_isSpelt 51 = .ok (.iinc 2 1, 3) := by decide +kernel
theorem dX2_isSpelt_54 : decode cX2_isSpelt 54 = .ok (.goto (-34), 3) := by decide +kernel
theorem dX2_isSpelt_57 : decode cX2_isSpelt 57 = .ok (.iconst 1, 1) := by decide +kernel
theorem dX2_isSpelt_58 : decode cX2_isSpelt 58 = .ok (.ireturn, 1) := by decide +kernel
theorem dX2_spelling_0 : decode cX2_spelling 0 = .ok (.iload_n 0, 1) := by decide +kernel
theorem dX2_spelling_1 : decode cX2_spelling 1 = .ok (.tableswitch 50 0 4 #[35, 38, 41, 44, 47], 35) := by decide +kernel
theorem dX2_spelling_36 : decode cX2_spelling 36 = .ok (.ldc 130, 2) := by decide +kernel
theorem dX2_spelling_38 : decode cX2_spelling 38 = .ok (.areturn, 1) := by decide +kernel
theorem dX2_spelling_39 : decode cX2_spelling 39 = .ok (.ldc 132, 2) := by decide +kernel
theorem dX2_spelling_41 : decode cX2_spelling 41 = .ok (.areturn, 1) := by decide +kernel
theorem dX2_spelling_42 : decode cX2_spelling 42 = .ok (.ldc 134, 2) := by decide +kernel
theorem dX2_spelling_44 : decode cX2_spelling 44 = .ok (.areturn, 1) := by decide +kernel
theorem dX2_spelling_45 : decode cX2_spelling 45 = .ok (.ldc 136, 2) := by decide +kernel
theorem dX2_spelling_47 : decode cX2_spelling 47 = .ok (.areturn, 1) := by decide +kernel
theorem dX2_spelling_48 : decode cX2_spelling 48 = .ok (.ldc 138, 2) := by decide +kernel
theorem dX2_spelling_50 : decode cX2_spelling 50 = .ok (.areturn, 1) := by decide +kernel
theorem dX2_spelling_51 : decode cX2_spelling 51 = .ok (.ldc 140, 2) := by decide +kernel
theorem dX2_spelling_53 : decode cX2_spelling 53 = .ok (.areturn, 1) := by decide +kernel
theorem dX2_isLetter_0 : decode cX2_isLetter 0 = .ok (.iload_n 0, 1) := by decide +kernel
theorem dX2_isLetter_1 : decode cX2_isLetter 1 = .ok (.bipush 97, 2) := by decide +kernel
theorem dX2_isLetter_3 : decode cX2_isLetter 3 = .ok (.bipush 122, 2) := by decide +kernel
theorem dX2_isLetter_5 : decode cX2_isLetter 5 = .ok (.invokestatic 75, 3) := by decide +kernel
theorem dX2_isLetter_8 : decode cX2_isLetter 8 = .ok (.ireturn, 1) := by decide +kernel
theorem dX2_isFigure_0 : decode cX2_isFigure 0 = .ok (.iload_n 0, 1) := by decide +kernel
theorem dX2_isFigure_1 : decode cX2_isFigure 1 = .ok (.bipush 48, 2) := by decide +kernel
theorem dX2_isFigure_3 : decode cX2_isFigure 3 = .ok (.bipush 57, 2) := by decide +kernel
theorem dX2_isFigure_5 : decode cX2_isFigure 5 = .ok (.invokestatic 75, 3) := by decide +kernel
theorem dX2_isFigure_8 : decode cX2_isFigure 8 = .ok (.ireturn, 1) := by decide +kernel
theorem dX3_init_0 : decode cX3_init 0 = .ok (.aload_n 0, 1) := by decide +kernel
theorem dX3_init_1 : decode cX3_init 1 = .ok (.invokespecial 1, 3) := by decide +kernel
theorem dX3_init_4 : decode cX3_init 4 = .ok (.aload_n 0, 1) := by decide +kernel
theorem dX3_init_5 : decode cX3_init 5 = .ok (.iconst 0, 1) := by decide +kernel
theorem dX3_init_6 : decode cX3_init 6 = .ok (.putfield 7, 3) := by decide +kernel
theorem dX3_init_9 : decode cX3_init 9 = .ok (.aload_n 0, 1) := by decide +kernel
theorem dX3_init_10 : decode cX3_init 10 = .ok (.iconst 1, 1) := by decide +kernel
theorem dX3_init_11 : decode cX3_init 11 = .ok (.iload_n 1, 1) := by decide +kernel
theorem dX3_init_12 : decode cX3_init 12 = .ok (.invokestatic 13, 3) := by decide +kernel
theorem dX3_init_15 : decode cX3_init 15 = .ok (.putfield 19, 3) := by decide +kernel
theorem dX3_init_18 : decode cX3_init 18 = .ok (.aload_n 0, 1) := by decide +kernel
theorem dX3_init_19 : decode cX3_init 19 = .ok (.iconst 1, 1) := by decide +kernel
theorem dX3_init_20 : decode cX3_init 20 = .ok (.iload_n 2, 1) := by decide +kernel
theorem dX3_init_21 : decode cX3_init 21 = .ok (.invokestatic 13, 3) := by decide +kernel
theorem dX3_init_24 : decode cX3_init 24 = .ok (.putfield 22, 3) := by decide +kernel
theorem dX3_init_27 : decode cX3_init 27 = .ok (.aload_n 0, 1) := by decide +kernel
theorem dX3_init_28 : decode cX3_init 28 = .ok (.aload_n 0, 1) := by decide +kernel
theorem dX3_init_29 : decode cX3_init 29 = .ok (.getfield 19, 3) := by decide +kernel
theorem dX3_init_32 : decode cX3_init 32 = .ok (.aload_n 0, 1) := by decide +kernel
theorem dX3_init_33 : decode cX3_init 33 = .ok (.getfield 22, 3) := by decide +kernel
theorem dX3_init_36 : decode cX3_init 36 = .ok (.imul, 1) := by decide +kernel
theorem dX3_init_37 : decode cX3_init 37 = .ok (.newarray .int, 2) := by decide +kernel
theorem dX3_init_39 : decode cX3_init 39 = .ok (.putfield 25, 3) := by decide +kernel
theorem dX3_init_42 : decode cX3_init 42 = .ok (.return_, 1) := by decide +kernel
theorem dX3_isFull_0 : decode cX3_isFull 0 = .ok (.aload_n 0, 1) := by decide +kernel
theorem dX3_isFull_1 : decode cX3_isFull 1 = .ok (.getfield 7, 3) := by decide +kernel
theorem dX3_isFull_4 : decode cX3_isFull 4 = .ok (.aload_n 0, 1) := by decide +kernel
theorem dX3_isFull_5 : decode cX3_isFull 5 = .ok (.getfield 19, 3) := by decide +kernel
theorem dX3_isFull_8 : decode cX3_isFull 8 = .ok (.if_icmp .lt 7, 3) := by decide +kernel
theorem dX3_isFull_11 : decode cX3_isFull 11 = .ok (.iconst 1, 1) := by decide +kernel
theorem dX3_isFull_12 : decode cX3_isFull 12 = .ok (.goto 4, 3) := by decide +kernel
theorem dX3_isFull_15 : decode cX3_isFull 15 = .ok (.iconst 0, 1) := by decide +kernel
theorem dX3_isFull_16 : decode cX3_isFull 16 = .ok (.ireturn, 1) := by decide +kernel
theorem dX3_open_0 : decode cX3_open 0 = .ok (.aload_n 0, 1) := by decide +kernel
theorem dX3_open_1 : decode cX3_open 1 = .ok (.invokevirtual 29, 3) := by decide +kernel
theorem dX3_open_4 : decode cX3_open 4 = .ok (.ifCond .eq 39, 3) := by decide +kernel
theorem dX3_open_7 : decode cX3_open 7 = .ok (.aload_n 0, 1) := by decide +kernel
theorem dX3_open_8 : decode cX3_open 8 = .ok (.getfield 25, 3) := by decide +kernel
theorem dX3_open_11 : decode cX3_open 11 = .ok (.aload_n 0, 1) := by decide +kernel
theorem dX3_open_12 : decode cX3_open 12 = .ok (.getfield 22, 3) := by decide +kernel
theorem dX3_open_15 : decode cX3_open 15 = .ok (.aload_n 0, 1) := by decide +kernel
theorem dX3_open_16 : decode cX3_open 16 = .ok (.getfield 25, 3) := by decide +kernel
theorem dX3_open_19 : decode cX3_open 19 = .ok (.iconst 0, 1) := by decide +kernel
theorem dX3_open_20 : decode cX3_open 20 = .ok (.aload_n 0, 1) := by decide +kernel
theorem dX3_open_21 : decode cX3_open 21 = .ok (.getfield 25, 3) := by decide +kernel
theorem dX3_open_24 : decode cX3_open 24 = .ok (.arraylength, 1) := by decide +kernel
theorem dX3_open_25 : decode cX3_open 25 = .ok (.aload_n 0, 1) := by decide +kernel
theorem dX3_open_26 : decode cX3_open 26 = .ok (.getfield 22, 3) := by decide +kernel
theorem dX3_open_29 : decode cX3_open 29 = .ok (.isub, 1) := by decide +kernel
theorem dX3_open_30 : decode cX3_open 30 = .ok (.invokestatic 33, 3) := by decide +kernel
theorem dX3_open_33 : decode cX3_open 33 = .ok (.aload_n 0, 1) := by decide +kernel
theorem dX3_open_34 : decode cX3_open 34 = .ok (.aload_n 0, 1) := by decide +kernel
theorem dX3_open_35 : decode cX3_open 35 = .ok (.getfield 19, 3) := by decide +kernel
theorem dX3_open_38 : decode cX3_open 38 = .ok (.iconst 1, 1) := by decide +kernel
theorem dX3_open_39 : decode cX3_open 39 = .ok (.isub, 1) := by decide +kernel
theorem dX3_open_40 : decode cX3_open 40 = .ok (.putfield 7, 3) := by decide +kernel
theorem dX3_open_43 : decode cX3_open 43 = .ok (.aload_n 0, 1) := by decide +kernel
theorem dX3_open_44 : decode cX3_open 44 = .ok (.dup, 1) := by decide +kernel
theorem dX3_open_45 : decode cX3_open 45 = .ok (.getfield 7, 3) := by decide +kernel
theorem dX3_open_48 : decode cX3_open 48 = .ok (.iconst 1, 1) := by decide +kernel
theorem dX3_open_49 : decode cX3_open 49 = .ok (.iadd, 1) := by decide +kernel
theorem dX3_open_50 : decode cX3_open 50 = .ok (.putfield 7, 3) := by decide +kernel
theorem dX3_open_53 : decode cX3_open 53 = .ok (.return_, 1) := by decide +kernel
theorem dX3_set_0 : decode cX3_set 0 = .ok (.aload_n 0, 1) := by decide +kernel
theorem dX3_set_1 : decode cX3_set 1 = .ok (.getfield 25, 3) := by decide +kernel
theorem dX3_set_4 : decode cX3_set 4 = .ok (.aload_n 0, 1) := by decide +kernel
theorem dX3_set_5 : decode cX3_set 5 = .ok (.getfield 7, 3) := by decide +kernel
theorem dX3_set_8 : decode cX3_set 8 = .ok (.iconst 1, 1) := by decide +kernel
theorem dX3_set_9 : decode cX3_set 9 = .ok (.isub, 1) := by decide +kernel
theorem dX3_set_10 : decode cX3_set 10 = .ok (.aload_n 0, 1) := by decide +kernel
theorem dX3_set_11 : decode cX3_set 11 = .ok (.getfield 22, 3) := by decide +kernel
theorem dX3_set_14 : decode cX3_set 14 = .ok (.imul, 1) := by decide +kernel
theorem dX3_set_15 : decode cX3_set 15 = .ok (.iload_n 1, 1) := by decide +kernel
theorem dX3_set_16 : decode cX3_set 16 = .ok (.iadd, 1) := by decide +kernel
theorem dX3_set_17 : decode cX3_set 17 = .ok (.iload_n 2, 1) := by decide +kernel
theorem dX3_set_18 : decode cX3_set 18 = .ok (.invokestatic 39, 3) := by decide +kernel
theorem dX3_set_21 : decode cX3_set 21 = .ok (.return_, 1) := by decide +kernel
theorem dX3_fill_0 : decode cX3_fill 0 = .ok (.aload_n 0, 1) := by decide +kernel
theorem dX3_fill_1 : decode cX3_fill 1 = .ok (.iconst 0, 1) := by decide +kernel
theorem dX3_fill_2 : decode cX3_fill 2 = .ok (.iload_n 1, 1) := by decide +kernel
theorem dX3_fill_3 : decode cX3_fill 3 = .ok (.invokevirtual 45, 3) := by decide +kernel
theorem dX3_fill_6 : decode cX3_fill 6 = .ok (.aload_n 0, 1) := by decide +kernel
theorem dX3_fill_7 : decode cX3_fill 7 = .ok (.iconst 1, 1) := by decide +kernel
theorem dX3_fill_8 : decode cX3_fill 8 = .ok (.iload_n 2, 1) := by decide +kernel
theorem dX3_fill_9 : decode cX3_fill 9 = .ok (.invokevirtual 45, 3) := by decide +kernel
theorem dX3_fill_12 : decode cX3_fill 12 = .ok (.aload_n 0, 1) := by decide +kernel
theorem dX3_fill_13 : decode cX3_fill 13 = .ok (.iconst 2, 1) := by decide +kernel
theorem dX3_fill_14 : decode cX3_fill 14 = .ok (.iload_n 3, 1) := by decide +kernel
theorem dX3_fill_15 : decode cX3_fill 15 = .ok (.invokevirtual 45, 3) := by decide +kernel
theorem dX3_fill_18 : decode cX3_fill 18 = .ok (.aload_n 0, 1) := by decide +kernel
theorem dX3_fill_19 : decode cX3_fill 19 = .ok (.iconst 3, 1) := by decide +kernel
theorem dX3_fill_20 : decode cX3_fill 20 = .ok (.iload 4, 2) := by decide +kernel
theorem dX3_fill_22 : decode cX3_fill 22 = .ok (.invokevirtual 45, 3) := by decide +kernel
theorem dX3_fill_25 : decode cX3_fill 25 = .ok (.return_, 1) := by decide +kernel
theorem dX3_cell_0 : decode cX3_cell 0 = .ok (.aload_n 0, 1) := by decide +kernel
theorem dX3_cell_1 : decode cX3_cell 1 = .ok (.getfield 25, 3) := by decide +kernel
theorem dX3_cell_4 : decode cX3_cell 4 = .ok (.iload_n 1, 1) := by decide +kernel
theorem dX3_cell_5 : decode cX3_cell 5 = .ok (.aload_n 0, 1) := by decide +kernel
theorem dX3_cell_6 : decode cX3_cell 6 = .ok (.getfield 22, 3) := by decide +kernel
theorem dX3_cell_9 : decode cX3_cell 9 = .ok (.imul, 1) := by decide +kernel
theorem dX3_cell_10 : decode cX3_cell 10 = .ok (.iload_n 2, 1) := by decide +kernel
theorem dX3_cell_11 : decode cX3_cell 11 = .ok (.iadd, 1) := by decide +kernel
theorem dX3_cell_12 : decode cX3_cell 12 = .ok (.invokestatic 49, 3) := by decide +kernel
theorem dX3_cell_15 : decode cX3_cell 15 = .ok (.ireturn, 1) := by decide +kernel
theorem dX3_last_0 : decode cX3_last 0 = .ok (.aload_n 0, 1) := by decide +kernel
theorem dX3_last_1 : decode cX3_last 1 = .ok (.aload_n 0, 1) := by decide +kernel
theorem dX3_last_2 : decode cX3_last 2 = .ok (.getfield 7, 3) := by decide +kernel
theorem dX3_last_5 : decode cX3_last 5 = .ok (.iconst 1, 1) := by decide +kernel
theorem dX3_last_6 : decode cX3_last 6 = .ok (.isub, 1) := by decide +kernel
theorem dX3_last_7 : decode cX3_last 7 = .ok (.iload_n 1, 1) := by decide +kernel
theorem dX3_last_8 : decode cX3_last 8 = .ok (.invokevirtual 53, 3) := by decide +kernel
theorem dX3_last_11 : decode cX3_last 11 = .ok (.ireturn, 1) := by decide +kernel
theorem dX3_closeLast_0 : decode cX3_closeLast 0 = .ok (.aload_n 0, 1) := by decide +kernel
theorem dX3_closeLast_1 : decode cX3_closeLast 1 = .ok (.iconst 0, 1) := by decide +kernel
theorem dX3_closeLast_2 : decode cX3_closeLast 2 = .ok (.aload_n 0, 1) := by decide +kernel
theorem dX3_closeLast_3 : decode cX3_closeLast 3 = .ok (.getfield 7, 3) := by decide +kernel
theorem dX3_closeLast_6 : decode cX3_closeLast 6 = .ok (.iconst 1, 1) := by decide +kernel
theorem dX3_closeLast_7 : decode cX3_closeLast 7 = .ok (.isub, 1) := by decide +kernel
theorem dX3_closeLast_8 : decode cX3_closeLast 8 = .ok (.invokestatic 13, 3) := by decide +kernel
theorem dX3_closeLast_11 : decode cX3_closeLast 11 = .ok (.putfield 7, 3) := by decide +kernel
theorem dX3_closeLast_14 : decode cX3_closeLast 14 = .ok (.return_, 1) := by decide +kernel
theorem dX3_drop_0 : decode cX3_drop 0 = .ok (.aload_n 0, 1) := by decide +kernel
theorem dX3_drop_1 : decode cX3_drop 1 = .ok (.getfield 7, 3) := by decide +kernel
theorem dX3_drop_4 : decode cX3_drop 4 = .ok (.istore_n 1, 1) := by decide +kernel
theorem dX3_drop_5 : decode cX3_drop 5 = .ok (.aload_n 0, 1) := by decide +kernel
theorem dX3_drop_6 : decode cX3_drop 6 = .ok (.iconst 0, 1) := by decide +kernel
theorem dX3_drop_7 : decode cX3_drop 7 = .ok (.putfield 7, 3) := by decide +kernel
theorem dX3_drop_10 : decode cX3_drop 10 = .ok (.iload_n 1, 1) := by decide +kernel
theorem dX3_drop_11 : decode cX3_drop 11 = .ok (.ireturn, 1) := by decide +kernel
theorem dX3_takeFrom_0 : decode cX3_takeFrom 0 = .ok (.aload_n 0, 1) := by decide +kernel
theorem dX3_takeFrom_1 : decode cX3_takeFrom 1 = .ok (.aload_n 1, 1) := by decide +kernel
theorem dX3_takeFrom_2 : decode cX3_takeFrom 2 = .ok (.getfield 7, 3) := by decide +kernel
theorem dX3_takeFrom_5 : decode cX3_takeFrom 5 = .ok (.aload_n 0, 1) := by decide +kernel
theorem dX3_takeFrom_6 : decode cX3_takeFrom 6 = .ok (.getfield 19, 3) := by decide +kernel
theorem dX3_takeFrom_9 : decode cX3_takeFrom 9 = .ok (.invokestatic 56, 3) := by decide +kernel
theorem dX3_takeFrom_12 : decode cX3_takeFrom 12 = .ok (.putfield 7, 3) := by decide +kernel
theorem dX3_takeFrom_15 : decode cX3_takeFrom 15 = .ok (.aload_n 1, 1) := by decide +kernel
theorem dX3_takeFrom_16 : decode cX3_takeFrom 16 = .ok (.getfield 25, 3) := by decide +kernel
theorem dX3_takeFrom_19 : decode cX3_takeFrom 19 = .ok (.aload_n 0, 1) := by decide +kernel
theorem dX3_takeFrom_20 : decode cX3_takeFrom 20 = .ok (.getfield 25, 3) := by decide +kernel
theorem dX3_takeFrom_23 : decode cX3_takeFrom 23 = .ok (.invokestatic 59, 3) := by decide +kernel
theorem dX3_takeFrom_26 : decode cX3_takeFrom 26 = .ok (.return_, 1) := by decide +kernel
theorem dX3_mixInto_0 : decode cX3_mixInto 0 = .ok (.lload_n 1, 1) := by decide +kernel
theorem dX3_mixInto_1 : decode cX3_mixInto 1 = .ok (.lstore_n 3, 1) := by decide +kernel
theorem dX3_mixInto_2 : decode cX3_mixInto 2 = .ok (.iconst 0, 1) := by decide +kernel
theorem dX3_mixInto_3 : decode cX3_mixInto 3 = .ok (.istore 5, 2) := by decide +kernel
theorem dX3_mixInto_5 : decode cX3_mixInto 5 = .ok (.iload 5, 2) := by decide +kernel
theorem dX3_mixInto_7 : decode cX3_mixInto 7 = .ok (.aload_n 0, 1) := by decide +kernel
theorem dX3_mixInto_8 : decode cX3_mixInto 8 = .ok (.getfield 7, 3) := by decide +kernel
theorem dX3_mixInto_11 : decode cX3_mixInto 11 = .ok (.aload_n 0, 1) := by decide +kernel
theorem dX3_mixInto_12 : decode cX3_mixInto 12 = .ok (.getfield 22, 3) := by decide +kernel
theorem dX3_mixInto_15 : decode cX3_mixInto 15 = .ok (.imul, 1) := by decide +kernel
theorem dX3_mixInto_16 : decode cX3_mixInto 16 = .ok (.if_icmp .ge 26, 3) := by decide +kernel
theorem dX3_mixInto_19 : decode cX3_mixInto 19 = .ok (.ldc2_w 63, 3) := by decide +kernel
theorem dX3_mixInto_22 : decode cX3_mixInto 22 = .ok (.lload_n 3, 1) := by decide +kernel
theorem dX3_mixInto_23 : decode cX3_mixInto 23 = .ok (.lmul, 1) := by decide +kernel
theorem dX3_mixInto_24 : decode cX3_mixInto 24 = .ok (.aload_n 0, 1) := by decide +kernel
theorem dX3_mixInto_25 : decode cX3_mixInto 25 = .ok (.getfield 25, 3) := by decide +kernel
theorem dX3_mixInto_28 : decode cX3_mixInto 28 = .ok (.iload 5, 2) := by decide +kernel
theorem dX3_mixInto_30 : decode cX3_mixInto 30 = .ok (.invokestatic 49, 3) := by decide +kernel
theorem dX3_mixInto_33 : decode cX3_mixInto 33 = .ok (.i2l, 1) := by decide +kernel
theorem dX3_mixInto_34 : decode cX3_mixInto 34 = .ok (.ladd, 1) := by decide +kernel
theorem dX3_mixInto_35 : decode cX3_mixInto 35 = .ok (.lstore_n 3, 1) := by decide +kernel
theorem dX3_mixInto_36 : decode cX3_mixInto 36 = .ok (.iinc 5 1, 3) := by decide +kernel
theorem dX3_mixInto_39 : decode cX3_mixInto 39 = .ok (.goto (-34), 3) := by decide +kernel
theorem dX3_mixInto_42 : decode cX3_mixInto 42 = .ok (.lload_n 3, 1) := by decide +kernel
theorem dX3_mixInto_43 : decode cX3_mixInto 43 = .ok (.lreturn, 1) := by decide +kernel
theorem dX4_init_0 : decode cX4_init 0 = .ok (.aload_n 0, 1) := by decide +kernel
theorem dX4_init_1 : decode cX4_init 1 = .ok (.invokespecial 3, 3) := by decide +kernel
theorem dX4_init_4 : decode cX4_init 4 = .ok (.aload_n 0, 1) := by decide +kernel
theorem dX4_init_5 : decode cX4_init 5 = .ok (.bipush 24, 2) := by decide +kernel
theorem dX4_init_7 : decode cX4_init 7 = .ok (.newarray .int, 2) := by decide +kernel
theorem dX4_init_9 : decode cX4_init 9 = .ok (.putfield 9, 3) := by decide +kernel
theorem dX4_init_12 : decode cX4_init 12 = .ok (.aload_n 0, 1) := by decide +kernel
theorem dX4_init_13 : decode cX4_init 13 = .ok (.iconst 4, 1) := by decide +kernel
theorem dX4_init_14 : decode cX4_init 14 = .ok (.newarray .int, 2) := by decide +kernel
theorem dX4_init_16 : decode cX4_init 16 = .ok (.putfield 15, 3) := by decide +kernel
theorem dX4_init_19 : decode cX4_init 19 = .ok (.aload_n 0, 1) := by decide +kernel
theorem dX4_init_20 : decode cX4_init 20 = .ok (.bipush 6, 2) := by decide +kernel
theorem dX4_init_22 : decode cX4_init 22 = .ok (.newarray .int, 2) := by decide +kernel
theorem dX4_init_24 : decode cX4_init 24 = .ok (.putfield 18, 3) := by decide +kernel
theorem dX4_init_27 : decode cX4_init 27 = .ok (.aload_n 0, 1) := by decide +kernel
theorem dX4_init_28 : decode cX4_init 28 = .ok (.bipush 6, 2) := by decide +kernel
theorem dX4_init_30 : decode cX4_init 30 = .ok (.newarray .int, 2) := by decide +kernel
theorem dX4_init_32 : decode cX4_init 32 = .ok (.putfield 21, 3) := by decide +kernel
theorem dX4_init_35 : decode cX4_init 35 = .ok (.aload_n 0, 1) := by decide +kernel
theorem dX4_init_36 : decode cX4_init 36 = .ok (.iconst 0, 1) := by decide +kernel
theorem dX4_init_37 : decode cX4_init 37 = .ok (.putfield 24, 3) := by decide +kernel
theorem dX4_init_40 : decode cX4_init 40 = .ok (.aload_n 0, 1) := by decide +kernel
theorem dX4_init_41 : decode cX4_init 41 = .ok (.iconst 0, 1) := by decide +kernel
theorem dX4_init_42 : decode cX4_init 42 = .ok (.putfield 28, 3) := by decide +kernel
theorem dX4_init_45 : decode cX4_init 45 = .ok (.aload_n 0, 1) := by decide +kernel
theorem dX4_init_46 : decode cX4_init 46 = .ok (.iconst 0, 1) := by decide +kernel
theorem dX4_init_47 : decode cX4_init 47 = .ok (.putfield 31, 3) := by decide +kernel
theorem dX4_init_50 : decode cX4_init 50 = .ok (.return_, 1) := by decide +kernel
theorem dX4_findBest_0 : decode cX4_findBest 0 = .ok (.aload_n 0, 1) := by decide +kernel
theorem dX4_findBest_1 : decode cX4_findBest 1 = .ok (.aload_n 1, 1) := by decide +kernel
theorem dX4_findBest_2 : decode cX4_findBest 2 = .ok (.getfield 34, 3) := by decide +kernel
theorem dX4_findBest_5 : decode cX4_findBest 5 = .ok (.putfield 24, 3) := by decide +kernel
theorem dX4_findBest_8 : decode cX4_findBest 8 = .ok (.aload_n 0, 1) := by decide +kernel
theorem dX4_findBest_9 : decode cX4_findBest 9 = .ok (.aload_n 1, 1) := by decide +kernel
theorem dX4_findBest_10 : decode cX4_findBest 10 = .ok (.getfield 37, 3) := by decide +kernel
theorem dX4_findBest_13 : decode cX4_findBest 13 = .ok (.putfield 28, 3) := by decide +kernel
theorem dX4_findBest_16 : decode cX4_findBest 16 = .ok (.aload_n 0, 1) := by decide +kernel
theorem dX4_findBest_17 : decode cX4_findBest 17 = .ok (.iconst (-1), 1) := by decide +kernel
theorem dX4_findBest_18 : decode cX4_findBest 18 = .ok (.putfield 31, 3) := by decide +kernel
theorem dX4_findBest_21 : decode cX4_findBest 21 = .ok (.iconst 0, 1) := by decide +kernel
theorem dX4_findBest_22 : decode cX4_findBest 22 = .ok (.istore_n 2, 1) := by decide +kernel
theorem dX4_findBest_23 : decode cX4_findBest 23 = .ok (.iload_n 2, 1) := by decide +kernel
theorem dX4_findBest_24 : decode cX4_findBest 24 = .ok (.aload_n 0, 1) := by decide +kernel
theorem dX4_findBest_25 : decode cX4_findBest 25 = .ok (.getfield 24, 3) := by decide +kernel
theorem dX4_findBest_28 : decode cX4_findBest 28 = .ok (.if_icmp .ge 43, 3) := by decide +kernel
theorem dX4_findBest_31 : decode cX4_findBest 31 = .ok (.iconst 0, 1) := by decide +kernel
theorem dX4_findBest_32 : decode cX4_findBest 32 = .ok (.istore_n 3, 1) := by decide +kernel
theorem dX4_findBest_33 : decode cX4_findBest 33 = .ok (.iload_n 3, 1) := by decide +kernel
theorem dX4_findBest_34 : decode cX4_findBest 34 = .ok (.aload_n 0, 1) := by decide +kernel
theorem dX4_findBest_35 : decode cX4_findBest 35 = .ok (.getfield 28, 3) := by decide +kernel
theorem dX4_findBest_38 : decode cX4_findBest 38 = .ok (.if_icmp .ge 27, 3) := by decide +kernel
theorem dX4_findBest_41 : decode cX4_findBest 41 = .ok (.aload_n 0, 1) := by decide +kernel
theorem dX4_findBest_42 : decode cX4_findBest 42 = .ok (.getfield 9, 3) := by decide +kernel
theorem dX4_findBest_45 : decode cX4_findBest 45 = .ok (.iload_n 2, 1) := by decide +kernel
theorem dX4_findBest_46 : decode cX4_findBest 46 = .ok (.iconst 4, 1) := by decide +kernel
theorem dX4_findBest_47 : decode cX4_findBest 47 = .ok (.imul, 1) := by decide +kernel
theorem dX4_findBest_48 : decode cX4_findBest 48 = .ok (.iload_n 3, 1) := by decide +kernel
theorem dX4_findBest_49 : decode cX4_findBest 49 = .ok (.iadd, 1) := by decide +kernel
theorem dX4_findBest_50 : decode cX4_findBest 50 = .ok (.aload_n 1, 1) := by decide +kernel
theorem dX4_findBest_51 : decode cX4_findBest 51 = .ok (.iload_n 2, 1) := by decide +kernel
theorem dX4_findBest_52 : decode cX4_findBest 52 = .ok (.iload_n 3, 1) := by decide +kernel
theorem dX4_findBest_53 : decode cX4_findBest 53 = .ok (.invokevirtual 38, 3) := by decide +kernel
theorem dX4_findBest_56 : decode cX4_findBest 56 = .ok (.invokestatic 42, 3) := by decide +kernel
theorem dX4_findBest_59 : decode cX4_findBest 59 = .ok (.iinc 3 1, 3) := by decide +kernel
theorem dX4_findBest_62 : decode cX4_findBest 62 = .ok (.goto (-29), 3) := by decide +kernel
theorem dX4_findBest_65 : decode cX4_findBest 65 = .ok (.iinc 2 1, 3) := by decide +kernel
theorem dX4_findBest_68 : decode cX4_findBest 68 = .ok (.goto (-45), 3) := by decide +kernel
theorem dX4_findBest_71 : decode cX4_findBest 71 = .ok (.iconst 0, 1) := by decide +kernel
theorem dX4_findBest_72 : decode cX4_findBest 72 = .ok (.istore_n 2, 1) := by decide +kernel
theorem dX4_findBest_73 : decode cX4_findBest 73 = .ok (.iload_n 2, 1) := by decide +kernel
theorem dX4_findBest_74 : decode cX4_findBest 74 = .ok (.aload_n 0, 1) := by decide +kernel
theorem dX4_findBest_75 : decode cX4_findBest 75 = .ok (.getfield 28, 3) := by decide +kernel
theorem dX4_findBest_78 : decode cX4_findBest 78 = .ok (.if_icmp .ge 18, 3) := by decide +kernel
theorem dX4_findBest_81 : decode cX4_findBest 81 = .ok (.aload_n 0, 1) := by decide +kernel
theorem dX4_findBest_82 : decode cX4_findBest 82 = .ok (.getfield 15, 3) := by decide +kernel
theorem dX4_findBest_85 : decode cX4_findBest 85 = .ok (.iload_n 2, 1) := by decide +kernel
theorem dX4_findBest_86 : decode cX4_findBest 86 = .ok (.iconst 0, 1) := by decide +kernel
theorem dX4_findBest_87 : decode cX4_findBest 87 = .ok (.invokestatic 42, 3) := by decide +kernel
theorem dX4_findBest_90 : decode cX4_findBest 90 = .ok (.iinc 2 1, 3) := by decide +kernel
theorem dX4_findBest_93 : decode cX4_findBest 93 = .ok (.goto (-20), 3) := by decide +kernel
theorem dX4_findBest_96 : decode cX4_findBest 96 = .ok (.aload_n 0, 1) := by decide +kernel
theorem dX4_findBest_97 : decode cX4_findBest 97 = .ok (.iconst 0, 1) := by decide +kernel
theorem dX4_findBest_98 : decode cX4_findBest 98 = .ok (.iconst 0, 1) := by decide +kernel
theorem dX4_findBest_99 : decode cX4_findBest 99 = .ok (.invokestatic 46, 3) := by decide +kernel
theorem dX4_findBest_102 : decode cX4_findBest 102 = .ok (.return_, 1) := by decide +kernel
theorem dX4_settle_0 : decode cX4_settle 0 = .ok (.iload_n 1, 1) := by decide +kernel
theorem dX4_settle_1 : decode cX4_settle 1 = .ok (.aload_n 0, 1) := by decide +kernel
theorem dX4_settle_2 : decode cX4_settle 2 = .ok (.getfield 24, 3) := by decide +kernel
theorem dX4_settle_5 : decode cX4_settle 5 = .ok (.if_icmp .ge 9, 3) := by decide +kernel
theorem dX4_settle_8 : decode cX4_settle 8 = .ok (.iload_n 1, 1) := by decide +kernel
theorem dX4_settle_9 : decode cX4_settle 9 = .ok (.bipush 6, 2) := by decide +kernel
theorem dX4_settle_11 : decode cX4_settle 11 = .ok (.if_icmp .lt 9, 3) := by decide +kernel
theorem dX4_settle_14 : decode cX4_settle 14 = .ok (.aload_n 0, 1) := by decide +kernel
theorem dX4_settle_15 : decode cX4_settle 15 = .ok (.iload_n 2, 1) := by decide +kernel
theorem dX4_settle_16 : decode cX4_settle 16 = .ok (.invokevirtual 50, 3) := by decide +kernel
theorem dX4_settle_19 : decode cX4_settle 19 = .ok (.return_, 1) := by decide +kernel
theorem dX4_settle_20 : decode cX4_settle 20 = .ok (.iconst 0, 1) := by decide +kernel
theorem dX4_settle_21 : decode cX4_settle 21 = .ok (.istore_n 3, 1) := by decide +kernel
theorem dX4_settle_22 : decode cX4_settle 22 = .ok (.iconst 0, 1) := by decide +kernel
theorem dX4_settle_23 : decode cX4_settle 23 = .ok (.istore 4, 2) := by decide +kernel
theorem dX4_settle_25 : decode cX4_settle 25 = .ok (.iload 4, 2) := by decide +kernel
theorem dX4_settle_27 : decode cX4_settle 27 = .ok (.aload_n 0, 1) := by decide +kernel
theorem dX4_settle_28 : decode cX4_settle 28 = .ok (.getfield 28, 3) := by decide +kernel
theorem dX4_settle_31 : decode cX4_settle 31 = .ok (.if_icmp .ge 92, 3) := by decide +kernel
theorem dX4_settle_34 : decode cX4_settle 34 = .ok (.aload_n 0, 1) := by decide +kernel
theorem dX4_settle_35 : decode cX4_settle 35 = .ok (.getfield 9, 3) := by decide +kernel
theorem dX4_settle_38 : decode cX4_settle 38 = .ok (.iload_n 1, 1) := by decide +kernel
theorem dX4_settle_39 : decode cX4_settle 39 = .ok (.iconst 4, 1) := by decide +kernel
theorem dX4_settle_40 : decode cX4_settle 40 = .ok (.imul, 1) := by decide +kernel
theorem dX4_settle_41 : decode cX4_settle 41 = .ok (.iload 4, 2) := by decide +kernel
theorem dX4_settle_43 : decode cX4_settle 43 = .ok (.iadd, 1) := by decide +kernel
theorem dX4_settle_44 : decode cX4_settle 44 = .ok (.invokestatic 54, 3) := by decide +kernel
theorem dX4_settle_47 : decode cX4_settle 47 = .ok (.istore 5, 2) := by decide +kernel
theorem dX4_settle_49 : decode cX4_settle 49 = .ok (.iload 5, 2) := by decide +kernel
theorem dX4_settle_51 : decode cX4_settle 51 = .ok (.ifCond .le 66, 3) := by decide +kernel
theorem dX4_settle_54 : decode cX4_settle 54 = .ok (.aload_n 0, 1) := by decide +kernel
theorem dX4_settle_55 : decode cX4_settle 55 = .ok (.getfield 15, 3) := by decide +kernel
theorem dX4_settle_58 : decode cX4_settle 58 = .ok (.iload 4, 2) := by decide +kernel
theorem dX4_settle_60 : decode cX4_settle 60 = .ok (.invokestatic 54, 3) := by decide +kernel
theorem dX4_settle_63 : decode cX4_settle 63 = .ok (.istore 6, 2) := by decide +kernel
theorem dX4_settle_65 : decode cX4_settle 65 = .ok (.iconst 1, 1) := by decide +kernel
theorem dX4_settle_66 : decode cX4_settle 66 = .ok (.istore_n 3, 1) := by decide +kernel
theorem dX4_settle_67 : decode cX4_settle 67 = .ok (.aload_n 0, 1) := by decide +kernel
theorem dX4_settle_68 : decode cX4_settle 68 = .ok (.getfield 18, 3) := by decide +kernel
theorem dX4_settle_71 : decode cX4_settle 71 = .ok (.iload_n 1, 1) := by decide +kernel
theorem dX4_settle_72 : decode cX4_settle 72 = .ok (.iload 4, 2) := by decide +kernel
theorem dX4_settle_74 : decode cX4_settle 74 = .ok (.invokestatic 42, 3) := by decide +kernel
theorem dX4_settle_77 : decode cX4_settle 77 = .ok (.aload_n 0, 1) := by decide +kernel
theorem dX4_settle_78 : decode cX4_settle 78 = .ok (.getfield 15, 3) := by decide +kernel
theorem dX4_settle_81 : decode cX4_settle 81 = .ok (.iload 4, 2) := by decide +kernel
theorem dX4_settle_83 : decode cX4_settle 83 = .ok (.iload 6, 2) := by decide +kernel
theorem dX4_settle_85 : decode cX4_settle 85 = .ok (.iconst 1, 1) := by decide +kernel
theorem dX4_settle_86 : decode cX4_settle 86 = .ok (.iadd, 1) := by decide +kernel
theorem dX4_settle_87 : decode cX4_settle 87 = .ok (.invokestatic 42, 3) := by decide +kernel
theorem dX4_settle_90 : decode cX4_settle 90 = .ok (.aload_n 0, 1) := by decide +kernel
theorem dX4_settle_91 : decode cX4_settle 91 = .ok (.iload_n 1, 1) := by decide +kernel
theorem dX4_settle_92 : decode cX4_settle 92 = .ok (.iconst 1, 1) := by decide +kernel
theorem dX4_settle_93 : decode cX4_settle 93 = .ok (.iadd, 1) := by decide +kernel
theorem dX4_settle_94 : decode cX4_settle 94 = .ok (.iload_n 2, 1) := by decide +kernel
theorem dX4_settle_95 : decode cX4_settle 95 = .ok (.iload 5, 2) := by decide +kernel
theorem dX4_settle_97 : decode cX4_settle 97 = .ok (.iadd, 1) := by decide +kernel
theorem dX4_settle_98 : decode cX4_settle 98 = .ok (.iconst 2, 1) := by decide +kernel
theorem dX4_settle_99 : decode cX4_settle 99 = .ok (.iload 6, 2) := by decide +kernel
theorem dX4_settle_101 : decode cX4_settle 101 = .ok (.imul, 1) := by decide +kernel
theorem dX4_settle_102 : decode cX4_settle 102 = .ok (.iadd, 1) := by decide +kernel
theorem dX4_settle_103 : decode cX4_settle 103 = .ok (.invokestatic 46, 3) := by decide +kernel
theorem dX4_settle_106 : decode cX4_settle 106 = .ok (.aload_n 0, 1) := by decide +kernel
theorem dX4_settle_107 : decode cX4_settle 107 = .ok (.getfield 15, 3) := by decide +kernel
theorem dX4_settle_110 : decode cX4_settle 110 = .ok (.iload 4, 2) := by decide +kernel
theorem dX4_settle_112 : decode cX4_settle 112 = .ok (.iload 6, 2) := by decide +kernel
theorem dX4_settle_114 : decode cX4_settle 114 = .ok (.invokestatic 42, 3) := by decide +kernel
theorem dX4_settle_117 : decode cX4_settle 117 = .ok (.iinc 4 1, 3) := by decide +kernel
theorem dX4_settle_120 : decode cX4_settle 120 = .ok (.goto (-95), 3) := by decide +kernel
theorem dX4_settle_123 : decode cX4_settle 123 = .ok (.iload_n 3, 1) := by decide +kernel
theorem dX4_settle_124 : decode cX4_settle 124 = .ok (.ifCond .ne 20, 3) := by decide +kernel
theorem dX4_settle_127 : decode cX4_settle 127 = .ok (.aload_n 0, 1) := by decide +kernel
theorem dX4_settle_128 : decode cX4_settle 128 = .ok (.getfield 18, 3) := by decide +kernel
theorem dX4_settle_131 : decode cX4_settle 131 = .ok (.iload_n 1, 1) := by decide +kernel
theorem dX4_settle_132 : decode cX4_settle 132 = .ok (.iconst (-1), 1) := by decide +kernel
theorem dX4_settle_133 : decode cX4_settle 133 = .ok (.invokestatic 42, 3) := by decide +kernel
theorem dX4_settle_136 : decode cX4_settle 136 = .ok (.aload_n 0, 1) := by decide +kernel
theorem dX4_settle_137 : decode cX4_settle 137 = .ok (.iload_n 1, 1) := by decide +kernel
theorem dX4_settle_138 : decode cX4_settle 138 = .ok (.iconst 1, 1) := by decide +kernel
theorem dX4_settle_139 : decode cX4_settle 139 = .ok (.iadd, 1) := by decide +kernel
theorem dX4_settle_140 : decode cX4_settle 140 = .ok (.iload_n 2, 1) := by decide +kernel
theorem dX4_settle_141 : decode cX4_settle 141 = .ok (.invokestatic 46, 3) := by decide +kernel
theorem dX4_settle_144 : decode cX4_settle 144 = .ok (.return_, 1) := by decide +kernel
theorem dX4_keepIfMore_0 : decode cX4_keepIfMore 0 = .ok (.iload_n 1, 1) := by decide +kernel
theorem dX4_keepIfMore_1 : decode cX4_keepIfMore 1 = .ok (.aload_n 0, 1) := by decide +kernel
theorem dX4_keepIfMore_2 : decode cX4_keepIfMore 2 = .ok (.getfield 31, 3) := by decide +kernel
theorem dX4_keepIfMore_5 : decode cX4_keepIfMore 5 = .ok (.if_icmp .le 19, 3) := by decide +kernel
theorem dX4_keepIfMore_8 : decode cX4_keepIfMore 8 = .ok (.aload_n 0, 1) := by decide +kernel
theorem dX4_keepIfMore_9 : decode cX4_keepIfMore 9 = .ok (.iload_n 1, 1) := by decide +kernel
theorem dX4_keepIfMore_10 : decode cX4_keepIfMore 10 = .ok (.putfield 31, 3) := by decide +kernel
theorem dX4_keepIfMore_13 : decode cX4_keepIfMore 13 = .ok (.aload_n 0, 1) := by decide +kernel
theorem dX4_keepIfMore_14 : decode cX4_keepIfMore 14 = .ok (.getfield 18, 3) := by decide +kernel
theorem dX4_keepIfMore_17 : decode cX4_keepIfMore 17 = .ok (.aload_n 0, 1) := by decide +kernel
theorem dX4_keepIfMore_18 : decode cX4_keepIfMore 18 = .ok (.getfield 21, 3) := by decide +kernel
theorem dX4_keepIfMore_21 : decode cX4_keepIfMore 21 = .ok (.invokestatic 58, 3) := by decide +kernel
theorem dX4_keepIfMore_24 : decode cX4_keepIfMore 24 = .ok (.return_, 1) := by decide +kernel
theorem dX5_partSize_0 : decode cX5_partSize 0 = .ok (.iload_n 1, 1) := by decide +kernel
theorem dX5_partSize_1 : decode cX5_partSize 1 = .ok (.istore_n 3, 1) := by decide +kernel
theorem dX5_partSize_2 : decode cX5_partSize 2 = .ok (.iload_n 3, 1) := by decide +kernel
theorem dX5_partSize_3 : decode cX5_partSize 3 = .ok (.iconst 2, 1) := by decide +kernel
theorem dX5_partSize_4 : decode cX5_partSize 4 = .ok (.iload_n 2, 1) := by decide +kernel
theorem dX5_partSize_5 : decode cX5_partSize 5 = .ok (.imul, 1) := by decide +kernel
theorem dX5_partSize_6 : decode cX5_partSize 6 = .ok (.if_icmp .le 11, 3) := by decide +kernel
theorem dX5_partSize_9 : decode cX5_partSize 9 = .ok (.iload_n 3, 1) := by decide +kernel
theorem dX5_partSize_10 : decode cX5_partSize 10 = .ok (.iconst 2, 1) := by decide +kernel
theorem dX5_partSize_11 : decode cX5_partSize 11 = .ok (.iload_n 2, 1) := by decide +kernel
theorem dX5_partSize_12 : decode cX5_partSize 12 = .ok (.imul, 1) := by decide +kernel
theorem dX5_partSize_13 : decode cX5_partSize 13 = .ok (.isub, 1) := by decide +kernel
theorem dX5_partSize_14 : decode cX5_partSize 14 = .ok (.goto 4, 3) := by decide +kernel
theorem dX5_partSize_17 : decode cX5_partSize 17 = .ok (.iconst 1, 1) := by decide +kernel
theorem dX5_partSize_18 : decode cX5_partSize 18 = .ok (.istore 4, 2) := by decide +kernel
theorem dX5_partSize_20 : decode cX5_partSize 20 = .ok (.iload_n 3, 1) := by decide +kernel
theorem dX5_partSize_21 : decode cX5_partSize 21 = .ok (.iconst 1, 1) := by decide +kernel
theorem dX5_partSize_22 : decode cX5_partSize 22 = .ok (.iadd, 1) := by decide +kernel
theorem dX5_partSize_23 : decode cX5_partSize 23 = .ok (.iconst 2, 1) := by decide +kernel
theorem dX5_partSize_24 : decode cX5_partSize 24 = .ok (.idiv, 1) := by decide +kernel
theorem dX5_partSize_25 : decode cX5_partSize 25 = .ok (.istore 5, 2) := by decide +kernel
theorem dX5_partSize_27 : decode cX5_partSize 27 = .ok (.iload_n 0, 1) := by decide +kernel
theorem dX5_partSize_28 : decode cX5_partSize 28 = .ok (.tableswitch 72 1 5 #[36, 39, 42, 56, 60], 36) := by decide +kernel
theorem dX5_partSize_64 : decode cX5_partSize 64 = .ok (.iload 4, 2) := by decide +kernel
theorem dX5_partSize_66 : decode cX5_partSize 66 = .ok (.ireturn, 1) := by decide +kernel
theorem dX5_partSize_67 : decode cX5_partSize 67 = .ok (.iload 5, 2) := by decide +kernel
theorem dX5_partSize_69 : decode cX5_partSize 69 = .ok (.ireturn, 1) := by decide +kernel
theorem dX5_partSize_70 : decode cX5_partSize 70 = .ok (.iload_n 2, 1) := by decide +kernel
theorem dX5_partSize_71 : decode cX5_partSize 71 = .ok (.iconst 2, 1) := by decide +kernel
theorem dX5_partSize_72 : decode cX5_partSize 72 = .ok (.irem, 1) := by decide +kernel
theorem dX5_partSize_73 : decode cX5_partSize 73 = .ok (.iconst 1, 1) := by decide +kernel
theorem dX5_partSize_74 : decode cX5_partSize 74 = .ok (.if_icmp .ne 7, 3) := by decide +kernel
theorem dX5_partSize_77 : decode cX5_partSize 77 = .ok (.iconst 0, 1) := by decide +kernel
theorem dX5_partSize_78 : decode cX5_partSize 78 = .ok (.goto 5, 3) := by decide +kernel
theorem dX5_partSize_81 : decode cX5_partSize 81 = .ok (.iload 4, 2) := by decide +kernel
theorem dX5_partSize_83 : decode cX5_partSize 83 = .ok (.ireturn, 1) := by decide +kernel
theorem dX5_partSize_84 : decode cX5_partSize 84 = .ok (.iload_n 3, 1) := by decide +kernel
theorem dX5_partSize_85 : decode cX5_partSize 85 = .ok (.iload_n 2, 1) := by decide +kernel
theorem dX5_partSize_86 : decode cX5_partSize 86 = .ok (.iadd, 1) := by decide +kernel
theorem dX5_partSize_87 : decode cX5_partSize 87 = .ok (.ireturn, 1) := by decide +kernel
theorem dX5_partSize_88 : decode cX5_partSize 88 = .ok (.iload_n 2, 1) := by decide +kernel
theorem dX5_partSize_89 : decode cX5_partSize 89 = .ok (.iconst 2, 1) := by decide +kernel
theorem dX5_partSize_90 : decode cX5_partSize 90 = .ok (.if_icmp .lt 7, 3) := by decide +kernel
theorem dX5_partSize_93 : decode cX5_partSize 93 = .ok (.iconst 1, 1) := by decide +kernel
theorem dX5_partSize_94 : decode cX5_partSize 94 = .ok (.goto 5, 3) := by decide +kernel
theorem dX5_partSize_97 : decode cX5_partSize 97 = .ok (.iload 5, 2) := by decide +kernel
theorem dX5_partSize_99 : decode cX5_partSize 99 = .ok (.ireturn, 1) := by decide +kernel
theorem dX5_partSize_100 : decode cX5_partSize 100 = .ok (.iload_n 3, 1) := by decide +kernel
theorem dX5_partSize_101 : decode cX5_partSize 101 = .ok (.ireturn, 1) := by decide +kernel
theorem dX5_least_0 : decode cX5_least 0 = .ok (.iload_n 1, 1) := by decide +kernel
theorem dX5_least_1 : decode cX5_least 1 = .ok (.istore_n 3, 1) := by decide +kernel
theorem dX5_least_2 : decode cX5_least 2 = .ok (.iload_n 3, 1) := by decide +kernel
theorem dX5_least_3 : decode cX5_least 3 = .ok (.iconst 3, 1) := by decide +kernel
theorem dX5_least_4 : decode cX5_least 4 = .ok (.if_icmp .le 9, 3) := by decide +kernel
theorem dX5_least_7 : decode cX5_least 7 = .ok (.iload_n 3, 1) := by decide +kernel
theorem dX5_least_8 : decode cX5_least 8 = .ok (.iconst 3, 1) := by decide +kernel
theorem dX5_least_9 : decode cX5_least 9 = .ok (.isub, 1) := by decide +kernel
theorem dX5_least_10 : decode cX5_least 10 = .ok (.goto 4, 3) := by decide +kernel
theorem dX5_least_13 : decode cX5_least 13 = .ok (.iconst 1, 1) := by decide +kernel
theorem dX5_least_14 : decode cX5_least 14 = .ok (.istore 4, 2) := by decide +kernel
theorem dX5_least_16 : decode cX5_least 16 = .ok (.iload_n 3, 1) := by decide +kernel
theorem dX5_least_17 : decode cX5_least 17 = .ok (.iconst 4, 1) := by decide +kernel
theorem dX5_least_18 : decode cX5_least 18 = .ok (.iadd, 1) := by decide +kernel
theorem dX5_least_19 : decode cX5_least 19 = .ok (.istore 5, 2) := by decide +kernel
theorem dX5_least_21 : decode cX5_least 21 = .ok (.iload 4, 2) := by decide +kernel
theorem dX5_least_23 : decode cX5_least 23 = .ok (.iload_n 2, 1) := by decide +kernel
theorem dX5_least_24 : decode cX5_least 24 = .ok (.if_icmp .le 10, 3) := by decide +kernel
theorem dX5_least_27 : decode cX5_least 27 = .ok (.iload 4, 2) := by decide +kernel
theorem dX5_least_29 : decode cX5_least 29 = .ok (.iload_n 2, 1) := by decide +kernel
theorem dX5_least_30 : decode cX5_least 30 = .ok (.isub, 1) := by decide +kernel
theorem dX5_least_31 : decode cX5_least 31 = .ok (.goto 4, 3) := by decide +kernel
theorem dX5_least_34 : decode cX5_least 34 = .ok (.iconst 1, 1) := by decide +kernel
theorem dX5_least_35 : decode cX5_least 35 = .ok (.istore 6, 2) := by decide +kernel
theorem dX5_least_37 : decode cX5_least 37 = .ok (.iload_n 0, 1) := by decide +kernel
theorem dX5_least_38 : decode cX5_least 38 = .ok (.tableswitch 55 1 5 #[34, 37, 40, 43, 48], 34) := by decide +kernel
theorem dX5_least_72 : decode cX5_least 72 = .ok (.iload 4, 2) := by decide +kernel
theorem dX5_least_74 : decode cX5_least 74 = .ok (.ireturn, 1) := by decide +kernel
theorem dX5_least_75 : decode cX5_least 75 = .ok (.iload 5, 2) := by decide +kernel
theorem dX5_least_77 : decode cX5_least 77 = .ok (.ireturn, 1) := by decide +kernel
theorem dX5_least_78 : decode cX5_least 78 = .ok (.iload 6, 2) := by decide +kernel
theorem dX5_least_80 : decode cX5_least 80 = .ok (.ireturn, 1) := by decide +kernel
theorem dX5_least_81 : decode cX5_least 81 = .ok (.iconst 2, 1) := by decide +kernel
theorem dX5_least_82 : decode cX5_least 82 = .ok (.iload 5, 2) := by decide +kernel
theorem dX5_least_84 : decode cX5_least 84 = .ok (.imul, 1) := by decide +kernel
theorem dX5_least_85 : decode cX5_least 85 = .ok (.ireturn, 1) := by decide +kernel
theorem dX5_least_86 : decode cX5_least 86 = .ok (.iload 6, 2) := by decide +kernel
theorem dX5_least_88 : decode cX5_least 88 = .ok (.iconst 1, 1) := by decide +kernel
theorem dX5_least_89 : decode cX5_least 89 = .ok (.iadd, 1) := by decide +kernel
theorem dX5_least_90 : decode cX5_least 90 = .ok (.iconst 2, 1) := by decide +kernel
theorem dX5_least_91 : decode cX5_least 91 = .ok (.idiv, 1) := by decide +kernel
theorem dX5_least_92 : decode cX5_least 92 = .ok (.ireturn, 1) := by decide +kernel
theorem dX5_least_93 : decode cX5_least 93 = .ok (.iload_n 3, 1) := by decide +kernel
theorem dX5_least_94 : decode cX5_least 94 = .ok (.ireturn, 1) := by decide +kernel
theorem dX5_partsFrom_0 : decode cX5_partsFrom 0 = .ok (.iconst 0, 1) := by decide +kernel
theorem dX5_partsFrom_1 : decode cX5_partsFrom 1 = .ok (.istore_n 3, 1) := by decide +kernel
theorem dX5_partsFrom_2 : decode cX5_partsFrom 2 = .ok (.iconst 0, 1) := by decide +kernel
theorem dX5_partsFrom_3 : decode cX5_partsFrom 3 = .ok (.istore 4, 2) := by decide +kernel
theorem dX5_partsFrom_5 : decode cX5_partsFrom 5 = .ok (.iload 4, 2) := by decide +kernel
theorem dX5_partsFrom_7 : decode cX5_partsFrom 7 = .ok (.iconst 5, 1) := by decide +kernel
theorem dX5_partsFrom_8 : decode cX5_partsFrom 8 = .ok (.if_icmp .ge 27, 3) := by decide +kernel
theorem dX5_partsFrom_11 : decode cX5_partsFrom 11 = .ok (.iload_n 0, 1) := by decide +kernel
theorem dX5_partsFrom_12 : decode cX5_partsFrom 12 = .ok (.iload_n 1, 1) := by decide +kernel
theorem dX5_partsFrom_13 : decode cX5_partsFrom 13 = .ok (.iload 4, 2) := by decide +kernel
theorem dX5_partsFrom_15 : decode cX5_partsFrom 15 = .ok (.invokestatic 9, 3) := by decide +kernel
theorem dX5_partsFrom_18 : decode cX5_partsFrom 18 = .ok (.iload_n 2, 1) := by decide +kernel
theorem dX5_partsFrom_19 : decode cX5_partsFrom 19 = .ok (.if_icmp .lt 10, 3) := by decide +kernel
theorem dX5_partsFrom_22 : decode cX5_partsFrom 22 = .ok (.iload_n 3, 1) := by decide +kernel
theorem dX5_partsFrom_23 : decode cX5_partsFrom 23 = .ok (.iconst 1, 1) := by decide +kernel
theorem dX5_partsFrom_24 : decode cX5_partsFrom 24 = .ok (.iload 4, 2) := by decide +kernel
theorem dX5_partsFrom_26 : decode cX5_partsFrom 26 = .ok (.ishl, 1) := by decide +kernel
theorem dX5_partsFrom_27 : decode cX5_partsFrom 27 = .ok (.ior, 1) := by decide +kernel
theorem dX5_partsFrom_28 : decode cX5_partsFrom 28 = .ok (.istore_n 3, 1) := by decide +kernel
theorem dX5_partsFrom_29 : decode cX5_partsFrom 29 = .ok (.iinc 4 1, 3) := by decide +kernel
theorem dX5_partsFrom_32 : decode cX5_partsFrom 32 = .ok (.goto (-27), 3) := by decide +kernel
theorem dX5_partsFrom_35 : decode cX5_partsFrom 35 = .ok (.iload_n 3, 1) := by decide +kernel
theorem dX5_partsFrom_36 : decode cX5_partsFrom 36 = .ok (.ireturn, 1) := by decide +kernel
theorem dX6_init_0 : decode cX6_init 0 = .ok (.aload_n 0, 1) := by decide +kernel
theorem dX6_init_1 : decode cX6_init 1 = .ok (.invokespecial 3, 3) := by decide +kernel
theorem dX6_init_4 : decode cX6_init 4 = .ok (.aload_n 0, 1) := by decide +kernel
theorem dX6_init_5 : decode cX6_init 5 = .ok (.bipush 6, 2) := by decide +kernel
theorem dX6_init_7 : decode cX6_init 7 = .ok (.newarray .int, 2) := by decide +kernel
theorem dX6_init_9 : decode cX6_init 9 = .ok (.putfield 9, 3) := by decide +kernel
theorem dX6_init_12 : decode cX6_init 12 = .ok (.aload_n 0, 1) := by decide +kernel
theorem dX6_init_13 : decode cX6_init 13 = .ok (.bipush 6, 2) := by decide +kernel
theorem dX6_init_15 : decode cX6_init 15 = .ok (.newarray .int, 2) := by decide +kernel
theorem dX6_init_17 : decode cX6_init 17 = .ok (.putfield 15, 3) := by decide +kernel
theorem dX6_init_20 : decode cX6_init 20 = .ok (.aload_n 0, 1) := by decide +kernel
theorem dX6_init_21 : decode cX6_init 21 = .ok (.bipush 6, 2) := by decide +kernel
theorem dX6_init_23 : decode cX6_init 23 = .ok (.newarray .int, 2) := by decide +kernel
theorem dX6_init_25 : decode cX6_init 25 = .ok (.putfield 18, 3) := by decide +kernel
theorem dX6_init_28 : decode cX6_init 28 = .ok (.aload_n 0, 1) := by decide +kernel
theorem dX6_init_29 : decode cX6_init 29 = .ok (.iconst 4, 1) := by decide +kernel
theorem dX6_init_30 : decode cX6_init 30 = .ok (.newarray .int, 2) := by decide +kernel
theorem dX6_init_32 : decode cX6_init 32 = .ok (.putfield 21, 3) := by decide +kernel
theorem dX6_init_35 : decode cX6_init 35 = .ok (.aload_n 0, 1) := by decide +kernel
theorem dX6_init_36 : decode cX6_init 36 = .ok (.iconst 4, 1) := by decide +kernel
theorem dX6_init_37 : decode cX6_init 37 = .ok (.newarray .int, 2) := by decide +kernel
theorem dX6_init_39 : decode cX6_init 39 = .ok (.putfield 24, 3) := by decide +kernel
theorem dX6_init_42 : decode cX6_init 42 = .ok (.aload_n 0, 1) := by decide +kernel
theorem dX6_init_43 : decode cX6_init 43 = .ok (.iconst 4, 1) := by decide +kernel
theorem dX6_init_44 : decode cX6_init 44 = .ok (.newarray .int, 2) := by decide +kernel
theorem dX6_init_46 : decode cX6_init 46 = .ok (.putfield 27, 3) := by decide +kernel
theorem dX6_init_49 : decode cX6_init 49 = .ok (.aload_n 0, 1) := by decide +kernel
theorem dX6_init_50 : decode cX6_init 50 = .ok (.new 30, 3) := by decide +kernel
theorem dX6_init_53 : decode cX6_init 53 = .ok (.dup, 1) := by decide +kernel
theorem dX6_init_54 : decode cX6_init 54 = .ok (.iconst 5, 1) := by decide +kernel
theorem dX6_init_55 : decode cX6_init 55 = .ok (.iconst 4, 1) := by decide +kernel
theorem dX6_init_56 : decode cX6_init 56 = .ok (.invokespecial 32, 3) := by decide +kernel
theorem dX6_init_59 : decode cX6_init 59 = .ok (.putfield 35, 3) := by decide +kernel
theorem dX6_init_62 : decode cX6_init 62 = .ok (.aload_n 0, 1) := by decide +kernel
theorem dX6_init_63 : decode cX6_init 63 = .ok (.new 30, 3) := by decide +kernel
theorem dX6_init_66 : decode cX6_init 66 = .ok (.dup, 1) := by decide +kernel
theorem dX6_init_67 : decode cX6_init 67 = .ok (.bipush 6, 2) := by decide +kernel
theorem dX6_init_69 : decode cX6_init 69 = .ok (.iconst 4, 1) := by decide +kernel
theorem dX6_init_70 : decode cX6_init 70 = .ok (.invokespecial 32, 3) := by decide +kernel
theorem dX6_init_73 : decode cX6_init 73 = .ok (.putfield 39, 3) := by decide +kernel
theorem dX6_init_76 : decode cX6_init 76 = .ok (.aload_n 0, 1) := by decide +kernel
theorem dX6_init_77 : decode cX6_init 77 = .ok (.new 30, 3) := by decide +kernel
theorem dX6_init_80 : decode cX6_init 80 = .ok (.dup, 1) := by decide +kernel
theorem dX6_init_81 : decode cX6_init 81 = .ok (.bipush 6, 2) := by decide +kernel
theorem dX6_init_83 : decode cX6_init 83 = .ok (.iconst 5, 1) := by decide +kernel
theorem dX6_init_84 : decode cX6_init 84 = .ok (.invokespecial 32, 3) := by decide +kernel
theorem dX6_init_87 : decode cX6_init 87 = .ok (.putfield 42, 3) := by decide +kernel
theorem dX6_init_90 : decode cX6_init 90 = .ok (.aload_n 0, 1) := by decide +kernel
theorem dX6_init_91 : decode cX6_init 91 = .ok (.new 30, 3) := by decide +kernel
theorem dX6_init_94 : decode cX6_init 94 = .ok (.dup, 1) := by decide +kernel
theorem dX6_init_95 : decode cX6_init 95 = .ok (.bipush 8, 2) := by decide +kernel
theorem dX6_init_97 : decode cX6_init 97 = .ok (.bipush 12, 2) := by decide +kernel
theorem dX6_init_99 : decode cX6_init 99 = .ok (.invokespecial 32, 3) := by decide +kernel
theorem dX6_init_102 : decode cX6_init 102 = .ok (.putfield 45, 3) := by decide +kernel
theorem dX6_init_105 : decode cX6_init 105 = .ok (.aload_n 0, 1) := by decide +kernel
theorem dX6_init_106 : decode cX6_init 106 = .ok (.iconst 0, 1) := by decide +kernel
theorem dX6_init_107 : decode cX6_init 107 = .ok (.putfield 48, 3) := by decide +kernel
theorem dX6_init_110 : decode cX6_init 110 = .ok (.aload_n 0, 1) := by decide +kernel
theorem dX6_init_111 : decode cX6_init 111 = .ok (.iconst 0, 1) := by decide +kernel
theorem dX6_init_112 : decode cX6_init 112 = .ok (.putfield 52, 3) := by decide +kernel
theorem dX6_init_115 : decode cX6_init 115 = .ok (.aload_n 0, 1) := by decide +kernel
theorem dX6_init_116 : decode cX6_init 116 = .ok (.iconst 0, 1) := by decide +kernel
theorem dX6_init_117 : decode cX6_init 117 = .ok (.putfield 55, 3) := by decide +kernel
theorem dX6_init_120 : decode cX6_init 120 = .ok (.aload_n 0, 1) := by decide +kernel
theorem dX6_init_121 : decode cX6_init 121 = .ok (.iconst 0, 1) := by decide +kernel
theorem dX6_init_122 : decode cX6_init 122 = .ok (.putfield 58, 3) := by decide +kernel
theorem dX6_init_125 : decode cX6_init 125 = .ok (.return_, 1) := by decide +kernel
theorem dX6_startAnew_0 : decode cX6_startAnew 0 = .ok (.aload_n 0, 1) := by decide +kernel
theorem dX6_startAnew_1 : decode cX6_startAnew 1 = .ok (.iconst 0, 1) := by decide +kernel
theorem dX6_startAnew_2 : decode cX6_startAnew 2 = .ok (.putfield 48, 3) := by decide +kernel
theorem dX6_startAnew_5 : decode cX6_startAnew 5 = .ok (.aload_n 0, 1) := by decide +kernel
theorem dX6_startAnew_6 : decode cX6_startAnew 6 = .ok (.iconst 0, 1) := by decide +kernel
theorem dX6_startAnew_7 : decode cX6_startAnew 7 = .ok (.putfield 52, 3) := by decide +kernel
theorem dX6_startAnew_10 : decode cX6_startAnew 10 = .ok (.aload_n 0, 1) := by decide +kernel
theorem dX6_startAnew_11 : decode cX6_startAnew 11 = .ok (.iload_n 1, 1) := by decide +kernel
theorem dX6_startAnew_12 : decode cX6_startAnew 12 = .ok (.putfield 55, 3) := by decide +kernel
theorem dX6_startAnew_15 : decode cX6_startAnew 15 = .ok (.aload_n 0, 1) := by decide +kernel
theorem dX6_startAnew_16 : decode cX6_startAnew 16 = .ok (.iconst 0, 1) := by decide +kernel
theorem dX6_startAnew_17 : decode cX6_startAnew 17 = .ok (.putfield 58, 3) := by decide +kernel
theorem dX6_startAnew_20 : decode cX6_startAnew 20 = .ok (.aload_n 0, 1) := by decide +kernel
theorem dX6_startAnew_21 : decode cX6_startAnew 21 = .ok (.getfield 35, 3) := by decide +kernel
theorem dX6_startAnew_24 : decode cX6_startAnew 24 = .ok (.invokevirtual 61, 3) := by decide +kernel
theorem dX6_startAnew_27 : decode cX6_startAnew 27 = .ok (.pop, 1) := by decide +kernel
theorem dX6_startAnew_28 : decode cX6_startAnew 28 = .ok (.aload_n 0, 1) := by decide +kernel
theorem dX6_startAnew_29 : decode cX6_startAnew 29 = .ok (.getfield 39, 3) := by decide +kernel
theorem dX6_startAnew_32 : decode cX6_startAnew 32 = .ok (.invokevirtual 61, 3) := by decide +kernel
theorem dX6_startAnew_35 : decode cX6_startAnew 35 = .ok (.pop, 1) := by decide +kernel
theorem dX6_startAnew_36 : decode cX6_startAnew 36 = .ok (.aload_n 0, 1) := by decide +kernel
theorem dX6_startAnew_37 : decode cX6_startAnew 37 = .ok (.getfield 42, 3) := by decide +kernel
theorem dX6_startAnew_40 : decode cX6_startAnew 40 = .ok (.invokevirtual 61, 3) := by decide +kernel
theorem dX6_startAnew_43 : decode cX6_startAnew 43 = .ok (.pop, 1) := by decide +kernel
theorem dX6_startAnew_44 : decode cX6_startAnew 44 = .ok (.aload_n 0, 1) := by decide +kernel
theorem dX6_startAnew_45 : decode cX6_startAnew 45 = .ok (.getfield 45, 3) := by decide +kernel
theorem dX6_startAnew_48 : decode cX6_startAnew 48 = .ok (.invokevirtual 61, 3) := by decide +kernel
theorem dX6_startAnew_51 : decode cX6_startAnew 51 = .ok (.pop, 1) := by decide +kernel
theorem dX6_startAnew_52 : decode cX6_startAnew 52 = .ok (.return_, 1) := by decide +kernel
theorem dX6_takeFrom_0 : decode cX6_takeFrom 0 = .ok (.aload_n 1, 1) := by decide +kernel
theorem dX6_takeFrom_1 : decode cX6_takeFrom 1 = .ok (.getfield 9, 3) := by decide +kernel
theorem dX6_takeFrom_4 : decode cX6_takeFrom 4 = .ok (.aload_n 0, 1) := by decide +kernel
theorem dX6_takeFrom_5 : decode cX6_takeFrom 5 = .ok (.getfield 9, 3) := by decide +kernel
theorem dX6_takeFrom_8 : decode cX6_takeFrom 8 = .ok (.invokestatic 65, 3) := by decide +kernel
theorem dX6_takeFrom_11 : decode cX6_takeFrom 11 = .ok (.aload_n 1, 1) := by decide +kernel
theorem dX6_takeFrom_12 : decode cX6_takeFrom 12 = .ok (.getfield 15, 3) := by decide +kernel
theorem dX6_takeFrom_15 : decode cX6_takeFrom 15 = .ok (.aload_n 0, 1) := by decide +kernel
theorem dX6_takeFrom_16 : decode cX6_takeFrom 16 = .ok (.getfield 15, 3) := by decide +kernel
theorem dX6_takeFrom_19 : decode cX6_takeFrom 19 = .ok (.invokestatic 65, 3) := by decide +kernel
theorem dX6_takeFrom_22 : decode cX6_takeFrom 22 = .ok (.aload_n 1, 1) := by decide +kernel
theorem dX6_takeFrom_23 : decode cX6_takeFrom 23 = .ok (.getfield 18, 3) := by decide +kernel
theorem dX6_takeFrom_26 : decode cX6_takeFrom 26 = .ok (.aload_n 0, 1) := by decide +kernel
theorem dX6_takeFrom_27 : decode cX6_takeFrom 27 = .ok (.getfield 18, 3) := by decide +kernel
theorem dX6_takeFrom_30 : decode cX6_takeFrom 30 = .ok (.invokestatic 65, 3) := by decide +kernel
theorem dX6_takeFrom_33 : decode cX6_takeFrom 33 = .ok (.aload_n 1, 1) := by decide +kernel
theorem dX6_takeFrom_34 : decode cX6_takeFrom 34 = .ok (.getfield 21, 3) := by decide +kernel
theorem dX6_takeFrom_37 : decode cX6_takeFrom 37 = .ok (.aload_n 0, 1) := by decide +kernel
theorem dX6_takeFrom_38 : decode cX6_takeFrom 38 = .ok (.getfield 21, 3) := by decide +kernel
theorem dX6_takeFrom_41 : decode cX6_takeFrom 41 = .ok (.invokestatic 65, 3) := by decide +kernel
theorem dX6_takeFrom_44 : decode cX6_takeFrom 44 = .ok (.aload_n 1, 1) := by decide +kernel
theorem dX6_takeFrom_45 : decode cX6_takeFrom 45 = .ok (.getfield 24, 3) := by decide +kernel
theorem dX6_takeFrom_48 : decode cX6_takeFrom 48 = .ok (.aload_n 0, 1) := by decide +kernel
theorem dX6_takeFrom_49 : decode cX6_takeFrom 49 = .ok (.getfield 24, 3) := by decide +kernel
theorem dX6_takeFrom_52 : decode cX6_takeFrom 52 = .ok (.invokestatic 65, 3) := by decide +kernel
theorem dX6_takeFrom_55 : decode cX6_takeFrom 55 = .ok (.aload_n 1, 1) := by decide +kernel
theorem dX6_takeFrom_56 : decode cX6_takeFrom 56 = .ok (.getfield 27, 3) := by decide +kernel
theorem dX6_takeFrom_59 : decode cX6_takeFrom 59 = .ok (.aload_n 0, 1) := by decide +kernel
theorem dX6_takeFrom_60 : decode cX6_takeFrom 60 = .ok (.getfield 27, 3) := by decide +kernel
theorem dX6_takeFrom_63 : decode cX6_takeFrom 63 = .ok (.invokestatic 65, 3) := by decide +kernel
theorem dX6_takeFrom_66 : decode cX6_takeFrom 66 = .ok (.aload_n 0, 1) := by decide +kernel
theorem dX6_takeFrom_67 : decode cX6_takeFrom 67 = .ok (.getfield 35, 3) := by decide +kernel
theorem dX6_takeFrom_70 : decode cX6_takeFrom 70 = .ok (.aload_n 1, 1) := by decide +kernel
theorem dX6_takeFrom_71 : decode cX6_takeFrom 71 = .ok (.getfield 35, 3) := by decide +kernel
theorem dX6_takeFrom_74 : decode cX6_takeFrom 74 = .ok (.invokevirtual 69, 3) := by decide +kernel
theorem dX6_takeFrom_77 : decode cX6_takeFrom 77 = .ok (.aload_n 0, 1) := by decide +kernel
theorem dX6_takeFrom_78 : decode cX6_takeFrom 78 = .ok (.getfield 39, 3) := by decide +kernel
theorem dX6_takeFrom_81 : decode cX6_takeFrom 81 = .ok (.aload_n 1, 1) := by decide +kernel
theorem dX6_takeFrom_82 : decode cX6_takeFrom 82 = .ok (.getfield 39, 3) := by decide +kernel
theorem dX6_takeFrom_85 : decode cX6_takeFrom 85 = .ok (.invokevirtual 69, 3) := by decide +kernel
theorem dX6_takeFrom_88 : decode cX6_takeFrom 88 = .ok (.aload_n 0, 1) := by decide +kernel
theorem dX6_takeFrom_89 : decode cX6_takeFrom 89 = .ok (.getfield 42, 3) := by decide +kernel
theorem dX6_takeFrom_92 : decode cX6_takeFrom 92 = .ok (.aload_n 1, 1) := by decide +kernel
theorem dX6_takeFrom_93 : decode cX6_takeFrom 93 = .ok (.getfield 42, 3) := by decide +kernel
theorem dX6_takeFrom_96 : decode cX6_takeFrom 96 = .ok (.invokevirtual 69, 3) := by decide +kernel
theorem dX6_takeFrom_99 : decode cX6_takeFrom 99 = .ok (.aload_n 0, 1) := by decide +kernel
theorem dX6_takeFrom_100 : decode cX6_takeFrom 100 = .ok (.getfield 45, 3) := by decide +kernel
theorem dX6_takeFrom_103 : decode cX6_takeFrom 103 = .ok (.aload_n 1, 1) := by decide +kernel
theorem dX6_takeFrom_104 : decode cX6_takeFrom 104 = .ok (.getfield 45, 3) := by decide +kernel
theorem dX6_takeFrom_107 : decode cX6_takeFrom 107 = .ok (.invokevirtual 69, 3) := by decide +kernel
theorem dX6_takeFrom_110 : decode cX6_takeFrom 110 = .ok (.aload_n 0, 1) := by decide +kernel
theorem dX6_takeFrom_111 : decode cX6_takeFrom 111 = .ok (.aload_n 1, 1) := by decide +kernel
theorem dX6_takeFrom_112 : decode cX6_takeFrom 112 = .ok (.getfield 48, 3) := by decide +kernel
theorem dX6_takeFrom_115 : decode cX6_takeFrom 115 = .ok (.putfield 48, 3) := by decide +kernel
theorem dX6_takeFrom_118 : decode cX6_takeFrom 118 = .ok (.aload_n 0, 1) := by decide +kernel
theorem dX6_takeFrom_119 : decode cX6_takeFrom 119 = .ok (.aload_n 1, 1) := by decide +kernel
theorem dX6_takeFrom_120 : decode cX6_takeFrom 120 = .ok (.getfield 52, 3) := by decide +kernel
theorem dX6_takeFrom_123 : decode cX6_takeFrom 123 = .ok (.putfield 52, 3) := by decide +kernel
theorem dX6_takeFrom_126 : decode cX6_takeFrom 126 = .ok (.aload_n 0, 1) := by decide +kernel
theorem dX6_takeFrom_127 : decode cX6_takeFrom 127 = .ok (.aload_n 1, 1) := by decide +kernel
theorem dX6_takeFrom_128 : decode cX6_takeFrom 128 = .ok (.getfield 55, 3) := by decide +kernel
theorem dX6_takeFrom_131 : decode cX6_takeFrom 131 = .ok (.putfield 55, 3) := by decide +kernel
theorem dX6_takeFrom_134 : decode cX6_takeFrom 134 = .ok (.aload_n 0, 1) := by decide +kernel
theorem dX6_takeFrom_135 : decode cX6_takeFrom 135 = .ok (.aload_n 1, 1) := by decide +kernel
theorem dX6_takeFrom_136 : decode cX6_takeFrom 136 = .ok (.getfield 58, 3) := by decide +kernel
theorem dX6_takeFrom_139 : decode cX6_takeFrom 139 = .ok (.putfield 58, 3) := by decide +kernel
theorem dX6_takeFrom_142 : decode cX6_takeFrom 142 = .ok (.return_, 1) := by decide +kernel
theorem dX6_hasGuest_0 : decode cX6_hasGuest 0 = .ok (.iload_n 1, 1) := by decide +kernel
theorem dX6_hasGuest_1 : decode cX6_hasGuest 1 = .ok (.iconst 0, 1) := by decide +kernel
theorem dX6_hasGuest_2 : decode cX6_hasGuest 2 = .ok (.aload_n 0, 1) := by decide +kernel
theorem dX6_hasGuest_3 : decode cX6_hasGuest 3 = .ok (.getfield 48, 3) := by decide +kernel
theorem dX6_hasGuest_6 : decode cX6_hasGuest 6 = .ok (.iconst 1, 1) := by decide +kernel
theorem dX6_hasGuest_7 : decode cX6_hasGuest 7 = .ok (.isub, 1) := by decide +kernel
theorem dX6_hasGuest_8 : decode cX6_hasGuest 8 = .ok (.invokestatic 73, 3) := by decide +kernel
theorem dX6_hasGuest_11 : decode cX6_hasGuest 11 = .ok (.ireturn, 1) := by decide +kernel
theorem dX6_hasHouse_0 : decode cX6_hasHouse 0 = .ok (.iload_n 1, 1) := by decide +kernel
theorem dX6_hasHouse_1 : decode cX6_hasHouse 1 = .ok (.iconst 0, 1) := by decide +kernel
theorem dX6_hasHouse_2 : decode cX6_hasHouse 2 = .ok (.aload_n 0, 1) := by decide +kernel
theorem dX6_hasHouse_3 : decode cX6_hasHouse 3 = .ok (.getfield 52, 3) := by decide +kernel
theorem dX6_hasHouse_6 : decode cX6_hasHouse 6 = .ok (.iconst 1, 1) := by decide +kernel
theorem dX6_hasHouse_7 : decode cX6_hasHouse 7 = .ok (.isub, 1) := by decide +kernel
theorem dX6_hasHouse_8 : decode cX6_hasHouse 8 = .ok (.invokestatic 73, 3) := by decide +kernel
theorem dX6_hasHouse_11 : decode cX6_hasHouse 11 = .ok (.ireturn, 1) := by decide +kernel
theorem dX6_addGuest_0 : decode cX6_addGuest 0 = .ok (.aload_n 0, 1) := by decide +kernel
theorem dX6_addGuest_1 : decode cX6_addGuest 1 = .ok (.getfield 9, 3) := by decide +kernel
theorem dX6_addGuest_4 : decode cX6_addGuest 4 = .ok (.aload_n 0, 1) := by decide +kernel
theorem dX6_addGuest_5 : decode cX6_addGuest 5 = .ok (.getfield 48, 3) := by decide +kernel
theorem dX6_addGuest_8 : decode cX6_addGuest 8 = .ok (.iload_n 1, 1) := by decide +kernel
theorem dX6_addGuest_9 : decode cX6_addGuest 9 = .ok (.invokestatic 77, 3) := by decide +kernel
theorem dX6_addGuest_12 : decode cX6_addGuest 12 = .ok (.aload_n 0, 1) := by decide +kernel
theorem dX6_addGuest_13 : decode cX6_addGuest 13 = .ok (.getfield 15, 3) := by decide +kernel
theorem dX6_addGuest_16 : decode cX6_addGuest 16 = .ok (.aload_n 0, 1) := by decide +kernel
theorem dX6_addGuest_17 : decode cX6_addGuest 17 = .ok (.getfield 48, 3) := by decide +kernel
theorem dX6_addGuest_20 : decode cX6_addGuest 20 = .ok (.iload_n 2, 1) := by decide +kernel
theorem dX6_addGuest_21 : decode cX6_addGuest 21 = .ok (.invokestatic 77, 3) := by decide +kernel
theorem dX6_addGuest_24 : decode cX6_addGuest 24 = .ok (.aload_n 0, 1) := by decide +kernel
theorem dX6_addGuest_25 : decode cX6_addGuest 25 = .ok (.getfield 18, 3) := by decide +kernel
theorem dX6_addGuest_28 : decode cX6_addGuest 28 = .ok (.aload_n 0, 1) := by decide +kernel
theorem dX6_addGuest_29 : decode cX6_addGuest 29 = .ok (.getfield 48, 3) := by decide +kernel
theorem dX6_addGuest_32 : decode cX6_addGuest 32 = .ok (.iconst (-1), 1) := by decide +kernel
theorem dX6_addGuest_33 : decode cX6_addGuest 33 = .ok (.invokestatic 77, 3) := by decide +kernel
theorem dX6_addGuest_36 : decode cX6_addGuest 36 = .ok (.aload_n 0, 1) := by decide +kernel
theorem dX6_addGuest_37 : decode cX6_addGuest 37 = .ok (.getfield 45, 3) := by decide +kernel
theorem dX6_addGuest_40 : decode cX6_addGuest 40 = .ok (.invokevirtual 61, 3) := by decide +kernel
theorem dX6_addGuest_43 : decode cX6_addGuest 43 = .ok (.pop, 1) := by decide +kernel
theorem dX6_addGuest_44 : decode cX6_addGuest 44 = .ok (.aload_n 0, 1) := by decide +kernel
theorem dX6_addGuest_45 : decode cX6_addGuest 45 = .ok (.dup, 1) := by decide +kernel
theorem dX6_addGuest_46 : decode cX6_addGuest 46 = .ok (.getfield 48, 3) := by decide +kernel
theorem dX6_addGuest_49 : decode cX6_addGuest 49 = .ok (.iconst 1, 1) := by decide +kernel
theorem dX6_addGuest_50 : decode cX6_addGuest 50 = .ok (.iadd, 1) := by decide +kernel
theorem dX6_addGuest_51 : decode cX6_addGuest 51 = .ok (.putfield 48, 3) := by decide +kernel
theorem dX6_addGuest_54 : decode cX6_addGuest 54 = .ok (.aload_n 0, 1) := by decide +kernel
theorem dX6_addGuest_55 : decode cX6_addGuest 55 = .ok (.getfield 48, 3) := by decide +kernel
theorem dX6_addGuest_58 : decode cX6_addGuest 58 = .ok (.iconst 1, 1) := by decide +kernel
theorem dX6_addGuest_59 : decode cX6_addGuest 59 = .ok (.isub, 1) := by decide +kernel
theorem dX6_addGuest_60 : decode cX6_addGuest 60 = .ok (.ireturn, 1) := by decide +kernel
theorem dX6_addHouse_0 : decode cX6_addHouse 0 = .ok (.aload_n 0, 1) := by decide +kernel
theorem dX6_addHouse_1 : decode cX6_addHouse 1 = .ok (.getfield 21, 3) := by decide +kernel
theorem dX6_addHouse_4 : decode cX6_addHouse 4 = .ok (.aload_n 0, 1) := by decide +kernel
theorem dX6_addHouse_5 : decode cX6_addHouse 5 = .ok (.getfield 52, 3) := by decide +kernel
theorem dX6_addHouse_8 : decode cX6_addHouse 8 = .ok (.iload_n 1, 1) := by decide +kernel
theorem dX6_addHouse_9 : decode cX6_addHouse 9 = .ok (.invokestatic 77, 3) := by decide +kernel
theorem dX6_addHouse_12 : decode cX6_addHouse 12 = .ok (.aload_n 0, 1) := by decide +kernel
theorem dX6_addHouse_13 : decode cX6_addHouse 13 = .ok (.getfield 24, 3) := by decide +kernel
theorem dX6_addHouse_16 : decode cX6_addHouse 16 = .ok (.aload_n 0, 1) := by decide +kernel
theorem dX6_addHouse_17 : decode cX6_addHouse 17 = .ok (.getfield 52, 3) := by decide +kernel
theorem dX6_addHouse_20 : decode cX6_addHouse 20 = .ok (.iload_n 2, 1) := by decide +kernel
theorem dX6_addHouse_21 : decode cX6_addHouse 21 = .ok (.invokestatic 77, 3) := by decide +kernel
theorem dX6_addHouse_24 : decode cX6_addHouse 24 = .ok (.aload_n 0, 1) := by decide +kernel
theorem dX6_addHouse_25 : decode cX6_addHouse 25 = .ok (.getfield 27, 3) := by decide +kernel
theorem dX6_addHouse_28 : decode cX6_addHouse 28 = .ok (.aload_n 0, 1) := by decide +kernel
theorem dX6_addHouse_29 : decode cX6_addHouse 29 = .ok (.getfield 52, 3) := by decide +kernel
theorem dX6_addHouse_32 : decode cX6_addHouse 32 = .ok (.iconst 0, 1) := by decide +kernel
theorem dX6_addHouse_33 : decode cX6_addHouse 33 = .ok (.invokestatic 77, 3) := by decide +kernel
theorem dX6_addHouse_36 : decode cX6_addHouse 36 = .ok (.aload_n 0, 1) := by decide +kernel
theorem dX6_addHouse_37 : decode cX6_addHouse 37 = .ok (.getfield 45, 3) := by decide +kernel
theorem dX6_addHouse_40 : decode cX6_addHouse 40 = .ok (.invokevirtual 61, 3) := by decide +kernel
theorem dX6_addHouse_43 : decode cX6_addHouse 43 = .ok (.pop, 1) := by decide +kernel
theorem dX6_addHouse_44 : decode cX6_addHouse 44 = .ok (.aload_n 0, 1) := by decide +kernel
theorem dX6_addHouse_45 : decode cX6_addHouse 45 = .ok (.dup, 1) := by decide +kernel
theorem dX6_addHouse_46 : decode cX6_addHouse 46 = .ok (.getfield 52, 3) := by decide +kernel
theorem dX6_addHouse_49 : decode cX6_addHouse 49 = .ok (.iconst 1, 1) := by decide +kernel
theorem dX6_addHouse_50 : decode cX6_addHouse 50 = .ok (.iadd, 1) := by decide +kernel
theorem dX6_addHouse_51 : decode cX6_addHouse 51 = .ok (.putfield 52, 3) := by decide +kernel
theorem dX6_addHouse_54 : decode cX6_addHouse 54 = .ok (.aload_n 0, 1) := by decide +kernel
theorem dX6_addHouse_55 : decode cX6_addHouse 55 = .ok (.getfield 52, 3) := by decide +kernel
theorem dX6_addHouse_58 : decode cX6_addHouse 58 = .ok (.iconst 1, 1) := by decide +kernel
theorem dX6_addHouse_59 : decode cX6_addHouse 59 = .ok (.isub, 1) := by decide +kernel
theorem dX6_addHouse_60 : decode cX6_addHouse 60 = .ok (.ireturn, 1) := by decide +kernel
theorem dX6_awayFromHome_0 : decode cX6_awayFromHome 0 = .ok (.iconst 0, 1) := by decide +kernel
theorem dX6_awayFromHome_1 : decode cX6_awayFromHome 1 = .ok (.istore_n 1, 1) := by decide +kernel
theorem dX6_awayFromHome_2 : decode cX6_awayFromHome 2 = .ok (.iconst 0, 1) := by decide +kernel
theorem dX6_awayFromHome_3 : decode cX6_awayFromHome 3 = .ok (.istore_n 2, 1) := by decide +kernel
theorem dX6_awayFromHome_4 : decode cX6_awayFromHome 4 = .ok (.iload_n 2, 1) := by decide +kernel
theorem dX6_awayFromHome_5 : decode cX6_awayFromHome 5 = .ok (.aload_n 0, 1) := by decide +kernel
theorem dX6_awayFromHome_6 : decode cX6_awayFromHome 6 = .ok (.getfield 48, 3) := by decide +kernel
theorem dX6_awayFromHome_9 : decode cX6_awayFromHome 9 = .ok (.if_icmp .ge 24, 3) := by decide +kernel
theorem dX6_awayFromHome_12 : decode cX6_awayFromHome 12 = .ok (.aload_n 0, 1) := by decide +kernel
theorem dX6_awayFromHome_13 : decode cX6_awayFromHome 13 = .ok (.getfield 18, 3) := by decide +kernel
theorem dX6_awayFromHome_16 : decode cX6_awayFromHome 16 = .ok (.iload_n 2, 1) := by decide +kernel
theorem dX6_awayFromHome_17 : decode cX6_awayFromHome 17 = .ok (.invokestatic 81, 3) := by decide +kernel
theorem dX6_awayFromHome_20 : decode cX6_awayFromHome 20 = .ok (.iconst (-1), 1) := by decide +kernel
theorem dX6_awayFromHome_21 : decode cX6_awayFromHome 21 = .ok (.if_icmp .eq 6, 3) := by decide +kernel
theorem dX6_awayFromHome_24 : decode cX6_awayFromHome 24 = .ok (.iinc 1 1, 3) := by decide +kernel
theorem dX6_awayFromHome_27 : decode cX6_awayFromHome 27 = .ok (.iinc 2 1, 3) := by decide +kernel
theorem dX6_awayFromHome_30 : decode cX6_awayFromHome 30 = .ok (.goto (-26), 3) := by decide +kernel
theorem dX6_awayFromHome_33 : decode cX6_awayFromHome 33 = .ok (.iload_n 1, 1) := by decide +kernel
theorem dX6_awayFromHome_34 : decode cX6_awayFromHome 34 = .ok (.ireturn, 1) := by decide +kernel
theorem dX6_allLiking_0 : decode cX6_allLiking 0 = .ok (.iconst 0, 1) := by decide +kernel
theorem dX6_allLiking_1 : decode cX6_allLiking 1 = .ok (.istore_n 1, 1) := by decide +kernel
theorem dX6_allLiking_2 : decode cX6_allLiking 2 = .ok (.iconst 0, 1) := by decide +kernel
theorem dX6_allLiking_3 : decode cX6_allLiking 3 = .ok (.istore_n 2, 1) := by decide +kernel
theorem dX6_allLiking_4 : decode cX6_allLiking 4 = .ok (.iload_n 2, 1) := by decide +kernel
theorem dX6_allLiking_5 : decode cX6_allLiking 5 = .ok (.aload_n 0, 1) := by decide +kernel
theorem dX6_allLiking_6 : decode cX6_allLiking 6 = .ok (.getfield 52, 3) := by decide +kernel
theorem dX6_allLiking_9 : decode cX6_allLiking 9 = .ok (.if_icmp .ge 20, 3) := by decide +kernel
theorem dX6_allLiking_12 : decode cX6_allLiking 12 = .ok (.iload_n 1, 1) := by decide +kernel
theorem dX6_allLiking_13 : decode cX6_allLiking 13 = .ok (.aload_n 0, 1) := by decide +kernel
theorem dX6_allLiking_14 : decode cX6_allLiking 14 = .ok (.getfield 27, 3) := by decide +kernel
theorem dX6_allLiking_17 : decode cX6_allLiking 17 = .ok (.iload_n 2, 1) := by decide +kernel
theorem dX6_allLiking_18 : decode cX6_allLiking 18 = .ok (.invokestatic 81, 3) := by decide +kernel
theorem dX6_allLiking_21 : decode cX6_allLiking 21 = .ok (.iadd, 1) := by decide +kernel
theorem dX6_allLiking_22 : decode cX6_allLiking 22 = .ok (.istore_n 1, 1) := by decide +kernel
theorem dX6_allLiking_23 : decode cX6_allLiking 23 = .ok (.iinc 2 1, 3) := by decide +kernel
theorem dX6_allLiking_26 : decode cX6_allLiking 26 = .ok (.goto (-22), 3) := by decide +kernel
theorem dX6_allLiking_29 : decode cX6_allLiking 29 = .ok (.iload_n 1, 1) := by decide +kernel
theorem dX6_allLiking_30 : decode cX6_allLiking 30 = .ok (.ireturn, 1) := by decide +kernel
theorem dX6_leastAt_0 : decode cX6_leastAt 0 = .ok (.aload_n 0, 1) := by decide +kernel
theorem dX6_leastAt_1 : decode cX6_leastAt 1 = .ok (.getfield 21, 3) := by decide +kernel
theorem dX6_leastAt_4 : decode cX6_leastAt 4 = .ok (.iload_n 1, 1) := by decide +kernel
theorem dX6_leastAt_5 : decode cX6_leastAt 5 = .ok (.invokestatic 81, 3) := by decide +kernel
theorem dX6_leastAt_8 : decode cX6_leastAt 8 = .ok (.aload_n 0, 1) := by decide +kernel
theorem dX6_leastAt_9 : decode cX6_leastAt 9 = .ok (.getfield 24, 3) := by decide +kernel
theorem dX6_leastAt_12 : decode cX6_leastAt 12 = .ok (.iload_n 1, 1) := by decide +kernel
theorem dX6_leastAt_13 : decode cX6_leastAt 13 = .ok (.invokestatic 81, 3) := by decide +kernel
theorem dX6_leastAt_16 : decode cX6_leastAt 16 = .ok (.aload_n 0, 1) := by decide +kernel
theorem dX6_leastAt_17 : decode cX6_leastAt 17 = .ok (.getfield 55, 3) := by decide +kernel
theorem dX6_leastAt_20 : decode cX6_leastAt 20 = .ok (.invokestatic 85, 3) := by decide +kernel
theorem dX6_leastAt_23 : decode cX6_leastAt 23 = .ok (.ireturn, 1) := by decide +kernel
theorem dX6_stayBits_0 : decode cX6_stayBits 0 = .ok (.aload_n 0, 1) := by decide +kernel
theorem dX6_stayBits_1 : decode cX6_stayBits 1 = .ok (.iload_n 2, 1) := by decide +kernel
theorem dX6_stayBits_2 : decode cX6_stayBits 2 = .ok (.invokevirtual 91, 3) := by decide +kernel
theorem dX6_stayBits_5 : decode cX6_stayBits 5 = .ok (.ifCond .eq 30, 3) := by decide +kernel
theorem dX6_stayBits_8 : decode cX6_stayBits 8 = .ok (.aload_n 0, 1) := by decide +kernel
theorem dX6_stayBits_9 : decode cX6_stayBits 9 = .ok (.getfield 9, 3) := by decide +kernel
theorem dX6_stayBits_12 : decode cX6_stayBits 12 = .ok (.iload_n 1, 1) := by decide +kernel
theorem dX6_stayBits_13 : decode cX6_stayBits 13 = .ok (.invokestatic 81, 3) := by decide +kernel
theorem dX6_stayBits_16 : decode cX6_stayBits 16 = .ok (.aload_n 0, 1) := by decide +kernel
theorem dX6_stayBits_17 : decode cX6_stayBits 17 = .ok (.getfield 15, 3) := by decide +kernel
theorem dX6_stayBits_20 : decode cX6_stayBits 20 = .ok (.iload_n 1, 1) := by decide +kernel
theorem dX6_stayBits_21 : decode cX6_stayBits 21 = .ok (.invokestatic 81, 3) := by decide +kernel
theorem dX6_stayBits_24 : decode cX6_stayBits 24 = .ok (.aload_n 0, 1) := by decide +kernel
theorem dX6_stayBits_25 : decode cX6_stayBits 25 = .ok (.iload_n 2, 1) := by decide +kernel
theorem dX6_stayBits_26 : decode cX6_stayBits 26 = .ok (.invokevirtual 95, 3) := by decide +kernel
theorem dX6_stayBits_29 : decode cX6_stayBits 29 = .ok (.invokestatic 99, 3) := by decide +kernel
theorem dX6_stayBits_32 : decode cX6_stayBits 32 = .ok (.goto 4, 3) := by decide +kernel
theorem dX6_stayBits_35 : decode cX6_stayBits 35 = .ok (.iconst 0, 1) := by decide +kernel
theorem dX6_stayBits_36 : decode cX6_stayBits 36 = .ok (.ireturn, 1) := by decide +kernel
theorem dX6_stayCount_0 : decode cX6_stayCount 0 = .ok (.aload_n 0, 1) := by decide +kernel
theorem dX6_stayCount_1 : decode cX6_stayCount 1 = .ok (.iload_n 1, 1) := by decide +kernel
theorem dX6_stayCount_2 : decode cX6_stayCount 2 = .ok (.iload_n 2, 1) := by decide +kernel
theorem dX6_stayCount_3 : decode cX6_stayCount 3 = .ok (.invokevirtual 102, 3) := by decide +kernel
theorem dX6_stayCount_6 : decode cX6_stayCount 6 = .ok (.invokestatic 106, 3) := by decide +kernel
theorem dX6_stayCount_9 : decode cX6_stayCount 9 = .ok (.ireturn, 1) := by decide +kernel
theorem dX6_stayCountByMesh_0 : decode cX6_stayCountByMesh 0 = .ok (.aload_n 0, 1) := by decide +kernel
theorem dX6_stayCountByMesh_1 : decode cX6_stayCountByMesh 1 = .ok (.getfield 21, 3) := by decide +kernel
theorem dX6_stayCountByMesh_4 : decode cX6_stayCountByMesh 4 = .ok (.iload_n 2, 1) := by decide +kernel
theorem dX6_stayCountByMesh_5 : decode cX6_stayCountByMesh 5 = .ok (.invokestatic 81, 3) := by decide +kernel
theorem dX6_stayCountByMesh_8 : decode cX6_stayCountByMesh 8 = .ok (.iload_n 3, 1) := by decide +kernel
theorem dX6_stayCountByMesh_9 : decode cX6_stayCountByMesh 9 = .ok (.aload_n 0, 1) := by decide +kernel
theorem dX6_stayCountByMesh_10 : decode cX6_stayCountByMesh 10 = .ok (.getfield 55, 3) := by decide +kernel
theorem dX6_stayCountByMesh_13 : decode cX6_stayCountByMesh 13 = .ok (.invokestatic 85, 3) := by decide +kernel
theorem dX6_stayCountByMesh_16 : decode cX6_stayCountByMesh 16 = .ok (.istore 4, 2) := by decide +kernel
theorem dX6_stayCountByMesh_18 : decode cX6_stayCountByMesh 18 = .ok (.aload_n 0, 1) := by decide +kernel
theorem dX6_stayCountByMesh_19 : decode cX6_stayCountByMesh 19 = .ok (.getfield 9, 3) := by decide +kernel
theorem dX6_stayCountByMesh_22 : decode cX6_stayCountByMesh 22 = .ok (.iload_n 1, 1) := by decide +kernel
theorem dX6_stayCountByMesh_23 : decode cX6_stayCountByMesh 23 = .ok (.invokestatic 81, 3) := by decide +kernel
theorem dX6_stayCountByMesh_26 : decode cX6_stayCountByMesh 26 = .ok (.aload_n 0, 1) := by decide +kernel
theorem dX6_stayCountByMesh_27 : decode cX6_stayCountByMesh 27 = .ok (.getfield 15, 3) := by decide +kernel
theorem dX6_stayCountByMesh_30 : decode cX6_stayCountByMesh 30 = .ok (.iload_n 1, 1) := by decide +kernel
theorem dX6_stayCountByMesh_31 : decode cX6_stayCountByMesh 31 = .ok (.invokestatic 81, 3) := by decide +kernel
theorem dX6_stayCountByMesh_34 : decode cX6_stayCountByMesh 34 = .ok (.iload 4, 2) := by decide +kernel
theorem dX6_stayCountByMesh_36 : decode cX6_stayCountByMesh 36 = .ok (.invokestatic 99, 3) := by decide +kernel
theorem dX6_stayCountByMesh_39 : decode cX6_stayCountByMesh 39 = .ok (.invokestatic 106, 3) := by decide +kernel
theorem dX6_stayCountByMesh_42 : decode cX6_stayCountByMesh 42 = .ok (.ireturn, 1) := by decide +kernel
theorem dX6_stayCountByWet_0 : decode cX6_stayCountByWet 0 = .ok (.aload_n 0, 1) := by decide +kernel
theorem dX6_stayCountByWet_1 : decode cX6_stayCountByWet 1 = .ok (.iload_n 1, 1) := by decide +kernel
theorem dX6_stayCountByWet_2 : decode cX6_stayCountByWet 2 = .ok (.aload_n 0, 1) := by decide +kernel
theorem dX6_stayCountByWet_3 : decode cX6_stayCountByWet 3 = .ok (.getfield 15, 3) := by decide +kernel
theorem dX6_stayCountByWet_6 : decode cX6_stayCountByWet 6 = .ok (.iload_n 1, 1) := by decide +kernel
theorem dX6_stayCountByWet_7 : decode cX6_stayCountByWet 7 = .ok (.invokestatic 81, 3) := by decide +kernel
theorem dX6_stayCountByWet_10 : decode cX6_stayCountByWet 10 = .ok (.iload_n 2, 1) := by decide +kernel
theorem dX6_stayCountByWet_11 : decode cX6_stayCountByWet 11 = .ok (.iload_n 3, 1) := by decide +kernel
theorem dX6_stayCountByWet_12 : decode cX6_stayCountByWet 12 = .ok (.invokevirtual 111, 3) := by decide +kernel
theorem dX6_stayCountByWet_15 : decode cX6_stayCountByWet 15 = .ok (.ireturn, 1) := by decide +kernel
theorem dX6_stayCountBySize_0 : decode cX6_stayCountBySize 0 = .ok (.aload_n 0, 1) := by decide +kernel
theorem dX6_stayCountBySize_1 : decode cX6_stayCountBySize 1 = .ok (.getfield 21, 3) := by decide +kernel
theorem dX6_stayCountBySize_4 : decode cX6_stayCountBySize 4 = .ok (.iload_n 3, 1) := by decide +kernel
theorem dX6_stayCountBySize_5 : decode cX6_stayCountBySize 5 = .ok (.invokestatic 81, 3) := by decide +kernel
theorem dX6_stayCountBySize_8 : decode cX6_stayCountBySize 8 = .ok (.aload_n 0, 1) := by decide +kernel
theorem dX6_stayCountBySize_9 : decode cX6_stayCountBySize 9 = .ok (.getfield 24, 3) := by decide +kernel
theorem dX6_stayCountBySize_12 : decode cX6_stayCountBySize 12 = .ok (.iload_n 3, 1) := by decide +kernel
theorem dX6_stayCountBySize_13 : decode cX6_stayCountBySize 13 = .ok (.invokestatic 81, 3) := by decide +kernel
theorem dX6_stayCountBySize_16 : decode cX6_stayCountBySize 16 = .ok (.iload 4, 2) := by decide +kernel
theorem dX6_stayCountBySize_18 : decode cX6_stayCountBySize 18 = .ok (.invokestatic 85, 3) := by decide +kernel
theorem dX6_stayCountBySize_21 : decode cX6_stayCountBySize 21 = .ok (.istore 5, 2) := by decide +kernel
theorem dX6_stayCountBySize_23 : decode cX6_stayCountBySize 23 = .ok (.aload_n 0, 1) := by decide +kernel
theorem dX6_stayCountBySize_24 : decode cX6_stayCountBySize 24 = .ok (.getfield 9, 3) := by decide +kernel
theorem dX6_stayCountBySize_27 : decode cX6_stayCountBySize 27 = .ok (.iload_n 1, 1) := by decide +kernel
theorem dX6_stayCountBySize_28 : decode cX6_stayCountBySize 28 = .ok (.invokestatic 81, 3) := by decide +kernel
theorem dX6_stayCountBySize_31 : decode cX6_stayCountBySize 31 = .ok (.iload_n 2, 1) := by decide +kernel
theorem dX6_stayCountBySize_32 : decode cX6_stayCountBySize 32 = .ok (.iload 5, 2) := by decide +kernel
theorem dX6_stayCountBySize_34 : decode cX6_stayCountBySize 34 = .ok (.invokestatic 99, 3) := by decide +kernel
theorem dX6_stayCountBySize_37 : decode cX6_stayCountBySize 37 = .ok (.invokestatic 106, 3) := by decide +kernel
theorem dX6_stayCountBySize_40 : decode cX6_stayCountBySize 40 = .ok (.ireturn, 1) := by decide +kernel
theorem dX6_stayRound_0 : decode cX6_stayRound 0 = .ok (.iconst 0, 1) := by decide +kernel
theorem dX6_stayRound_1 : decode cX6_stayRound 1 = .ok (.istore_n 3, 1) := by decide +kernel
theorem dX6_stayRound_2 : decode cX6_stayRound 2 = .ok (.iconst 0, 1) := by decide +kernel
theorem dX6_stayRound_3 : decode cX6_stayRound 3 = .ok (.istore 4, 2) := by decide +kernel
theorem dX6_stayRound_5 : decode cX6_stayRound 5 = .ok (.iload 4, 2) := by decide +kernel
theorem dX6_stayRound_7 : decode cX6_stayRound 7 = .ok (.aload_n 0, 1) := by decide +kernel
theorem dX6_stayRound_8 : decode cX6_stayRound 8 = .ok (.getfield 52, 3) := by decide +kernel
theorem dX6_stayRound_11 : decode cX6_stayRound 11 = .ok (.if_icmp .ge 28, 3) := by decide +kernel
theorem dX6_stayRound_14 : decode cX6_stayRound 14 = .ok (.iload_n 2, 1) := by decide +kernel
theorem dX6_stayRound_15 : decode cX6_stayRound 15 = .ok (.iload 4, 2) := by decide +kernel
theorem dX6_stayRound_17 : decode cX6_stayRound 17 = .ok (.invokestatic 115, 3) := by decide +kernel
theorem dX6_stayRound_20 : decode cX6_stayRound 20 = .ok (.ifCond .eq 13, 3) := by decide +kernel
theorem dX6_stayRound_23 : decode cX6_stayRound 23 = .ok (.iload_n 3, 1) := by decide +kernel
theorem dX6_stayRound_24 : decode cX6_stayRound 24 = .ok (.aload_n 0, 1) := by decide +kernel
theorem dX6_stayRound_25 : decode cX6_stayRound 25 = .ok (.iload_n 1, 1) := by decide +kernel
theorem dX6_stayRound_26 : decode cX6_stayRound 26 = .ok (.iload 4, 2) := by decide +kernel
theorem dX6_stayRound_28 : decode cX6_stayRound 28 = .ok (.invokevirtual 102, 3) := by decide +kernel
theorem dX6_stayRound_31 : decode cX6_stayRound 31 = .ok (.ior, 1) := by decide +kernel
theorem dX6_stayRound_32 : decode cX6_stayRound 32 = .ok (.istore_n 3, 1) := by decide +kernel
theorem dX6_stayRound_33 : decode cX6_stayRound 33 = .ok (.iinc 4 1, 3) := by decide +kernel
theorem dX6_stayRound_36 : decode cX6_stayRound 36 = .ok (.goto (-31), 3) := by decide +kernel
theorem dX6_stayRound_39 : decode cX6_stayRound 39 = .ok (.iload_n 3, 1) := by decide +kernel
theorem dX6_stayRound_40 : decode cX6_stayRound 40 = .ok (.ireturn, 1) := by decide +kernel
theorem dX6_company_0 : decode cX6_company 0 = .ok (.aload_n 0, 1) := by decide +kernel
theorem dX6_company_1 : decode cX6_company 1 = .ok (.iload_n 1, 1) := by decide +kernel
theorem dX6_company_2 : decode cX6_company 2 = .ok (.invokevirtual 95, 3) := by decide +kernel
theorem dX6_company_5 : decode cX6_company 5 = .ok (.istore_n 2, 1) := by decide +kernel
theorem dX6_company_6 : decode cX6_company 6 = .ok (.iconst 0, 1) := by decide +kernel
theorem dX6_company_7 : decode cX6_company 7 = .ok (.istore_n 3, 1) := by decide +kernel
theorem dX6_company_8 : decode cX6_company 8 = .ok (.iconst 0, 1) := by decide +kernel
theorem dX6_company_9 : decode cX6_company 9 = .ok (.istore 4, 2) := by decide +kernel
theorem dX6_company_11 : decode cX6_company 11 = .ok (.iload 4, 2) := by decide +kernel
theorem dX6_company_13 : decode cX6_company 13 = .ok (.aload_n 0, 1) := by decide +kernel
theorem dX6_company_14 : decode cX6_company 14 = .ok (.getfield 48, 3) := by decide +kernel
theorem dX6_company_17 : decode cX6_company 17 = .ok (.if_icmp .ge 50, 3) := by decide +kernel
theorem dX6_company_20 : decode cX6_company 20 = .ok (.aload_n 0, 1) := by decide +kernel
theorem dX6_company_21 : decode cX6_company 21 = .ok (.getfield 18, 3) := by decide +kernel
theorem dX6_company_24 : decode cX6_company 24 = .ok (.iload 4, 2) := by decide +kernel
theorem dX6_company_26 : decode cX6_company 26 = .ok (.invokestatic 81, 3) := by decide +kernel
theorem dX6_company_29 : decode cX6_company 29 = .ok (.iload_n 1, 1) := by decide +kernel
theorem dX6_company_30 : decode cX6_company 30 = .ok (.if_icmp .ne 31, 3) := by decide +kernel
theorem dX6_company_33 : decode cX6_company 33 = .ok (.iload_n 3, 1) := by decide +kernel
theorem dX6_company_34 : decode cX6_company 34 = .ok (.aload_n 0, 1) := by decide +kernel
theorem dX6_company_35 : decode cX6_company 35 = .ok (.getfield 9, 3) := by decide +kernel
theorem dX6_company_38 : decode cX6_company 38 = .ok (.iload 4, 2) := by decide +kernel
theorem dX6_company_40 : decode cX6_company 40 = .ok (.invokestatic 81, 3) := by decide +kernel
theorem dX6_company_43 : decode cX6_company 43 = .ok (.aload_n 0, 1) := by decide +kernel
theorem dX6_company_44 : decode cX6_company 44 = .ok (.getfield 15, 3) := by decide +kernel
theorem dX6_company_47 : decode cX6_company 47 = .ok (.iload 4, 2) := by decide +kernel
theorem dX6_company_49 : decode cX6_company 49 = .ok (.invokestatic 81, 3) := by decide +kernel
theorem dX6_company_52 : decode cX6_company 52 = .ok (.iload_n 2, 1) := by decide +kernel
theorem dX6_company_53 : decode cX6_company 53 = .ok (.invokestatic 99, 3) := by decide +kernel
theorem dX6_company_56 : decode cX6_company 56 = .ok (.invokestatic 106, 3) := by decide +kernel
theorem dX6_company_59 : decode cX6_company 59 = .ok (.iadd, 1) := by decide +kernel
theorem dX6_company_60 : decode cX6_company 60 = .ok (.istore_n 3, 1) := by decide +kernel
theorem dX6_company_61 : decode cX6_company 61 = .ok (.iinc 4 1, 3) := by decide +kernel
theorem dX6_company_64 : decode cX6_company 64 = .ok (.goto (-53), 3) := by decide +kernel
theorem dX6_company_67 : decode cX6_company 67 = .ok (.iload_n 3, 1) := by decide +kernel
theorem dX6_company_68 : decode cX6_company 68 = .ok (.ireturn, 1) := by decide +kernel
theorem dX6_pairs_0 : decode cX6_pairs 0 = .ok (.aload_n 0, 1) := by decide +kernel
theorem dX6_pairs_1 : decode cX6_pairs 1 = .ok (.iload_n 1, 1) := by decide +kernel
theorem dX6_pairs_2 : decode cX6_pairs 2 = .ok (.invokevirtual 95, 3) := by decide +kernel
theorem dX6_pairs_5 : decode cX6_pairs 5 = .ok (.istore_n 2, 1) := by decide +kernel
theorem dX6_pairs_6 : decode cX6_pairs 6 = .ok (.iconst 0, 1) := by decide +kernel
theorem dX6_pairs_7 : decode cX6_pairs 7 = .ok (.istore_n 3, 1) := by decide +kernel
theorem dX6_pairs_8 : decode cX6_pairs 8 = .ok (.iconst 0, 1) := by decide +kernel
theorem dX6_pairs_9 : decode cX6_pairs 9 = .ok (.istore 4, 2) := by decide +kernel
theorem dX6_pairs_11 : decode cX6_pairs 11 = .ok (.iload 4, 2) := by decide +kernel
theorem dX6_pairs_13 : decode cX6_pairs 13 = .ok (.aload_n 0, 1) := by decide +kernel
theorem dX6_pairs_14 : decode cX6_pairs 14 = .ok (.getfield 48, 3) := by decide +kernel
theorem dX6_pairs_17 : decode cX6_pairs 17 = .ok (.if_icmp .ge 62, 3) := by decide +kernel
theorem dX6_pairs_20 : decode cX6_pairs 20 = .ok (.aload_n 0, 1) := by decide +kernel
theorem dX6_pairs_21 : decode cX6_pairs 21 = .ok (.getfield 9, 3) := by decide +kernel
theorem dX6_pairs_24 : decode cX6_pairs 24 = .ok (.iload 4, 2) := by decide +kernel
theorem dX6_pairs_26 : decode cX6_pairs 26 = .ok (.invokestatic 81, 3) := by decide +kernel
theorem dX6_pairs_29 : decode cX6_pairs 29 = .ok (.aload_n 0, 1) := by decide +kernel
theorem dX6_pairs_30 : decode cX6_pairs 30 = .ok (.getfield 15, 3) := by decide +kernel
theorem dX6_pairs_33 : decode cX6_pairs 33 = .ok (.iload 4, 2) := by decide +kernel
theorem dX6_pairs_35 : decode cX6_pairs 35 = .ok (.invokestatic 81, 3) := by decide +kernel
theorem dX6_pairs_38 : decode cX6_pairs 38 = .ok (.iload_n 2, 1) := by decide +kernel
theorem dX6_pairs_39 : decode cX6_pairs 39 = .ok (.invokestatic 99, 3) := by decide +kernel
theorem dX6_pairs_42 : decode cX6_pairs 42 = .ok (.ifCond .eq 7, 3) := by decide +kernel
theorem dX6_pairs_45 : decode cX6_pairs 45 = .ok (.iconst 1, 1) := by decide +kernel
theorem dX6_pairs_46 : decode cX6_pairs 46 = .ok (.goto 4, 3) := by decide +kernel
theorem dX6_pairs_49 : decode cX6_pairs 49 = .ok (.iconst 0, 1) := by decide +kernel
theorem dX6_pairs_50 : decode cX6_pairs 50 = .ok (.istore 5, 2) := by decide +kernel
theorem dX6_pairs_52 : decode cX6_pairs 52 = .ok (.aload_n 0, 1) := by decide +kernel
theorem dX6_pairs_53 : decode cX6_pairs 53 = .ok (.getfield 18, 3) := by decide +kernel
theorem dX6_pairs_56 : decode cX6_pairs 56 = .ok (.iload 4, 2) := by decide +kernel
theorem dX6_pairs_58 : decode cX6_pairs 58 = .ok (.invokestatic 81, 3) := by decide +kernel
theorem dX6_pairs_61 : decode cX6_pairs 61 = .ok (.iload_n 1, 1) := by decide +kernel
theorem dX6_pairs_62 : decode cX6_pairs 62 = .ok (.if_icmp .ne 11, 3) := by decide +kernel
theorem dX6_pairs_65 : decode cX6_pairs 65 = .ok (.iload 5, 2) := by decide +kernel
theorem dX6_pairs_67 : decode cX6_pairs 67 = .ok (.ifCond .eq 6, 3) := by decide +kernel
theorem dX6_pairs_70 : decode cX6_pairs 70 = .ok (.iinc 3 1, 3) := by decide +kernel
theorem dX6_pairs_73 : decode cX6_pairs 73 = .ok (.iinc 4 1, 3) := by decide +kernel
theorem dX6_pairs_76 : decode cX6_pairs 76 = .ok (.goto (-65), 3) := by decide +kernel
theorem dX6_pairs_79 : decode cX6_pairs 79 = .ok (.iload_n 3, 1) := by decide +kernel
theorem dX6_pairs_80 : decode cX6_pairs 80 = .ok (.iload_n 3, 1) := by decide +kernel
theorem dX6_pairs_81 : decode cX6_pairs 81 = .ok (.iconst 1, 1) := by decide +kernel
theorem dX6_pairs_82 : decode cX6_pairs 82 = .ok (.isub, 1) := by decide +kernel
theorem dX6_pairs_83 : decode cX6_pairs 83 = .ok (.imul, 1) := by decide +kernel
theorem dX6_pairs_84 : decode cX6_pairs 84 = .ok (.iconst 2, 1) := by decide +kernel
theorem dX6_pairs_85 : decode cX6_pairs 85 = .ok (.idiv, 1) := by decide +kernel
theorem dX6_pairs_86 : decode cX6_pairs 86 = .ok (.ireturn, 1) := by decide +kernel
theorem dX6_likingAfter_0 : decode cX6_likingAfter 0 = .ok (.aload_n 0, 1) := by decide +kernel
theorem dX6_likingAfter_1 : decode cX6_likingAfter 1 = .ok (.iload_n 1, 1) := by decide +kernel
theorem dX6_likingAfter_2 : decode cX6_likingAfter 2 = .ok (.invokevirtual 119, 3) := by decide +kernel
theorem dX6_likingAfter_5 : decode cX6_likingAfter 5 = .ok (.iconst 2, 1) := by decide +kernel
theorem dX6_likingAfter_6 : decode cX6_likingAfter 6 = .ok (.aload_n 0, 1) := by decide +kernel
theorem dX6_likingAfter_7 : decode cX6_likingAfter 7 = .ok (.iload_n 1, 1) := by decide +kernel
theorem dX6_likingAfter_8 : decode cX6_likingAfter 8 = .ok (.invokevirtual 122, 3) := by decide +kernel
theorem dX6_likingAfter_11 : decode cX6_likingAfter 11 = .ok (.imul, 1) := by decide +kernel
theorem dX6_likingAfter_12 : decode cX6_likingAfter 12 = .ok (.iadd, 1) := by decide +kernel
theorem dX6_likingAfter_13 : decode cX6_likingAfter 13 = .ok (.istore_n 3, 1) := by decide +kernel
theorem dX6_likingAfter_14 : decode cX6_likingAfter 14 = .ok (.sipush 9999, 3) := by decide +kernel
theorem dX6_likingAfter_17 : decode cX6_likingAfter 17 = .ok (.aload_n 0, 1) := by decide +kernel
theorem dX6_likingAfter_18 : decode cX6_likingAfter 18 = .ok (.getfield 27, 3) := by decide +kernel
theorem dX6_likingAfter_21 : decode cX6_likingAfter 21 = .ok (.iload_n 1, 1) := by decide +kernel
theorem dX6_likingAfter_22 : decode cX6_likingAfter 22 = .ok (.invokestatic 81, 3) := by decide +kernel
theorem dX6_likingAfter_25 : decode cX6_likingAfter 25 = .ok (.iload_n 2, 1) := by decide +kernel
theorem dX6_likingAfter_26 : decode cX6_likingAfter 26 = .ok (.iload_n 3, 1) := by decide +kernel
theorem dX6_likingAfter_27 : decode cX6_likingAfter 27 = .ok (.imul, 1) := by decide +kernel
theorem dX6_likingAfter_28 : decode cX6_likingAfter 28 = .ok (.iadd, 1) := by decide +kernel
theorem dX6_likingAfter_29 : decode cX6_likingAfter 29 = .ok (.invokestatic 125, 3) := by decide +kernel
theorem dX6_likingAfter_32 : decode cX6_likingAfter 32 = .ok (.ireturn, 1) := by decide +kernel
theorem dX6_passEvenings_0 : decode cX6_passEvenings 0 = .ok (.iload_n 1, 1) := by decide +kernel
theorem dX6_passEvenings_1 : decode cX6_passEvenings 1 = .ok (.sipush 999, 3) := by decide +kernel
theorem dX6_passEvenings_4 : decode cX6_passEvenings 4 = .ok (.aload_n 0, 1) := by decide +kernel
theorem dX6_passEvenings_5 : decode cX6_passEvenings 5 = .ok (.getfield 58, 3) := by decide +kernel
theorem dX6_passEvenings_8 : decode cX6_passEvenings 8 = .ok (.isub, 1) := by decide +kernel
theorem dX6_passEvenings_9 : decode cX6_passEvenings 9 = .ok (.invokestatic 125, 3) := by decide +kernel
theorem dX6_passEvenings_12 : decode cX6_passEvenings 12 = .ok (.istore_n 2, 1) := by decide +kernel
theorem dX6_passEvenings_13 : decode cX6_passEvenings 13 = .ok (.iconst 0, 1) := by decide +kernel
theorem dX6_passEvenings_14 : decode cX6_passEvenings 14 = .ok (.istore_n 3, 1) := by decide +kernel
theorem dX6_passEvenings_15 : decode cX6_passEvenings 15 = .ok (.iload_n 3, 1) := by decide +kernel
theorem dX6_passEvenings_16 : decode cX6_passEvenings 16 = .ok (.aload_n 0, 1) := by decide +kernel
theorem dX6_passEvenings_17 : decode cX6_passEvenings 17 = .ok (.getfield 52, 3) := by decide +kernel
theorem dX6_passEvenings_20 : decode cX6_passEvenings 20 = .ok (.if_icmp .ge 23, 3) := by decide +kernel
theorem dX6_passEvenings_23 : decode cX6_passEvenings 23 = .ok (.aload_n 0, 1) := by decide +kernel
theorem dX6_passEvenings_24 : decode cX6_passEvenings 24 = .ok (.getfield 27, 3) := by decide +kernel
theorem dX6_passEvenings_27 : decode cX6_passEvenings 27 = .ok (.iload_n 3, 1) := by decide +kernel
theorem dX6_passEvenings_28 : decode cX6_passEvenings 28 = .ok (.aload_n 0, 1) := by decide +kernel
theorem dX6_passEvenings_29 : decode cX6_passEvenings 29 = .ok (.iload_n 3, 1) := by decide +kernel
theorem dX6_passEvenings_30 : decode cX6_passEvenings 30 = .ok (.iload_n 2, 1) := by decide +kernel
theorem dX6_passEvenings_31 : decode cX6_passEvenings 31 = .ok (.invokevirtual 130, 3) := by decide +kernel
theorem dX6_passEvenings_34 : decode cX6_passEvenings 34 = .ok (.invokestatic 77, 3) := by decide +kernel
theorem dX6_passEvenings_37 : decode cX6_passEvenings 37 = .ok (.iinc 3 1, 3) := by decide +kernel
theorem dX6_passEvenings_40 : decode cX6_passEvenings 40 = .ok (.goto (-25), 3) := by decide +kernel
theorem dX6_passEvenings_43 : decode cX6_passEvenings 43 = .ok (.aload_n 0, 1) := by decide +kernel
theorem dX6_passEvenings_44 : decode cX6_passEvenings 44 = .ok (.dup, 1) := by decide +kernel
theorem dX6_passEvenings_45 : decode cX6_passEvenings 45 = .ok (.getfield 58, 3) := by decide +kernel
theorem dX6_passEvenings_48 : decode cX6_passEvenings 48 = .ok (.iload_n 2, 1) := by decide +kernel
theorem dX6_passEvenings_49 : decode cX6_passEvenings 49 = .ok (.iadd, 1) := by decide +kernel
theorem dX6_passEvenings_50 : decode cX6_passEvenings 50 = .ok (.putfield 58, 3) := by decide +kernel
theorem dX6_passEvenings_53 : decode cX6_passEvenings 53 = .ok (.return_, 1) := by decide +kernel
theorem dX6_keepStep_0 : decode cX6_keepStep 0 = .ok (.aload_n 0, 1) := by decide +kernel
theorem dX6_keepStep_1 : decode cX6_keepStep 1 = .ok (.getfield 45, 3) := by decide +kernel
theorem dX6_keepStep_4 : decode cX6_keepStep 4 = .ok (.invokevirtual 133, 3) := by decide +kernel
theorem dX6_keepStep_7 : decode cX6_keepStep 7 = .ok (.iconst 0, 1) := by decide +kernel
theorem dX6_keepStep_8 : decode cX6_keepStep 8 = .ok (.istore_n 1, 1) := by decide +kernel
theorem dX6_keepStep_9 : decode cX6_keepStep 9 = .ok (.iload_n 1, 1) := by decide +kernel
theorem dX6_keepStep_10 : decode cX6_keepStep 10 = .ok (.bipush 6, 2) := by decide +kernel
theorem dX6_keepStep_12 : decode cX6_keepStep 12 = .ok (.if_icmp .ge 25, 3) := by decide +kernel
theorem dX6_keepStep_15 : decode cX6_keepStep 15 = .ok (.aload_n 0, 1) := by decide +kernel
theorem dX6_keepStep_16 : decode cX6_keepStep 16 = .ok (.getfield 45, 3) := by decide +kernel
theorem dX6_keepStep_19 : decode cX6_keepStep 19 = .ok (.iload_n 1, 1) := by decide +kernel
theorem dX6_keepStep_20 : decode cX6_keepStep 20 = .ok (.aload_n 0, 1) := by decide +kernel
theorem dX6_keepStep_21 : decode cX6_keepStep 21 = .ok (.getfield 18, 3) := by decide +kernel
theorem dX6_keepStep_24 : decode cX6_keepStep 24 = .ok (.iload_n 1, 1) := by decide +kernel
theorem dX6_keepStep_25 : decode cX6_keepStep 25 = .ok (.invokestatic 81, 3) := by decide +kernel
theorem dX6_keepStep_28 : decode cX6_keepStep 28 = .ok (.invokevirtual 136, 3) := by decide +kernel
theorem dX6_keepStep_31 : decode cX6_keepStep 31 = .ok (.iinc 1 1, 3) := by decide +kernel
theorem dX6_keepStep_34 : decode cX6_keepStep 34 = .ok (.goto (-25), 3) := by decide +kernel
theorem dX6_keepStep_37 : decode cX6_keepStep 37 = .ok (.iconst 0, 1) := by decide +kernel
theorem dX6_keepStep_38 : decode cX6_keepStep 38 = .ok (.istore_n 1, 1) := by decide +kernel
theorem dX6_keepStep_39 : decode cX6_keepStep 39 = .ok (.iload_n 1, 1) := by decide +kernel
theorem dX6_keepStep_40 : decode cX6_keepStep 40 = .ok (.iconst 4, 1) := by decide +kernel
theorem dX6_keepStep_41 : decode cX6_keepStep 41 = .ok (.if_icmp .ge 28, 3) := by decide +kernel
theorem dX6_keepStep_44 : decode cX6_keepStep 44 = .ok (.aload_n 0, 1) := by decide +kernel
theorem dX6_keepStep_45 : decode cX6_keepStep 45 = .ok (.getfield 45, 3) := by decide +kernel
theorem dX6_keepStep_48 : decode cX6_keepStep 48 = .ok (.bipush 6, 2) := by decide +kernel
theorem dX6_keepStep_50 : decode cX6_keepStep 50 = .ok (.iload_n 1, 1) := by decide +kernel
theorem dX6_keepStep_51 : decode cX6_keepStep 51 = .ok (.iadd, 1) := by decide +kernel
theorem dX6_keepStep_52 : decode cX6_keepStep 52 = .ok (.aload_n 0, 1) := by decide +kernel
theorem dX6_keepStep_53 : decode cX6_keepStep 53 = .ok (.getfield 27, 3) := by decide +kernel
theorem dX6_keepStep_56 : decode cX6_keepStep 56 = .ok (.iload_n 1, 1) := by decide +kernel
theorem dX6_keepStep_57 : decode cX6_keepStep 57 = .ok (.invokestatic 81, 3) := by decide +kernel
theorem dX6_keepStep_60 : decode cX6_keepStep 60 = .ok (.invokevirtual 136, 3) := by decide +kernel
theorem dX6_keepStep_63 : decode cX6_keepStep 63 = .ok (.iinc 1 1, 3) := by decide +kernel
theorem dX6_keepStep_66 : decode cX6_keepStep 66 = .ok (.goto (-27), 3) := by decide +kernel
theorem dX6_keepStep_69 : decode cX6_keepStep 69 = .ok (.aload_n 0, 1) := by decide +kernel
theorem dX6_keepStep_70 : decode cX6_keepStep 70 = .ok (.getfield 45, 3) := by decide +kernel
theorem dX6_keepStep_73 : decode cX6_keepStep 73 = .ok (.bipush 10, 2) := by decide +kernel
theorem dX6_keepStep_75 : decode cX6_keepStep 75 = .ok (.aload_n 0, 1) := by decide +kernel
theorem dX6_keepStep_76 : decode cX6_keepStep 76 = .ok (.getfield 55, 3) := by decide +kernel
theorem dX6_keepStep_79 : decode cX6_keepStep 79 = .ok (.invokevirtual 136, 3) := by decide +kernel
theorem dX6_keepStep_82 : decode cX6_keepStep 82 = .ok (.aload_n 0, 1) := by decide +kernel
theorem dX6_keepStep_83 : decode cX6_keepStep 83 = .ok (.getfield 45, 3) := by decide +kernel
theorem dX6_keepStep_86 : decode cX6_keepStep 86 = .ok (.bipush 11, 2) := by decide +kernel
theorem dX6_keepStep_88 : decode cX6_keepStep 88 = .ok (.aload_n 0, 1) := by decide +kernel
theorem dX6_keepStep_89 : decode cX6_keepStep 89 = .ok (.getfield 58, 3) := by decide +kernel
theorem dX6_keepStep_92 : decode cX6_keepStep 92 = .ok (.invokevirtual 136, 3) := by decide +kernel
theorem dX6_keepStep_95 : decode cX6_keepStep 95 = .ok (.return_, 1) := by decide +kernel
theorem dX6_stepBack_0 : decode cX6_stepBack 0 = .ok (.iconst 0, 1) := by decide +kernel
theorem dX6_stepBack_1 : decode cX6_stepBack 1 = .ok (.istore_n 1, 1) := by decide +kernel
theorem dX6_stepBack_2 : decode cX6_stepBack 2 = .ok (.iload_n 1, 1) := by decide +kernel
theorem dX6_stepBack_3 : decode cX6_stepBack 3 = .ok (.bipush 6, 2) := by decide +kernel
theorem dX6_stepBack_5 : decode cX6_stepBack 5 = .ok (.if_icmp .ge 25, 3) := by decide +kernel
theorem dX6_stepBack_8 : decode cX6_stepBack 8 = .ok (.aload_n 0, 1) := by decide +kernel
theorem dX6_stepBack_9 : decode cX6_stepBack 9 = .ok (.getfield 18, 3) := by decide +kernel
theorem dX6_stepBack_12 : decode cX6_stepBack 12 = .ok (.iload_n 1, 1) := by decide +kernel
theorem dX6_stepBack_13 : decode cX6_stepBack 13 = .ok (.aload_n 0, 1) := by decide +kernel
theorem dX6_stepBack_14 : decode cX6_stepBack 14 = .ok (.getfield 45, 3) := by decide +kernel
theorem dX6_stepBack_17 : decode cX6_stepBack 17 = .ok (.iload_n 1, 1) := by decide +kernel
theorem dX6_stepBack_18 : decode cX6_stepBack 18 = .ok (.invokevirtual 139, 3) := by decide +kernel
theorem dX6_stepBack_21 : decode cX6_stepBack 21 = .ok (.invokestatic 77, 3) := by decide +kernel
theorem dX6_stepBack_24 : decode cX6_stepBack 24 = .ok (.iinc 1 1, 3) := by decide +kernel
theorem dX6_stepBack_27 : decode cX6_stepBack 27 = .ok (.goto (-25), 3) := by decide +kernel
theorem dX6_stepBack_30 : decode cX6_stepBack 30 = .ok (.iconst 0, 1) := by decide +kernel
theorem dX6_stepBack_31 : decode cX6_stepBack 31 = .ok (.istore_n 1, 1) := by decide +kernel
theorem dX6_stepBack_32 : decode cX6_stepBack 32 = .ok (.iload_n 1, 1) := by decide +kernel
theorem dX6_stepBack_33 : decode cX6_stepBack 33 = .ok (.iconst 4, 1) := by decide +kernel
theorem dX6_stepBack_34 : decode cX6_stepBack 34 = .ok (.if_icmp .ge 28, 3) := by decide +kernel
theorem dX6_stepBack_37 : decode cX6_stepBack 37 = .ok (.aload_n 0, 1) := by decide +kernel
theorem dX6_stepBack_38 : decode cX6_stepBack 38 = .ok (.getfield 27, 3) := by decide +kernel
theorem dX6_stepBack_41 : decode cX6_stepBack 41 = .ok (.iload_n 1, 1) := by decide +kernel
theorem dX6_stepBack_42 : decode cX6_stepBack 42 = .ok (.aload_n 0, 1) := by decide +kernel
theorem dX6_stepBack_43 : decode cX6_stepBack 43 = .ok (.getfield 45, 3) := by decide +kernel
theorem dX6_stepBack_46 : decode cX6_stepBack 46 = .ok (.bipush 6, 2) := by decide +kernel
theorem dX6_stepBack_48 : decode cX6_stepBack 48 = .ok (.iload_n 1, 1) := by decide +kernel
theorem dX6_stepBack_49 : decode cX6_stepBack 49 = .ok (.iadd, 1) := by decide +kernel
theorem dX6_stepBack_50 : decode cX6_stepBack 50 = .ok (.invokevirtual 139, 3) := by decide +kernel
theorem dX6_stepBack_53 : decode cX6_stepBack 53 = .ok (.invokestatic 77, 3) := by decide +kernel
theorem dX6_stepBack_56 : decode cX6_stepBack 56 = .ok (.iinc 1 1, 3) := by decide +kernel
theorem dX6_stepBack_59 : decode cX6_stepBack 59 = .ok (.goto (-27), 3) := by decide +kernel
theorem dX6_stepBack_62 : decode cX6_stepBack 62 = .ok (.aload_n 0, 1) := by decide +kernel
theorem dX6_stepBack_63 : decode cX6_stepBack 63 = .ok (.aload_n 0, 1) := by decide +kernel
theorem dX6_stepBack_64 : decode cX6_stepBack 64 = .ok (.getfield 45, 3) := by decide +kernel
theorem dX6_stepBack_67 : decode cX6_stepBack 67 = .ok (.bipush 10, 2) := by decide +kernel
theorem dX6_stepBack_69 : decode cX6_stepBack 69 = .ok (.invokevirtual 139, 3) := by decide +kernel
theorem dX6_stepBack_72 : decode cX6_stepBack 72 = .ok (.putfield 55, 3) := by decide +kernel
theorem dX6_stepBack_75 : decode cX6_stepBack 75 = .ok (.aload_n 0, 1) := by decide +kernel
theorem dX6_stepBack_76 : decode cX6_stepBack 76 = .ok (.aload_n 0, 1) := by decide +kernel
theorem dX6_stepBack_77 : decode cX6_stepBack 77 = .ok (.getfield 45, 3) := by decide +kernel
theorem dX6_stepBack_80 : decode cX6_stepBack 80 = .ok (.bipush 11, 2) := by decide +kernel
theorem dX6_stepBack_82 : decode cX6_stepBack 82 = .ok (.invokevirtual 139, 3) := by decide +kernel
theorem dX6_stepBack_85 : decode cX6_stepBack 85 = .ok (.putfield 58, 3) := by decide +kernel
theorem dX6_stepBack_88 : decode cX6_stepBack 88 = .ok (.aload_n 0, 1) := by decide +kernel
theorem dX6_stepBack_89 : decode cX6_stepBack 89 = .ok (.getfield 45, 3) := by decide +kernel
theorem dX6_stepBack_92 : decode cX6_stepBack 92 = .ok (.invokevirtual 142, 3) := by decide +kernel
theorem dX6_stepBack_95 : decode cX6_stepBack 95 = .ok (.return_, 1) := by decide +kernel
theorem dX7_init_0 : decode cX7_init 0 = .ok (.aload_n 0, 1) := by decide +kernel
theorem dX7_init_1 : decode cX7_init 1 = .ok (.invokespecial 1, 3) := by decide +kernel
theorem dX7_init_4 : decode cX7_init 4 = .ok (.aload_n 0, 1) := by decide +kernel
theorem dX7_init_5 : decode cX7_init 5 = .ok (.new 7, 3) := by decide +kernel
theorem dX7_init_8 : decode cX7_init 8 = .ok (.dup, 1) := by decide +kernel
theorem dX7_init_9 : decode cX7_init 9 = .ok (.invokespecial 9, 3) := by decide +kernel
theorem dX7_init_12 : decode cX7_init 12 = .ok (.putfield 10, 3) := by decide +kernel
theorem dX7_init_15 : decode cX7_init 15 = .ok (.aload_n 0, 1) := by decide +kernel
theorem dX7_init_16 : decode cX7_init 16 = .ok (.new 7, 3) := by decide +kernel
theorem dX7_init_19 : decode cX7_init 19 = .ok (.dup, 1) := by decide +kernel
theorem dX7_init_20 : decode cX7_init 20 = .ok (.invokespecial 9, 3) := by decide +kernel
theorem dX7_init_23 : decode cX7_init 23 = .ok (.putfield 16, 3) := by decide +kernel
theorem dX7_init_26 : decode cX7_init 26 = .ok (.aload_n 0, 1) := by decide +kernel
theorem dX7_init_27 : decode cX7_init 27 = .ok (.iconst 2, 1) := by decide +kernel
theorem dX7_init_28 : decode cX7_init 28 = .ok (.anewarray 7, 3) := by decide +kernel
theorem dX7_init_31 : decode cX7_init 31 = .ok (.putfield 19, 3) := by decide +kernel
theorem dX7_init_34 : decode cX7_init 34 = .ok (.aload_n 0, 1) := by decide +kernel
theorem dX7_init_35 : decode cX7_init 35 = .ok (.new 23, 3) := by decide +kernel
theorem dX7_init_38 : decode cX7_init 38 = .ok (.dup, 1) := by decide +kernel
theorem dX7_init_39 : decode cX7_init 39 = .ok (.invokespecial 25, 3) := by decide +kernel
theorem dX7_init_42 : decode cX7_init 42 = .ok (.putfield 26, 3) := by decide +kernel
theorem dX7_init_45 : decode cX7_init 45 = .ok (.aload_n 0, 1) := by decide +kernel
theorem dX7_init_46 : decode cX7_init 46 = .ok (.new 30, 3) := by decide +kernel
theorem dX7_init_49 : decode cX7_init 49 = .ok (.dup, 1) := by decide +kernel
theorem dX7_init_50 : decode cX7_init 50 = .ok (.invokespecial 32, 3) := by decide +kernel
theorem dX7_init_53 : decode cX7_init 53 = .ok (.putfield 33, 3) := by decide +kernel
theorem dX7_init_56 : decode cX7_init 56 = .ok (.aload_n 0, 1) := by decide +kernel
theorem dX7_init_57 : decode cX7_init 57 = .ok (.new 37, 3) := by decide +kernel
theorem dX7_init_60 : decode cX7_init 60 = .ok (.dup, 1) := by decide +kernel
theorem dX7_init_61 : decode cX7_init 61 = .ok (.invokespecial 39, 3) := by decide +kernel
theorem dX7_init_64 : decode cX7_init 64 = .ok (.putfield 40, 3) := by decide +kernel
theorem dX7_init_67 : decode cX7_init 67 = .ok (.aload_n 0, 1) := by decide +kernel
theorem dX7_init_68 : decode cX7_init 68 = .ok (.new 44, 3) := by decide +kernel
theorem dX7_init_71 : decode cX7_init 71 = .ok (.dup, 1) := by decide +kernel
theorem dX7_init_72 : decode cX7_init 72 = .ok (.invokespecial 46, 3) := by decide +kernel
theorem dX7_init_75 : decode cX7_init 75 = .ok (.putfield 47, 3) := by decide +kernel
theorem dX7_init_78 : decode cX7_init 78 = .ok (.aload_n 0, 1) := by decide +kernel
theorem dX7_init_79 : decode cX7_init 79 = .ok (.iconst 3, 1) := by decide +kernel
theorem dX7_init_80 : decode cX7_init 80 = .ok (.newarray .int, 2) := by decide +kernel
theorem dX7_init_82 : decode cX7_init 82 = .ok (.putfield 51, 3) := by decide +kernel
theorem dX7_init_85 : decode cX7_init 85 = .ok (.aload_n 0, 1) := by decide +kernel
theorem dX7_init_86 : decode cX7_init 86 = .ok (.iconst 0, 1) := by decide +kernel
theorem dX7_init_87 : decode cX7_init 87 = .ok (.putfield 55, 3) := by decide +kernel
theorem dX7_init_90 : decode cX7_init 90 = .ok (.aload_n 0, 1) := by decide +kernel
theorem dX7_init_91 : decode cX7_init 91 = .ok (.iconst 1, 1) := by decide +kernel
theorem dX7_init_92 : decode cX7_init 92 = .ok (.putfield 59, 3) := by decide +kernel
theorem dX7_init_95 : decode cX7_init 95 = .ok (.return_, 1) := by decide +kernel
theorem dX7_uplands_0 : decode cX7_uplands 0 = .ok (.iload_n 1, 1) := by decide +kernel
theorem dX7_uplands_1 : decode cX7_uplands 1 = .ok (.iconst 0, 1) := by decide +kernel
theorem dX7_uplands_2 : decode cX7_uplands 2 = .ok (.iconst 4, 1) := by decide +kernel
theorem dX7_uplands_3 : decode cX7_uplands 3 = .ok (.invokestatic 62, 3) := by decide +kernel
theorem dX7_uplands_6 : decode cX7_uplands 6 = .ok (.ifCond .ne 10, 3) := by decide +kernel
theorem dX7_uplands_9 : decode cX7_uplands 9 = .ok (.aload_n 0, 1) := by decide +kernel
theorem dX7_uplands_10 : decode cX7_uplands 10 = .ok (.bipush (-2), 2) := by decide +kernel
theorem dX7_uplands_12 : decode cX7_uplands 12 = .ok (.invokevirtual 66, 3) := by decide +kernel
theorem dX7_uplands_15 : decode cX7_uplands 15 = .ok (.ireturn, 1) := by decide +kernel
theorem dX7_uplands_16 : decode cX7_uplands 16 = .ok (.aload_n 0, 1) := by decide +kernel
theorem dX7_uplands_17 : decode cX7_uplands 17 = .ok (.getfield 10, 3) := by decide +kernel
theorem dX7_uplands_20 : decode cX7_uplands 20 = .ok (.getfield 70, 3) := by decide +kernel
theorem dX7_uplands_23 : decode cX7_uplands 23 = .ok (.istore_n 2, 1) := by decide +kernel
theorem dX7_uplands_24 : decode cX7_uplands 24 = .ok (.aload_n 0, 1) := by decide +kernel
theorem dX7_uplands_25 : decode cX7_uplands 25 = .ok (.getfield 10, 3) := by decide +kernel
theorem dX7_uplands_28 : decode cX7_uplands 28 = .ok (.iload_n 1, 1) := by decide +kernel
theorem dX7_uplands_29 : decode cX7_uplands 29 = .ok (.invokevirtual 73, 3) := by decide +kernel
theorem dX7_uplands_32 : decode cX7_uplands 32 = .ok (.iload_n 2, 1) := by decide +kernel
theorem dX7_uplands_33 : decode cX7_uplands 33 = .ok (.ireturn, 1) := by decide +kernel
theorem dX7_guest_0 : decode cX7_guest 0 = .ok (.iload_n 1, 1) := by decide +kernel
theorem dX7_guest_1 : decode cX7_guest 1 = .ok (.iconst 0, 1) := by decide +kernel
theorem dX7_guest_2 : decode cX7_guest 2 = .ok (.iconst 5, 1) := by decide +kernel
theorem dX7_guest_3 : decode cX7_guest 3 = .ok (.invokestatic 62, 3) := by decide +kernel
theorem dX7_guest_6 : decode cX7_guest 6 = .ok (.ifCond .eq 13, 3) := by decide +kernel
theorem dX7_guest_9 : decode cX7_guest 9 = .ok (.iload_n 2, 1) := by decide +kernel
theorem dX7_guest_10 : decode cX7_guest 10 = .ok (.iconst 1, 1) := by decide +kernel
theorem dX7_guest_11 : decode cX7_guest 11 = .ok (.bipush 30, 2) := by decide +kernel
theorem dX7_guest_13 : decode cX7_guest 13 = .ok (.invokestatic 62, 3) := by decide +kernel
theorem dX7_guest_16 : decode cX7_guest 16 = .ok (.ifCond .ne 10, 3) := by decide +kernel
theorem dX7_guest_19 : decode cX7_guest 19 = .ok (.aload_n 0, 1) := by decide +kernel
theorem dX7_guest_20 : decode cX7_guest 20 = .ok (.bipush (-2), 2) := by decide +kernel
theorem dX7_guest_22 : decode cX7_guest 22 = .ok (.invokevirtual 66, 3) := by decide +kernel
theorem dX7_guest_25 : decode cX7_guest 25 = .ok (.ireturn, 1) := by decide +kernel
theorem dX7_guest_26 : decode cX7_guest 26 = .ok (.aload_n 0, 1) := by decide +kernel
theorem dX7_guest_27 : decode cX7_guest 27 = .ok (.getfield 10, 3) := by decide +kernel
theorem dX7_guest_30 : decode cX7_guest 30 = .ok (.getfield 70, 3) := by decide +kernel
theorem dX7_guest_33 : decode cX7_guest 33 = .ok (.bipush 6, 2) := by decide +kernel
theorem dX7_guest_35 : decode cX7_guest 35 = .ok (.if_icmp .lt 10, 3) := by decide +kernel
theorem dX7_guest_38 : decode cX7_guest 38 = .ok (.aload_n 0, 1) := by decide +kernel
theorem dX7_guest_39 : decode cX7_guest 39 = .ok (.bipush (-4), 2) := by decide +kernel
theorem dX7_guest_41 : decode cX7_guest 41 = .ok (.invokevirtual 66, 3) := by decide +kernel
theorem dX7_guest_44 : decode cX7_guest 44 = .ok (.ireturn, 1) := by decide +kernel
theorem dX7_guest_45 : decode cX7_guest 45 = .ok (.aload_n 0, 1) := by decide +kernel
theorem dX7_guest_46 : decode cX7_guest 46 = .ok (.getfield 10, 3) := by decide +kernel
theorem dX7_guest_49 : decode cX7_guest 49 = .ok (.iload_n 1, 1) := by decide +kernel
theorem dX7_guest_50 : decode cX7_guest 50 = .ok (.iload_n 2, 1) := by decide +kernel
theorem dX7_guest_51 : decode cX7_guest 51 = .ok (.invokevirtual 77, 3) := by decide +kernel
theorem dX7_guest_54 : decode cX7_guest 54 = .ok (.ireturn, 1) := by decide +kernel
theorem dX7_house_0 : decode cX7_house 0 = .ok (.iload_n 1, 1) := by decide +kernel
theorem dX7_house_1 : decode cX7_house 1 = .ok (.iconst 0, 1) := by decide +kernel
theorem dX7_house_2 : decode cX7_house 2 = .ok (.iconst 5, 1) := by decide +kernel
theorem dX7_house_3 : decode cX7_house 3 = .ok (.invokestatic 62, 3) := by decide +kernel
theorem dX7_house_6 : decode cX7_house 6 = .ok (.ifCond .eq 13, 3) := by decide +kernel
theorem dX7_house_9 : decode cX7_house 9 = .ok (.iload_n 2, 1) := by decide +kernel
theorem dX7_house_10 : decode cX7_house 10 = .ok (.iconst 1, 1) := by decide +kernel
theorem dX7_house_11 : decode cX7_house 11 = .ok (.bipush 30, 2) := by decide +kernel
theorem dX7_house_13 : decode cX7_house 13 = .ok (.invokestatic 62, 3) := by decide +kernel
theorem dX7_house_16 : decode cX7_house 16 = .ok (.ifCond .ne 10, 3) := by decide +kernel
theorem dX7_house_19 : decode cX7_house 19 = .ok (.aload_n 0, 1) := by decide +kernel
theorem dX7_house_20 : decode cX7_house 20 = .ok (.bipush (-2), 2) := by decide +kernel
theorem dX7_house_22 : decode cX7_house 22 = .ok (.invokevirtual 66, 3) := by decide +kernel
theorem dX7_house_25 : decode cX7_house 25 = .ok (.ireturn, 1) := by decide +kernel
theorem dX7_house_26 : decode cX7_house 26 = .ok (.aload_n 0, 1) := by decide +kernel
theorem dX7_house_27 : decode cX7_house 27 = .ok (.getfield 10, 3) := by decide +kernel
theorem dX7_house_30 : decode cX7_house 30 = .ok (.getfield 81, 3) := by decide +kernel
theorem dX7_house_33 : decode cX7_house 33 = .ok (.iconst 4, 1) := by decide +kernel
theorem dX7_house_34 : decode cX7_house 34 = .ok (.if_icmp .lt 10, 3) := by decide +kernel
theorem dX7_house_37 : decode cX7_house 37 = .ok (.aload_n 0, 1) := by decide +kernel
theorem dX7_house_38 : decode cX7_house 38 = .ok (.bipush (-4), 2) := by decide +kernel
theorem dX7_house_40 : decode cX7_house 40 = .ok (.invokevirtual 66, 3) := by decide +kernel
theorem dX7_house_43 : decode cX7_house 43 = .ok (.ireturn, 1) := by decide +kernel
theorem dX7_house_44 : decode cX7_house 44 = .ok (.aload_n 0, 1) := by decide +kernel
theorem dX7_house_45 : decode cX7_house 45 = .ok (.getfield 10, 3) := by decide +kernel
theorem dX7_house_48 : decode cX7_house 48 = .ok (.iload_n 1, 1) := by decide +kernel
theorem dX7_house_49 : decode cX7_house 49 = .ok (.iload_n 2, 1) := by decide +kernel
theorem dX7_house_50 : decode cX7_house 50 = .ok (.invokevirtual 84, 3) := by decide +kernel
theorem dX7_house_53 : decode cX7_house 53 = .ok (.ireturn, 1) := by decide +kernel
theorem dX7_type_0 : decode cX7_type 0 = .ok (.iload_n 1, 1) := by decide +kernel
theorem dX7_type_1 : decode cX7_type 1 = .ok (.iconst 0, 1) := by decide +kernel
theorem dX7_type_2 : decode cX7_type 2 = .ok (.bipush 127, 2) := by decide +kernel
theorem dX7_type_4 : decode cX7_type 4 = .ok (.invokestatic 62, 3) := by decide +kernel
theorem dX7_type_7 : decode cX7_type 7 = .ok (.ifCond .ne 10, 3) := by decide +kernel
theorem dX7_type_10 : decode cX7_type 10 = .ok (.aload_n 0, 1) := by decide +kernel
theorem dX7_type_11 : decode cX7_type 11 = .ok (.bipush (-2), 2) := by decide +kernel
theorem dX7_type_13 : decode cX7_type 13 = .ok (.invokevirtual 66, 3) := by decide +kernel
theorem dX7_type_16 : decode cX7_type 16 = .ok (.ireturn, 1) := by decide +kernel
theorem dX7_type_17 : decode cX7_type 17 = .ok (.aload_n 0, 1) := by decide +kernel
theorem dX7_type_18 : decode cX7_type 18 = .ok (.getfield 26, 3) := by decide +kernel
theorem dX7_type_21 : decode cX7_type 21 = .ok (.getfield 87, 3) := by decide +kernel
theorem dX7_type_24 : decode cX7_type 24 = .ok (.sipush 150, 3) := by decide +kernel
theorem dX7_type_27 : decode cX7_type 27 = .ok (.if_icmp .lt 10, 3) := by decide +kernel
theorem dX7_type_30 : decode cX7_type 30 = .ok (.aload_n 0, 1) := by decide +kernel
theorem dX7_type_31 : decode cX7_type 31 = .ok (.bipush (-4), 2) := by decide +kernel
theorem dX7_type_33 : decode cX7_type 33 = .ok (.invokevirtual 66, 3) := by decide +kernel
theorem dX7_type_36 : decode cX7_type 36 = .ok (.ireturn, 1) := by decide +kernel
theorem dX7_type_37 : decode cX7_type 37 = .ok (.aload_n 0, 1) := by decide +kernel
theorem dX7_type_38 : decode cX7_type 38 = .ok (.getfield 26, 3) := by decide +kernel
theorem dX7_type_41 : decode cX7_type 41 = .ok (.iload_n 1, 1) := by decide +kernel
theorem dX7_type_42 : decode cX7_type 42 = .ok (.invokevirtual 90, 3) := by decide +kernel
theorem dX7_type_45 : decode cX7_type 45 = .ok (.ireturn, 1) := by decide +kernel
theorem dX7_clear_0 : decode cX7_clear 0 = .ok (.aload_n 0, 1) := by decide +kernel
theorem dX7_clear_1 : decode cX7_clear 1 = .ok (.getfield 26, 3) := by decide +kernel
theorem dX7_clear_4 : decode cX7_clear 4 = .ok (.getfield 87, 3) := by decide +kernel
theorem dX7_clear_7 : decode cX7_clear 7 = .ok (.istore_n 1, 1) := by decide +kernel
theorem dX7_clear_8 : decode cX7_clear 8 = .ok (.aload_n 0, 1) := by decide +kernel
theorem dX7_clear_9 : decode cX7_clear 9 = .ok (.getfield 26, 3) := by decide +kernel
theorem dX7_clear_12 : decode cX7_clear 12 = .ok (.iconst 0, 1) := by decide +kernel
theorem dX7_clear_13 : decode cX7_clear 13 = .ok (.putfield 87, 3) := by decide +kernel
theorem dX7_clear_16 : decode cX7_clear 16 = .ok (.iload_n 1, 1) := by decide +kernel
theorem dX7_clear_17 : decode cX7_clear 17 = .ok (.ireturn, 1) := by decide +kernel
theorem dX7_read_0 : decode cX7_read 0 = .ok (.aload_n 0, 1) := by decide +kernel
theorem dX7_read_1 : decode cX7_read 1 = .ok (.getfield 16, 3) := by decide +kernel
theorem dX7_read_4 : decode cX7_read 4 = .ok (.iconst 0, 1) := by decide +kernel
theorem dX7_read_5 : decode cX7_read 5 = .ok (.invokevirtual 73, 3) := by decide +kernel
theorem dX7_read_8 : decode cX7_read 8 = .ok (.aload_n 0, 1) := by decide +kernel
theorem dX7_read_9 : decode cX7_read 9 = .ok (.getfield 26, 3) := by decide +kernel
theorem dX7_read_12 : decode cX7_read 12 = .ok (.iconst 0, 1) := by decide +kernel
theorem dX7_read_13 : decode cX7_read 13 = .ok (.putfield 93, 3) := by decide +kernel
theorem dX7_read_16 : decode cX7_read 16 = .ok (.iconst 0, 1) := by decide +kernel
theorem dX7_read_17 : decode cX7_read 17 = .ok (.istore_n 1, 1) := by decide +kernel
theorem dX7_read_18 : decode cX7_read 18 = .ok (.iload_n 1, 1) := by decide +kernel
theorem dX7_read_19 : decode cX7_read 19 = .ok (.sipush 150, 3) := by decide +kernel
theorem dX7_read_22 : decode cX7_read 22 = .ok (.if_icmp .gt 88, 3) := by decide +kernel
theorem dX7_read_25 : decode cX7_read 25 = .ok (.aload_n 0, 1) := by decide +kernel
theorem dX7_read_26 : decode cX7_read 26 = .ok (.getfield 26, 3) := by decide +kernel
theorem dX7_read_29 : decode cX7_read 29 = .ok (.invokevirtual 96, 3) := by decide +kernel
theorem dX7_read_32 : decode cX7_read 32 = .ok (.iload_n 1, 1) := by decide +kernel
theorem dX7_read_33 : decode cX7_read 33 = .ok (.ifCond .le 26, 3) := by decide +kernel
theorem dX7_read_36 : decode cX7_read 36 = .ok (.aload_n 0, 1) := by decide +kernel
theorem dX7_read_37 : decode cX7_read 37 = .ok (.getfield 26, 3) := by decide +kernel
theorem dX7_read_40 : decode cX7_read 40 = .ok (.getfield 99, 3) := by decide +kernel
theorem dX7_read_43 : decode cX7_read 43 = .ok (.ifCond .ne 16, 3) := by decide +kernel
theorem dX7_read_46 : decode cX7_read 46 = .ok (.aload_n 0, 1) := by decide +kernel
theorem dX7_read_47 : decode cX7_read 47 = .ok (.getfield 10, 3) := by decide +kernel
theorem dX7_read_50 : decode cX7_read 50 = .ok (.aload_n 0, 1) := by decide +kernel
theorem dX7_read_51 : decode cX7_read 51 = .ok (.getfield 16, 3) := by decide +kernel
theorem dX7_read_54 : decode cX7_read 54 = .ok (.invokevirtual 102, 3) := by decide +kernel
theorem dX7_read_57 : decode cX7_read 57 = .ok (.iload_n 1, 1) := by decide +kernel
theorem dX7_read_58 : decode cX7_read 58 = .ok (.ireturn, 1) := by decide +kernel
theorem dX7_read_59 : decode cX7_read 59 = .ok (.aload_n 0, 1) := by decide +kernel
theorem dX7_read_60 : decode cX7_read 60 = .ok (.getfield 26, 3) := by decide +kernel
theorem dX7_read_63 : decode cX7_read 63 = .ok (.aload_n 0, 1) := by decide +kernel
theorem dX7_read_64 : decode cX7_read 64 = .ok (.getfield 16, 3) := by decide +kernel
theorem dX7_read_67 : decode cX7_read 67 = .ok (.iload_n 1, 1) := by decide +kernel
theorem dX7_read_68 : decode cX7_read 68 = .ok (.ifCond .ne 7, 3) := by decide +kernel
theorem dX7_read_71 : decode cX7_read 71 = .ok (.iconst 1, 1) := by decide +kernel
theorem dX7_read_72 : decode cX7_read 72 = .ok (.goto 4, 3) := by decide +kernel
theorem dX7_read_75 : decode cX7_read 75 = .ok (.iconst 0, 1) := by decide +kernel
theorem dX7_read_76 : decode cX7_read 76 = .ok (.invokevirtual 106, 3) := by decide +kernel
theorem dX7_read_79 : decode cX7_read 79 = .ok (.ifCond .ne 14, 3) := by decide +kernel
theorem dX7_read_82 : decode cX7_read 82 = .ok (.bipush (-10), 2) := by decide +kernel
theorem dX7_read_84 : decode cX7_read 84 = .ok (.aload_n 0, 1) := by decide +kernel
theorem dX7_read_85 : decode cX7_read 85 = .ok (.getfield 26, 3) := by decide +kernel
theorem dX7_read_88 : decode cX7_read 88 = .ok (.getfield 110, 3) := by decide +kernel
theorem dX7_read_91 : decode cX7_read 91 = .ok (.isub, 1) := by decide +kernel
theorem dX7_read_92 : decode cX7_read 92 = .ok (.ireturn, 1) := by decide +kernel
theorem dX7_read_93 : decode cX7_read 93 = .ok (.aload_n 0, 1) := by decide +kernel
theorem dX7_read_94 : decode cX7_read 94 = .ok (.getfield 26, 3) := by decide +kernel
theorem dX7_read_97 : decode cX7_read 97 = .ok (.aload_n 0, 1) := by decide +kernel
theorem dX7_read_98 : decode cX7_read 98 = .ok (.getfield 16, 3) := by decide +kernel
theorem dX7_read_101 : decode cX7_read 101 = .ok (.invokevirtual 113, 3) := by decide +kernel
theorem dX7_read_104 : decode cX7_read 104 = .ok (.iinc 1 1, 3) := by decide +kernel
theorem dX7_read_107 : decode cX7_read 107 = .ok (.goto (-89), 3) := by decide +kernel
theorem dX7_read_110 : decode cX7_read 110 = .ok (.bipush (-10), 2) := by decide +kernel
theorem dX7_read_112 : decode cX7_read 112 = .ok (.aload_n 0, 1) := by decide +kernel
theorem dX7_read_113 : decode cX7_read 113 = .ok (.getfield 26, 3) := by decide +kernel
theorem dX7_read_116 : decode cX7_read 116 = .ok (.getfield 87, 3) := by decide +kernel
theorem dX7_read_119 : decode cX7_read 119 = .ok (.isub, 1) := by decide +kernel
theorem dX7_read_120 : decode cX7_read 120 = .ok (.ireturn, 1) := by decide +kernel
theorem dX7_calls_0 : decode cX7_calls 0 = .ok (.aload_n 0, 1) := by decide +kernel
theorem dX7_calls_1 : decode cX7_calls 1 = .ok (.getfield 10, 3) := by decide +kernel
theorem dX7_calls_4 : decode cX7_calls 4 = .ok (.iload_n 1, 1) := by decide +kernel
theorem dX7_calls_5 : decode cX7_calls 5 = .ok (.invokevirtual 116, 3) := by decide +kernel
theorem dX7_calls_8 : decode cX7_calls 8 = .ok (.ifCond .eq 14, 3) := by decide +kernel
theorem dX7_calls_11 : decode cX7_calls 11 = .ok (.aload_n 0, 1) := by decide +kernel
theorem dX7_calls_12 : decode cX7_calls 12 = .ok (.getfield 10, 3) := by decide +kernel
theorem dX7_calls_15 : decode cX7_calls 15 = .ok (.iload_n 2, 1) := by decide +kernel
theorem dX7_calls_16 : decode cX7_calls 16 = .ok (.invokevirtual 120, 3) := by decide +kernel
theorem dX7_calls_19 : decode cX7_calls 19 = .ok (.ifCond .ne 10, 3) := by decide +kernel
theorem dX7_calls_22 : decode cX7_calls 22 = .ok (.aload_n 0, 1) := by decide +kernel
theorem dX7_calls_23 : decode cX7_calls 23 = .ok (.bipush (-2), 2) := by decide +kernel
theorem dX7_calls_25 : decode cX7_calls 25 = .ok (.invokevirtual 66, 3) := by decide +kernel
theorem dX7_calls_28 : decode cX7_calls 28 = .ok (.ireturn, 1) := by decide +kernel
theorem dX7_calls_29 : decode cX7_calls 29 = .ok (.aload_n 0, 1) := by decide +kernel
theorem dX7_calls_30 : decode cX7_calls 30 = .ok (.getfield 10, 3) := by decide +kernel
theorem dX7_calls_33 : decode cX7_calls 33 = .ok (.getfield 123, 3) := by decide +kernel
theorem dX7_calls_36 : decode cX7_calls 36 = .ok (.iload_n 1, 1) := by decide +kernel
theorem dX7_calls_37 : decode cX7_calls 37 = .ok (.invokestatic 126, 3) := by decide +kernel
theorem dX7_calls_40 : decode cX7_calls 40 = .ok (.iload_n 2, 1) := by decide +kernel
theorem dX7_calls_41 : decode cX7_calls 41 = .ok (.if_icmp .ne 10, 3) := by decide +kernel
theorem dX7_calls_44 : decode cX7_calls 44 = .ok (.aload_n 0, 1) := by decide +kernel
theorem dX7_calls_45 : decode cX7_calls 45 = .ok (.bipush (-3), 2) := by decide +kernel
theorem dX7_calls_47 : decode cX7_calls 47 = .ok (.invokevirtual 66, 3) := by decide +kernel
theorem dX7_calls_50 : decode cX7_calls 50 = .ok (.ireturn, 1) := by decide +kernel
theorem dX7_calls_51 : decode cX7_calls 51 = .ok (.aload_n 0, 1) := by decide +kernel
theorem dX7_calls_52 : decode cX7_calls 52 = .ok (.getfield 10, 3) := by decide +kernel
theorem dX7_calls_55 : decode cX7_calls 55 = .ok (.invokevirtual 130, 3) := by decide +kernel
theorem dX7_calls_58 : decode cX7_calls 58 = .ok (.aload_n 0, 1) := by decide +kernel
theorem dX7_calls_59 : decode cX7_calls 59 = .ok (.getfield 10, 3) := by decide +kernel
theorem dX7_calls_62 : decode cX7_calls 62 = .ok (.getfield 123, 3) := by decide +kernel
theorem dX7_calls_65 : decode cX7_calls 65 = .ok (.iload_n 1, 1) := by decide +kernel
theorem dX7_calls_66 : decode cX7_calls 66 = .ok (.iload_n 2, 1) := by decide +kernel
theorem dX7_calls_67 : decode cX7_calls 67 = .ok (.invokestatic 133, 3) := by decide +kernel
theorem dX7_calls_70 : decode cX7_calls 70 = .ok (.aload_n 0, 1) := by decide +kernel
theorem dX7_calls_71 : decode cX7_calls 71 = .ok (.getfield 10, 3) := by decide +kernel
theorem dX7_calls_74 : decode cX7_calls 74 = .ok (.iload_n 1, 1) := by decide +kernel
theorem dX7_calls_75 : decode cX7_calls 75 = .ok (.iload_n 2, 1) := by decide +kernel
theorem dX7_calls_76 : decode cX7_calls 76 = .ok (.invokevirtual 137, 3) := by decide +kernel
theorem dX7_calls_79 : decode cX7_calls 79 = .ok (.ireturn, 1) := by decide +kernel
theorem dX7_leaves_0 : decode cX7_leaves 0 = .ok (.aload_n 0, 1) := by decide +kernel
theorem dX7_leaves_1 : decode cX7_leaves 1 = .ok (.getfield 10, 3) := by decide +kernel
theorem dX7_leaves_4 : decode cX7_leaves 4 = .ok (.iload_n 1, 1) := by decide +kernel
theorem dX7_leaves_5 : decode cX7_leaves 5 = .ok (.invokevirtual 116, 3) := by decide +kernel
theorem dX7_leaves_8 : decode cX7_leaves 8 = .ok (.ifCond .ne 10, 3) := by decide +kernel
theorem dX7_leaves_11 : decode cX7_leaves 11 = .ok (.aload_n 0, 1) := by decide +kernel
theorem dX7_leaves_12 : decode cX7_leaves 12 = .ok (.bipush (-2), 2) := by decide +kernel
theorem dX7_leaves_14 : decode cX7_leaves 14 = .ok (.invokevirtual 66, 3) := by decide +kernel
theorem dX7_leaves_17 : decode cX7_leaves 17 = .ok (.ireturn, 1) := by decide +kernel
theorem dX7_leaves_18 : decode cX7_leaves 18 = .ok (.aload_n 0, 1) := by decide +kernel
theorem dX7_leaves_19 : decode cX7_leaves 19 = .ok (.getfield 10, 3) := by decide +kernel
theorem dX7_leaves_22 : decode cX7_leaves 22 = .ok (.getfield 123, 3) := by decide +kernel
theorem dX7_leaves_25 : decode cX7_leaves 25 = .ok (.iload_n 1, 1) := by decide +kernel
theorem dX7_leaves_26 : decode cX7_leaves 26 = .ok (.invokestatic 126, 3) := by decide +kernel
theorem dX7_leaves_29 : decode cX7_leaves 29 = .ok (.istore_n 2, 1) := by decide +kernel
theorem dX7_leaves_30 : decode cX7_leaves 30 = .ok (.iload_n 2, 1) := by decide +kernel
theorem dX7_leaves_31 : decode cX7_leaves 31 = .ok (.iconst (-1), 1) := by decide +kernel
theorem dX7_leaves_32 : decode cX7_leaves 32 = .ok (.if_icmp .ne 10, 3) := by decide +kernel
theorem dX7_leaves_35 : decode cX7_leaves 35 = .ok (.aload_n 0, 1) := by decide +kernel
theorem dX7_leaves_36 : decode cX7_leaves 36 = .ok (.bipush (-3), 2) := by decide +kernel
theorem dX7_leaves_38 : decode cX7_leaves 38 = .ok (.invokevirtual 66, 3) := by decide +kernel
theorem dX7_leaves_41 : decode cX7_leaves 41 = .ok (.ireturn, 1) := by decide +kernel
theorem dX7_leaves_42 : decode cX7_leaves 42 = .ok (.aload_n 0, 1) := by decide +kernel
theorem dX7_leaves_43 : decode cX7_leaves 43 = .ok (.getfield 10, 3) := by decide +kernel
theorem dX7_leaves_46 : decode cX7_leaves 46 = .ok (.invokevirtual 130, 3) := by decide +kernel
theorem dX7_leaves_49 : decode cX7_leaves 49 = .ok (.aload_n 0, 1) := by decide +kernel
theorem dX7_leaves_50 : decode cX7_leaves 50 = .ok (.getfield 10, 3) := by decide +kernel
theorem dX7_leaves_53 : decode cX7_leaves 53 = .ok (.getfield 123, 3) := by decide +kernel
theorem dX7_leaves_56 : decode cX7_leaves 56 = .ok (.iload_n 1, 1) := by decide +kernel
theorem dX7_leaves_57 : decode cX7_leaves 57 = .ok (.iconst (-1), 1) := by decide +kernel
theorem dX7_leaves_58 : decode cX7_leaves 58 = .ok (.invokestatic 133, 3) := by decide +kernel
theorem dX7_leaves_61 : decode cX7_leaves 61 = .ok (.iload_n 2, 1) := by decide +kernel
theorem dX7_leaves_62 : decode cX7_leaves 62 = .ok (.ireturn, 1) := by decide +kernel
theorem dX7_wets_0 : decode cX7_wets 0 = .ok (.iload_n 1, 1) := by decide +kernel
theorem dX7_wets_1 : decode cX7_wets 1 = .ok (.iconst 0, 1) := by decide +kernel
theorem dX7_wets_2 : decode cX7_wets 2 = .ok (.iconst 4, 1) := by decide +kernel
theorem dX7_wets_3 : decode cX7_wets 3 = .ok (.invokestatic 62, 3) := by decide +kernel
theorem dX7_wets_6 : decode cX7_wets 6 = .ok (.ifCond .ne 10, 3) := by decide +kernel
theorem dX7_wets_9 : decode cX7_wets 9 = .ok (.aload_n 0, 1) := by decide +kernel
theorem dX7_wets_10 : decode cX7_wets 10 = .ok (.bipush (-2), 2) := by decide +kernel
theorem dX7_wets_12 : decode cX7_wets 12 = .ok (.invokevirtual 66, 3) := by decide +kernel
theorem dX7_wets_15 : decode cX7_wets 15 = .ok (.ireturn, 1) := by decide +kernel
theorem dX7_wets_16 : decode cX7_wets 16 = .ok (.aload_n 0, 1) := by decide +kernel
theorem dX7_wets_17 : decode cX7_wets 17 = .ok (.getfield 10, 3) := by decide +kernel
theorem dX7_wets_20 : decode cX7_wets 20 = .ok (.getfield 140, 3) := by decide +kernel
theorem dX7_wets_23 : decode cX7_wets 23 = .ok (.istore_n 2, 1) := by decide +kernel
theorem dX7_wets_24 : decode cX7_wets 24 = .ok (.iload_n 2, 1) := by decide +kernel
theorem dX7_wets_25 : decode cX7_wets 25 = .ok (.iload_n 1, 1) := by decide +kernel
theorem dX7_wets_26 : decode cX7_wets 26 = .ok (.if_icmp .ne 10, 3) := by decide +kernel
theorem dX7_wets_29 : decode cX7_wets 29 = .ok (.aload_n 0, 1) := by decide +kernel
theorem dX7_wets_30 : decode cX7_wets 30 = .ok (.bipush (-3), 2) := by decide +kernel
theorem dX7_wets_32 : decode cX7_wets 32 = .ok (.invokevirtual 66, 3) := by decide +kernel
theorem dX7_wets_35 : decode cX7_wets 35 = .ok (.ireturn, 1) := by decide +kernel
theorem dX7_wets_36 : decode cX7_wets 36 = .ok (.aload_n 0, 1) := by decide +kernel
theorem dX7_wets_37 : decode cX7_wets 37 = .ok (.getfield 10, 3) := by decide +kernel
theorem dX7_wets_40 : decode cX7_wets 40 = .ok (.invokevirtual 130, 3) := by decide +kernel
theorem dX7_wets_43 : decode cX7_wets 43 = .ok (.aload_n 0, 1) := by decide +kernel
theorem dX7_wets_44 : decode cX7_wets 44 = .ok (.getfield 10, 3) := by decide +kernel
theorem dX7_wets_47 : decode cX7_wets 47 = .ok (.iload_n 1, 1) := by decide +kernel
theorem dX7_wets_48 : decode cX7_wets 48 = .ok (.putfield 140, 3) := by decide +kernel
theorem dX7_wets_51 : decode cX7_wets 51 = .ok (.iload_n 2, 1) := by decide +kernel
theorem dX7_wets_52 : decode cX7_wets 52 = .ok (.ireturn, 1) := by decide +kernel
theorem dX7_evenings_0 : decode cX7_evenings 0 = .ok (.iload_n 1, 1) := by decide +kernel
theorem dX7_evenings_1 : decode cX7_evenings 1 = .ok (.iconst 1, 1) := by decide +kernel
theorem dX7_evenings_2 : decode cX7_evenings 2 = .ok (.bipush 60, 2) := by decide +kernel
theorem dX7_evenings_4 : decode cX7_evenings 4 = .ok (.invokestatic 62, 3) := by decide +kernel
theorem dX7_evenings_7 : decode cX7_evenings 7 = .ok (.ifCond .ne 10, 3) := by decide +kernel
theorem dX7_evenings_10 : decode cX7_evenings 10 = .ok (.aload_n 0, 1) := by decide +kernel
theorem dX7_evenings_11 : decode cX7_evenings 11 = .ok (.bipush (-2), 2) := by decide +kernel
theorem dX7_evenings_13 : decode cX7_evenings 13 = .ok (.invokevirtual 66, 3) := by decide +kernel
theorem dX7_evenings_16 : decode cX7_evenings 16 = .ok (.ireturn, 1) := by decide +kernel
theorem dX7_evenings_17 : decode cX7_evenings 17 = .ok (.aload_n 0, 1) := by decide +kernel
theorem dX7_evenings_18 : decode cX7_evenings 18 = .ok (.getfield 10, 3) := by decide +kernel
theorem dX7_evenings_21 : decode cX7_evenings 21 = .ok (.invokevirtual 130, 3) := by decide +kernel
theorem dX7_evenings_24 : decode cX7_evenings 24 = .ok (.aload_n 0, 1) := by decide +kernel
theorem dX7_evenings_25 : decode cX7_evenings 25 = .ok (.getfield 10, 3) := by decide +kernel
theorem dX7_evenings_28 : decode cX7_evenings 28 = .ok (.iload_n 1, 1) := by decide +kernel
theorem dX7_evenings_29 : decode cX7_evenings 29 = .ok (.invokevirtual 143, 3) := by decide +kernel
theorem dX7_evenings_32 : decode cX7_evenings 32 = .ok (.aload_n 0, 1) := by decide +kernel
theorem dX7_evenings_33 : decode cX7_evenings 33 = .ok (.getfield 10, 3) := by decide +kernel
theorem dX7_evenings_36 : decode cX7_evenings 36 = .ok (.invokevirtual 146, 3) := by decide +kernel
theorem dX7_evenings_39 : decode cX7_evenings 39 = .ok (.ireturn, 1) := by decide +kernel
theorem dX7_undo_0 : decode cX7_undo 0 = .ok (.aload_n 0, 1) := by decide +kernel
theorem dX7_undo_1 : decode cX7_undo 1 = .ok (.getfield 10, 3) := by decide +kernel
theorem dX7_undo_4 : decode cX7_undo 4 = .ok (.getfield 150, 3) := by decide +kernel
theorem dX7_undo_7 : decode cX7_undo 7 = .ok (.getfield 154, 3) := by decide +kernel
theorem dX7_undo_10 : decode cX7_undo 10 = .ok (.ifCond .ne 10, 3) := by decide +kernel
theorem dX7_undo_13 : decode cX7_undo 13 = .ok (.aload_n 0, 1) := by decide +kernel
theorem dX7_undo_14 : decode cX7_undo 14 = .ok (.bipush (-3), 2) := by decide +kernel
theorem dX7_undo_16 : decode cX7_undo 16 = .ok (.invokevirtual 66, 3) := by decide +kernel
theorem dX7_undo_19 : decode cX7_undo 19 = .ok (.ireturn, 1) := by decide +kernel
theorem dX7_undo_20 : decode cX7_undo 20 = .ok (.aload_n 0, 1) := by decide +kernel
theorem dX7_undo_21 : decode cX7_undo 21 = .ok (.getfield 10, 3) := by decide +kernel
theorem dX7_undo_24 : decode cX7_undo 24 = .ok (.invokevirtual 159, 3) := by decide +kernel
theorem dX7_undo_27 : decode cX7_undo 27 = .ok (.aload_n 0, 1) := by decide +kernel
theorem dX7_undo_28 : decode cX7_undo 28 = .ok (.getfield 10, 3) := by decide +kernel
theorem dX7_undo_31 : decode cX7_undo 31 = .ok (.getfield 162, 3) := by decide +kernel
theorem dX7_undo_34 : decode cX7_undo 34 = .ok (.ireturn, 1) := by decide +kernel
theorem dX7_of_0 : decode cX7_of 0 = .ok (.aload_n 0, 1) := by decide +kernel
theorem dX7_of_1 : decode cX7_of 1 = .ok (.getfield 10, 3) := by decide +kernel
theorem dX7_of_4 : decode cX7_of 4 = .ok (.iload_n 1, 1) := by decide +kernel
theorem dX7_of_5 : decode cX7_of 5 = .ok (.invokevirtual 116, 3) := by decide +kernel
theorem dX7_of_8 : decode cX7_of 8 = .ok (.ifCond .eq 12, 3) := by decide +kernel
theorem dX7_of_11 : decode cX7_of 11 = .ok (.iload_n 2, 1) := by decide +kernel
theorem dX7_of_12 : decode cX7_of 12 = .ok (.iconst 0, 1) := by decide +kernel
theorem dX7_of_13 : decode cX7_of 13 = .ok (.iconst 3, 1) := by decide +kernel
theorem dX7_of_14 : decode cX7_of 14 = .ok (.invokestatic 62, 3) := by decide +kernel
theorem dX7_of_17 : decode cX7_of 17 = .ok (.ifCond .ne 10, 3) := by decide +kernel
theorem dX7_of_20 : decode cX7_of 20 = .ok (.aload_n 0, 1) := by decide +kernel
theorem dX7_of_21 : decode cX7_of 21 = .ok (.bipush (-2), 2) := by decide +kernel
theorem dX7_of_23 : decode cX7_of 23 = .ok (.invokevirtual 66, 3) := by decide +kernel
theorem dX7_of_26 : decode cX7_of 26 = .ok (.ireturn, 1) := by decide +kernel
theorem dX7_of_27 : decode cX7_of 27 = .ok (.iload_n 2, 1) := by decide +kernel
theorem dX7_of_28 : decode cX7_of 28 = .ok (.tableswitch 64 0 2 #[28, 40, 52], 28) := by decide +kernel
theorem dX7_of_56 : decode cX7_of 56 = .ok (.aload_n 0, 1) := by decide +kernel
theorem dX7_of_57 : decode cX7_of 57 = .ok (.getfield 10, 3) := by decide +kernel
theorem dX7_of_60 : decode cX7_of 60 = .ok (.getfield 165, 3) := by decide +kernel
theorem dX7_of_63 : decode cX7_of 63 = .ok (.iload_n 1, 1) := by decide +kernel
theorem dX7_of_64 : decode cX7_of 64 = .ok (.invokestatic 126, 3) := by decide +kernel
theorem dX7_of_67 : decode cX7_of 67 = .ok (.ireturn, 1) := by decide +kernel
theorem dX7_of_68 : decode cX7_of 68 = .ok (.aload_n 0, 1) := by decide +kernel
theorem dX7_of_69 : decode cX7_of 69 = .ok (.getfield 10, 3) := by decide +kernel
theorem dX7_of_72 : decode cX7_of 72 = .ok (.getfield 168, 3) := by decide +kernel
theorem dX7_of_75 : decode cX7_of 75 = .ok (.iload_n 1, 1) := by decide +kernel
theorem dX7_of_76 : decode cX7_of 76 = .ok (.invokestatic 126, 3) := by decide +kernel
theorem dX7_of_79 : decode cX7_of 79 = .ok (.ireturn, 1) := by decide +kernel
theorem dX7_of_80 : decode cX7_of 80 = .ok (.aload_n 0, 1) := by decide +kernel
theorem dX7_of_81 : decode cX7_of 81 = .ok (.getfield 10, 3) := by decide +kernel
theorem dX7_of_84 : decode cX7_of 84 = .ok (.getfield 123, 3) := by decide +kernel
theorem dX7_of_87 : decode cX7_of 87 = .ok (.iload_n 1, 1) := by decide +kernel
theorem dX7_of_88 : decode cX7_of 88 = .ok (.invokestatic 126, 3) := by decide +kernel
theorem dX7_of_91 : decode cX7_of 91 = .ok (.ireturn, 1) := by decide +kernel
theorem dX7_of_92 : decode cX7_of 92 = .ok (.aload_n 0, 1) := by decide +kernel
theorem dX7_of_93 : decode cX7_of 93 = .ok (.getfield 10, 3) := by decide +kernel
theorem dX7_of_96 : decode cX7_of 96 = .ok (.iload_n 1, 1) := by decide +kernel
theorem dX7_of_97 : decode cX7_of 97 = .ok (.aload_n 0, 1) := by decide +kernel
theorem dX7_of_98 : decode cX7_of 98 = .ok (.getfield 10, 3) := by decide +kernel
theorem dX7_of_101 : decode cX7_of 101 = .ok (.getfield 123, 3) := by decide +kernel
theorem dX7_of_104 : decode cX7_of 104 = .ok (.iload_n 1, 1) := by decide +kernel
theorem dX7_of_105 : decode cX7_of 105 = .ok (.invokestatic 126, 3) := by decide +kernel
theorem dX7_of_108 : decode cX7_of 108 = .ok (.invokevirtual 137, 3) := by decide +kernel
theorem dX7_of_111 : decode cX7_of 111 = .ok (.ireturn, 1) := by decide +kernel
theorem dX7_about_0 : decode cX7_about 0 = .ok (.aload_n 0, 1) := by decide +kernel
theorem dX7_about_1 : decode cX7_about 1 = .ok (.getfield 10, 3) := by decide +kernel
theorem dX7_about_4 : decode cX7_about 4 = .ok (.iload_n 1, 1) := by decide +kernel
theorem dX7_about_5 : decode cX7_about 5 = .ok (.invokevirtual 120, 3) := by decide +kernel
theorem dX7_about_8 : decode cX7_about 8 = .ok (.ifCond .eq 12, 3) := by decide +kernel
theorem dX7_about_11 : decode cX7_about 11 = .ok (.iload_n 2, 1) := by decide +kernel
theorem dX7_about_12 : decode cX7_about 12 = .ok (.iconst 0, 1) := by decide +kernel
theorem dX7_about_13 : decode cX7_about 13 = .ok (.iconst 4, 1) := by decide +kernel
theorem dX7_about_14 : decode cX7_about 14 = .ok (.invokestatic 62, 3) := by decide +kernel
theorem dX7_about_17 : decode cX7_about 17 = .ok (.ifCond .ne 10, 3) := by decide +kernel
theorem dX7_about_20 : decode cX7_about 20 = .ok (.aload_n 0, 1) := by decide +kernel
theorem dX7_about_21 : decode cX7_about 21 = .ok (.bipush (-2), 2) := by decide +kernel
theorem dX7_about_23 : decode cX7_about 23 = .ok (.invokevirtual 66, 3) := by decide +kernel
theorem dX7_about_26 : decode cX7_about 26 = .ok (.ireturn, 1) := by decide +kernel
theorem dX7_about_27 : decode cX7_about 27 = .ok (.iload_n 2, 1) := by decide +kernel
theorem dX7_about_28 : decode cX7_about 28 = .ok (.tableswitch 77 0 3 #[32, 44, 56, 68], 32) := by decide +kernel
theorem dX7_about_60 : decode cX7_about 60 = .ok (.aload_n 0, 1) := by decide +kernel
theorem dX7_about_61 : decode cX7_about 61 = .ok (.getfield 10, 3) := by decide +kernel
theorem dX7_about_64 : decode cX7_about 64 = .ok (.getfield 171, 3) := by decide +kernel
theorem dX7_about_67 : decode cX7_about 67 = .ok (.iload_n 1, 1) := by decide +kernel
theorem dX7_about_68 : decode cX7_about 68 = .ok (.invokestatic 126, 3) := by decide +kernel
theorem dX7_about_71 : decode cX7_about 71 = .ok (.ireturn, 1) := by decide +kernel
theorem dX7_about_72 : decode cX7_about 72 = .ok (.aload_n 0, 1) := by decide +kernel
theorem dX7_about_73 : decode cX7_about 73 = .ok (.getfield 10, 3) := by decide +kernel
theorem dX7_about_76 : decode cX7_about 76 = .ok (.getfield 174, 3) := by decide +kernel
theorem dX7_about_79 : decode cX7_about 79 = .ok (.iload_n 1, 1) := by decide +kernel
theorem dX7_about_80 : decode cX7_about 80 = .ok (.invokestatic 126, 3) := by decide +kernel
theorem dX7_about_83 : decode cX7_about 83 = .ok (.ireturn, 1) := by decide +kernel
theorem dX7_about_84 : decode cX7_about 84 = .ok (.aload_n 0, 1) := by decide +kernel
theorem dX7_about_85 : decode cX7_about 85 = .ok (.getfield 10, 3) := by decide +kernel
theorem dX7_about_88 : decode cX7_about 88 = .ok (.getfield 177, 3) := by decide +kernel
theorem dX7_about_91 : decode cX7_about 91 = .ok (.iload_n 1, 1) := by decide +kernel
theorem dX7_about_92 : decode cX7_about 92 = .ok (.invokestatic 126, 3) := by decide +kernel
theorem dX7_about_95 : decode cX7_about 95 = .ok (.ireturn, 1) := by decide +kernel
theorem dX7_about_96 : decode cX7_about 96 = .ok (.aload_n 0, 1) := by decide +kernel
theorem dX7_about_97 : decode cX7_about 97 = .ok (.getfield 10, 3) := by decide +kernel
theorem dX7_about_100 : decode cX7_about 100 = .ok (.iload_n 1, 1) := by decide +kernel
theorem dX7_about_101 : decode cX7_about 101 = .ok (.invokevirtual 180, 3) := by decide +kernel
theorem dX7_about_104 : decode cX7_about 104 = .ok (.ireturn, 1) := by decide +kernel
theorem dX7_about_105 : decode cX7_about 105 = .ok (.aload_n 0, 1) := by decide +kernel
theorem dX7_about_106 : decode cX7_about 106 = .ok (.getfield 10, 3) := by decide +kernel
theorem dX7_about_109 : decode cX7_about 109 = .ok (.iload_n 1, 1) := by decide +kernel
theorem dX7_about_110 : decode cX7_about 110 = .ok (.invokevirtual 183, 3) := by decide +kernel
theorem dX7_about_113 : decode cX7_about 113 = .ok (.ireturn, 1) := by decide +kernel
theorem dX7_great_0 : decode cX7_great 0 = .ok (.aload_n 0, 1) := by decide +kernel
theorem dX7_great_1 : decode cX7_great 1 = .ok (.getfield 10, 3) := by decide +kernel
theorem dX7_great_4 : decode cX7_great 4 = .ok (.iload_n 1, 1) := by decide +kernel
theorem dX7_great_5 : decode cX7_great 5 = .ok (.invokevirtual 116, 3) := by decide +kernel
theorem dX7_great_8 : decode cX7_great 8 = .ok (.ifCond .eq 12, 3) := by decide +kernel
theorem dX7_great_11 : decode cX7_great 11 = .ok (.iload_n 2, 1) := by decide +kernel
theorem dX7_great_12 : decode cX7_great 12 = .ok (.iconst 0, 1) := by decide +kernel
theorem dX7_great_13 : decode cX7_great 13 = .ok (.iconst 4, 1) := by decide +kernel
theorem dX7_great_14 : decode cX7_great 14 = .ok (.invokestatic 62, 3) := by decide +kernel
theorem dX7_great_17 : decode cX7_great 17 = .ok (.ifCond .ne 10, 3) := by decide +kernel
theorem dX7_great_20 : decode cX7_great 20 = .ok (.aload_n 0, 1) := by decide +kernel
theorem dX7_great_21 : decode cX7_great 21 = .ok (.bipush (-2), 2) := by decide +kernel
theorem dX7_great_23 : decode cX7_great 23 = .ok (.invokevirtual 66, 3) := by decide +kernel
theorem dX7_great_26 : decode cX7_great 26 = .ok (.ireturn, 1) := by decide +kernel
theorem dX7_great_27 : decode cX7_great 27 = .ok (.aload_n 0, 1) := by decide +kernel
theorem dX7_great_28 : decode cX7_great 28 = .ok (.getfield 10, 3) := by decide +kernel
theorem dX7_great_31 : decode cX7_great 31 = .ok (.getfield 165, 3) := by decide +kernel
theorem dX7_great_34 : decode cX7_great 34 = .ok (.iload_n 1, 1) := by decide +kernel
theorem dX7_great_35 : decode cX7_great 35 = .ok (.invokestatic 126, 3) := by decide +kernel
theorem dX7_great_38 : decode cX7_great 38 = .ok (.aload_n 0, 1) := by decide +kernel
theorem dX7_great_39 : decode cX7_great 39 = .ok (.getfield 10, 3) := by decide +kernel
theorem dX7_great_42 : decode cX7_great 42 = .ok (.getfield 168, 3) := by decide +kernel
theorem dX7_great_45 : decode cX7_great 45 = .ok (.iload_n 1, 1) := by decide +kernel
theorem dX7_great_46 : decode cX7_great 46 = .ok (.invokestatic 126, 3) := by decide +kernel
theorem dX7_great_49 : decode cX7_great 49 = .ok (.iload_n 2, 1) := by decide +kernel
theorem dX7_great_50 : decode cX7_great 50 = .ok (.invokestatic 186, 3) := by decide +kernel
theorem dX7_great_53 : decode cX7_great 53 = .ok (.ireturn, 1) := by decide +kernel
theorem dX7_stays_0 : decode cX7_stays 0 = .ok (.aload_n 0, 1) := by decide +kernel
theorem dX7_stays_1 : decode cX7_stays 1 = .ok (.getfield 10, 3) := by decide +kernel
theorem dX7_stays_4 : decode cX7_stays 4 = .ok (.iload_n 1, 1) := by decide +kernel
theorem dX7_stays_5 : decode cX7_stays 5 = .ok (.invokevirtual 116, 3) := by decide +kernel
theorem dX7_stays_8 : decode cX7_stays 8 = .ok (.ifCond .eq 14, 3) := by decide +kernel
theorem dX7_stays_11 : decode cX7_stays 11 = .ok (.aload_n 0, 1) := by decide +kernel
theorem dX7_stays_12 : decode cX7_stays 12 = .ok (.getfield 10, 3) := by decide +kernel
theorem dX7_stays_15 : decode cX7_stays 15 = .ok (.iload_n 2, 1) := by decide +kernel
theorem dX7_stays_16 : decode cX7_stays 16 = .ok (.invokevirtual 120, 3) := by decide +kernel
theorem dX7_stays_19 : decode cX7_stays 19 = .ok (.ifCond .ne 10, 3) := by decide +kernel
theorem dX7_stays_22 : decode cX7_stays 22 = .ok (.aload_n 0, 1) := by decide +kernel
theorem dX7_stays_23 : decode cX7_stays 23 = .ok (.bipush (-2), 2) := by decide +kernel
theorem dX7_stays_25 : decode cX7_stays 25 = .ok (.invokevirtual 66, 3) := by decide +kernel
theorem dX7_stays_28 : decode cX7_stays 28 = .ok (.ireturn, 1) := by decide +kernel
theorem dX7_stays_29 : decode cX7_stays 29 = .ok (.aload_n 0, 1) := by decide +kernel
theorem dX7_stays_30 : decode cX7_stays 30 = .ok (.getfield 10, 3) := by decide +kernel
theorem dX7_stays_33 : decode cX7_stays 33 = .ok (.iload_n 1, 1) := by decide +kernel
theorem dX7_stays_34 : decode cX7_stays 34 = .ok (.iload_n 2, 1) := by decide +kernel
theorem dX7_stays_35 : decode cX7_stays 35 = .ok (.invokevirtual 137, 3) := by decide +kernel
theorem dX7_stays_38 : decode cX7_stays 38 = .ok (.ireturn, 1) := by decide +kernel
theorem dX7_then_0 : decode cX7_then 0 = .ok (.aload_n 0, 1) := by decide +kernel
theorem dX7_then_1 : decode cX7_then 1 = .ok (.getfield 10, 3) := by decide +kernel
theorem dX7_then_4 : decode cX7_then 4 = .ok (.iload_n 1, 1) := by decide +kernel
theorem dX7_then_5 : decode cX7_then 5 = .ok (.invokevirtual 120, 3) := by decide +kernel
theorem dX7_then_8 : decode cX7_then 8 = .ok (.ifCond .eq 13, 3) := by decide +kernel
theorem dX7_then_11 : decode cX7_then 11 = .ok (.iload_n 2, 1) := by decide +kernel
theorem dX7_then_12 : decode cX7_then 12 = .ok (.iconst 0, 1) := by decide +kernel
theorem dX7_then_13 : decode cX7_then 13 = .ok (.bipush 60, 2) := by decide +kernel
theorem dX7_then_15 : decode cX7_then 15 = .ok (.invokestatic 62, 3) := by decide +kernel
theorem dX7_then_18 : decode cX7_then 18 = .ok (.ifCond .ne 10, 3) := by decide +kernel
theorem dX7_then_21 : decode cX7_then 21 = .ok (.aload_n 0, 1) := by decide +kernel
theorem dX7_then_22 : decode cX7_then 22 = .ok (.bipush (-2), 2) := by decide +kernel
theorem dX7_then_24 : decode cX7_then 24 = .ok (.invokevirtual 66, 3) := by decide +kernel
theorem dX7_then_27 : decode cX7_then 27 = .ok (.ireturn, 1) := by decide +kernel
theorem dX7_then_28 : decode cX7_then 28 = .ok (.aload_n 0, 1) := by decide +kernel
theorem dX7_then_29 : decode cX7_then 29 = .ok (.getfield 10, 3) := by decide +kernel
theorem dX7_then_32 : decode cX7_then 32 = .ok (.iload_n 1, 1) := by decide +kernel
theorem dX7_then_33 : decode cX7_then 33 = .ok (.iload_n 2, 1) := by decide +kernel
theorem dX7_then_34 : decode cX7_then 34 = .ok (.invokevirtual 192, 3) := by decide +kernel
theorem dX7_then_37 : decode cX7_then 37 = .ok (.ireturn, 1) := by decide +kernel
theorem dX7_when_0 : decode cX7_when 0 = .ok (.aload_n 0, 1) := by decide +kernel
theorem dX7_when_1 : decode cX7_when 1 = .ok (.getfield 10, 3) := by decide +kernel
theorem dX7_when_4 : decode cX7_when 4 = .ok (.iload_n 1, 1) := by decide +kernel
theorem dX7_when_5 : decode cX7_when 5 = .ok (.invokevirtual 120, 3) := by decide +kernel
theorem dX7_when_8 : decode cX7_when 8 = .ok (.ifCond .eq 14, 3) := by decide +kernel
theorem dX7_when_11 : decode cX7_when 11 = .ok (.iload_n 2, 1) := by decide +kernel
theorem dX7_when_12 : decode cX7_when 12 = .ok (.iconst 1, 1) := by decide +kernel
theorem dX7_when_13 : decode cX7_when 13 = .ok (.sipush 999, 3) := by decide +kernel
theorem dX7_when_16 : decode cX7_when 16 = .ok (.invokestatic 62, 3) := by decide +kernel
theorem dX7_when_19 : decode cX7_when 19 = .ok (.ifCond .ne 10, 3) := by decide +kernel
theorem dX7_when_22 : decode cX7_when 22 = .ok (.aload_n 0, 1) := by decide +kernel
theorem dX7_when_23 : decode cX7_when 23 = .ok (.bipush (-2), 2) := by decide +kernel
theorem dX7_when_25 : decode cX7_when 25 = .ok (.invokevirtual 66, 3) := by decide +kernel
theorem dX7_when_28 : decode cX7_when 28 = .ok (.ireturn, 1) := by decide +kernel
theorem dX7_when_29 : decode cX7_when 29 = .ok (.iconst 0, 1) := by decide +kernel
theorem dX7_when_30 : decode cX7_when 30 = .ok (.istore_n 3, 1) := by decide +kernel
theorem dX7_when_31 : decode cX7_when 31 = .ok (.iload_n 3, 1) := by decide +kernel
theorem dX7_when_32 : decode cX7_when 32 = .ok (.bipush 60, 2) := by decide +kernel
theorem dX7_when_34 : decode cX7_when 34 = .ok (.if_icmp .gt 24, 3) := by decide +kernel
theorem dX7_when_37 : decode cX7_when 37 = .ok (.aload_n 0, 1) := by decide +kernel
theorem dX7_when_38 : decode cX7_when 38 = .ok (.getfield 10, 3) := by decide +kernel
theorem dX7_when_41 : decode cX7_when 41 = .ok (.iload_n 1, 1) := by decide +kernel
theorem dX7_when_42 : decode cX7_when 42 = .ok (.iload_n 3, 1) := by decide +kernel
theorem dX7_when_43 : decode cX7_when 43 = .ok (.invokevirtual 192, 3) := by decide +kernel
theorem dX7_when_46 : decode cX7_when 46 = .ok (.iload_n 2, 1) := by decide +kernel
theorem dX7_when_47 : decode cX7_when 47 = .ok (.if_icmp .lt 5, 3) := by decide +kernel
theorem dX7_when_50 : decode cX7_when 50 = .ok (.iload_n 3, 1) := by decide +kernel
theorem dX7_when_51 : decode cX7_when 51 = .ok (.ireturn, 1) := by decide +kernel
theorem dX7_when_52 : decode cX7_when 52 = .ok (.iinc 3 1, 3) := by decide +kernel
theorem dX7_when_55 : decode cX7_when 55 = .ok (.goto (-24), 3) := by decide +kernel
theorem dX7_when_58 : decode cX7_when 58 = .ok (.iconst (-1), 1) := by decide +kernel
theorem dX7_when_59 : decode cX7_when 59 = .ok (.ireturn, 1) := by decide +kernel
theorem dX7_most_0 : decode cX7_most 0 = .ok (.aload_n 0, 1) := by decide +kernel
theorem dX7_most_1 : decode cX7_most 1 = .ok (.getfield 10, 3) := by decide +kernel
theorem dX7_most_4 : decode cX7_most 4 = .ok (.iload_n 1, 1) := by decide +kernel
theorem dX7_most_5 : decode cX7_most 5 = .ok (.invokevirtual 116, 3) := by decide +kernel
theorem dX7_most_8 : decode cX7_most 8 = .ok (.ifCond .eq 12, 3) := by decide +kernel
theorem dX7_most_11 : decode cX7_most 11 = .ok (.iload_n 2, 1) := by decide +kernel
theorem dX7_most_12 : decode cX7_most 12 = .ok (.iconst 0, 1) := by decide +kernel
theorem dX7_most_13 : decode cX7_most 13 = .ok (.iconst 1, 1) := by decide +kernel
theorem dX7_most_14 : decode cX7_most 14 = .ok (.invokestatic 62, 3) := by decide +kernel
theorem dX7_most_17 : decode cX7_most 17 = .ok (.ifCond .ne 10, 3) := by decide +kernel
theorem dX7_most_20 : decode cX7_most 20 = .ok (.aload_n 0, 1) := by decide +kernel
theorem dX7_most_21 : decode cX7_most 21 = .ok (.bipush (-2), 2) := by decide +kernel
theorem dX7_most_23 : decode cX7_most 23 = .ok (.invokevirtual 66, 3) := by decide +kernel
theorem dX7_most_26 : decode cX7_most 26 = .ok (.ireturn, 1) := by decide +kernel
theorem dX7_most_27 : decode cX7_most 27 = .ok (.iconst (-1), 1) := by decide +kernel
theorem dX7_most_28 : decode cX7_most 28 = .ok (.istore_n 3, 1) := by decide +kernel
theorem dX7_most_29 : decode cX7_most 29 = .ok (.iconst 0, 1) := by decide +kernel
theorem dX7_most_30 : decode cX7_most 30 = .ok (.istore 4, 2) := by decide +kernel
theorem dX7_most_32 : decode cX7_most 32 = .ok (.iconst 0, 1) := by decide +kernel
theorem dX7_most_33 : decode cX7_most 33 = .ok (.istore 5, 2) := by decide +kernel
theorem dX7_most_35 : decode cX7_most 35 = .ok (.iload 5, 2) := by decide +kernel
theorem dX7_most_37 : decode cX7_most 37 = .ok (.aload_n 0, 1) := by decide +kernel
theorem dX7_most_38 : decode cX7_most 38 = .ok (.getfield 10, 3) := by decide +kernel
theorem dX7_most_41 : decode cX7_most 41 = .ok (.getfield 81, 3) := by decide +kernel
theorem dX7_most_44 : decode cX7_most 44 = .ok (.if_icmp .ge 40, 3) := by decide +kernel
theorem dX7_most_47 : decode cX7_most 47 = .ok (.aload_n 0, 1) := by decide +kernel
theorem dX7_most_48 : decode cX7_most 48 = .ok (.getfield 10, 3) := by decide +kernel
theorem dX7_most_51 : decode cX7_most 51 = .ok (.iload_n 1, 1) := by decide +kernel
theorem dX7_most_52 : decode cX7_most 52 = .ok (.iload 5, 2) := by decide +kernel
theorem dX7_most_54 : decode cX7_most 54 = .ok (.invokevirtual 195, 3) := by decide +kernel
theorem dX7_most_57 : decode cX7_most 57 = .ok (.istore 6, 2) := by decide +kernel
theorem dX7_most_59 : decode cX7_most 59 = .ok (.iload_n 3, 1) := by decide +kernel
theorem dX7_most_60 : decode cX7_most 60 = .ok (.iconst (-1), 1) := by decide +kernel
theorem dX7_most_61 : decode cX7_most 61 = .ok (.if_icmp .eq 10, 3) := by decide +kernel
theorem dX7_most_64 : decode cX7_most 64 = .ok (.iload 6, 2) := by decide +kernel
theorem dX7_most_66 : decode cX7_most 66 = .ok (.iload 4, 2) := by decide +kernel
theorem dX7_most_68 : decode cX7_most 68 = .ok (.if_icmp .le 10, 3) := by decide +kernel
theorem dX7_most_71 : decode cX7_most 71 = .ok (.iload 5, 2) := by decide +kernel
theorem dX7_most_73 : decode cX7_most 73 = .ok (.istore_n 3, 1) := by decide +kernel
theorem dX7_most_74 : decode cX7_most 74 = .ok (.iload 6, 2) := by decide +kernel
theorem dX7_most_76 : decode cX7_most 76 = .ok (.istore 4, 2) := by decide +kernel
theorem dX7_most_78 : decode cX7_most 78 = .ok (.iinc 5 1, 3) := by decide +kernel
theorem dX7_most_81 : decode cX7_most 81 = .ok (.goto (-46), 3) := by decide +kernel
theorem dX7_most_84 : decode cX7_most 84 = .ok (.iload_n 2, 1) := by decide +kernel
theorem dX7_most_85 : decode cX7_most 85 = .ok (.ifCond .ne 7, 3) := by decide +kernel
theorem dX7_most_88 : decode cX7_most 88 = .ok (.iload_n 3, 1) := by decide +kernel
theorem dX7_most_89 : decode cX7_most 89 = .ok (.goto 5, 3) := by decide +kernel
theorem dX7_most_92 : decode cX7_most 92 = .ok (.iload 4, 2) := by decide +kernel
theorem dX7_most_94 : decode cX7_most 94 = .ok (.ireturn, 1) := by decide +kernel
theorem dX7_round_0 : decode cX7_round 0 = .ok (.aload_n 0, 1) := by decide +kernel
theorem dX7_round_1 : decode cX7_round 1 = .ok (.getfield 10, 3) := by decide +kernel
theorem dX7_round_4 : decode cX7_round 4 = .ok (.iload_n 1, 1) := by decide +kernel
theorem dX7_round_5 : decode cX7_round 5 = .ok (.invokevirtual 116, 3) := by decide +kernel
theorem dX7_round_8 : decode cX7_round 8 = .ok (.ifCond .ne 10, 3) := by decide +kernel
theorem dX7_round_11 : decode cX7_round 11 = .ok (.aload_n 0, 1) := by decide +kernel
theorem dX7_round_12 : decode cX7_round 12 = .ok (.bipush (-2), 2) := by decide +kernel
theorem dX7_round_14 : decode cX7_round 14 = .ok (.invokevirtual 66, 3) := by decide +kernel
theorem dX7_round_17 : decode cX7_round 17 = .ok (.ireturn, 1) := by decide +kernel
theorem dX7_round_18 : decode cX7_round 18 = .ok (.iconst (-1), 1) := by decide +kernel
theorem dX7_round_19 : decode cX7_round 19 = .ok (.istore_n 2, 1) := by decide +kernel
theorem dX7_round_20 : decode cX7_round 20 = .ok (.iconst 1, 1) := by decide +kernel
theorem dX7_round_21 : decode cX7_round 21 = .ok (.istore_n 3, 1) := by decide +kernel
theorem dX7_round_22 : decode cX7_round 22 = .ok (.iload_n 3, 1) := by decide +kernel
theorem dX7_round_23 : decode cX7_round 23 = .ok (.iconst 1, 1) := by decide +kernel
theorem dX7_round_24 : decode cX7_round 24 = .ok (.aload_n 0, 1) := by decide +kernel
theorem dX7_round_25 : decode cX7_round 25 = .ok (.getfield 10, 3) := by decide +kernel
theorem dX7_round_28 : decode cX7_round 28 = .ok (.getfield 81, 3) := by decide +kernel
theorem dX7_round_31 : decode cX7_round 31 = .ok (.ishl, 1) := by decide +kernel
theorem dX7_round_32 : decode cX7_round 32 = .ok (.if_icmp .ge 53, 3) := by decide +kernel
theorem dX7_round_35 : decode cX7_round 35 = .ok (.iload_n 2, 1) := by decide +kernel
theorem dX7_round_36 : decode cX7_round 36 = .ok (.iconst (-1), 1) := by decide +kernel
theorem dX7_round_37 : decode cX7_round 37 = .ok (.if_icmp .eq 14, 3) := by decide +kernel
theorem dX7_round_40 : decode cX7_round 40 = .ok (.iload_n 3, 1) := by decide +kernel
theorem dX7_round_41 : decode cX7_round 41 = .ok (.invokestatic 198, 3) := by decide +kernel
theorem dX7_round_44 : decode cX7_round 44 = .ok (.iload_n 2, 1) := by decide +kernel
theorem dX7_round_45 : decode cX7_round 45 = .ok (.invokestatic 198, 3) := by decide +kernel
theorem dX7_round_48 : decode cX7_round 48 = .ok (.if_icmp .ge 7, 3) := by decide +kernel
theorem dX7_round_51 : decode cX7_round 51 = .ok (.iconst 1, 1) := by decide +kernel
theorem dX7_round_52 : decode cX7_round 52 = .ok (.goto 4, 3) := by decide +kernel
theorem dX7_round_55 : decode cX7_round 55 = .ok (.iconst 0, 1) := by decide +kernel
theorem dX7_round_56 : decode cX7_round 56 = .ok (.istore 4, 2) := by decide +kernel
theorem dX7_round_58 : decode cX7_round 58 = .ok (.iload 4, 2) := by decide +kernel
theorem dX7_round_60 : decode cX7_round 60 = .ok (.ifCond .eq 19, 3) := by decide +kernel
theorem dX7_round_63 : decode cX7_round 63 = .ok (.aload_n 0, 1) := by decide +kernel
theorem dX7_round_64 : decode cX7_round 64 = .ok (.getfield 10, 3) := by decide +kernel
theorem dX7_round_67 : decode cX7_round 67 = .ok (.iload_n 1, 1) := by decide +kernel
theorem dX7_round_68 : decode cX7_round 68 = .ok (.iload_n 3, 1) := by decide +kernel
theorem dX7_round_69 : decode cX7_round 69 = .ok (.invokevirtual 203, 3) := by decide +kernel
theorem dX7_round_72 : decode cX7_round 72 = .ok (.bipush 31, 2) := by decide +kernel
theorem dX7_round_74 : decode cX7_round 74 = .ok (.if_icmp .ne 5, 3) := by decide +kernel
theorem dX7_round_77 : decode cX7_round 77 = .ok (.iload_n 3, 1) := by decide +kernel
theorem dX7_round_78 : decode cX7_round 78 = .ok (.istore_n 2, 1) := by decide +kernel
theorem dX7_round_79 : decode cX7_round 79 = .ok (.iinc 3 1, 3) := by decide +kernel
theorem dX7_round_82 : decode cX7_round 82 = .ok (.goto (-60), 3) := by decide +kernel
theorem dX7_round_85 : decode cX7_round 85 = .ok (.iload_n 2, 1) := by decide +kernel
theorem dX7_round_86 : decode cX7_round 86 = .ok (.ireturn, 1) := by decide +kernel
theorem dX7_mesh_0 : decode cX7_mesh 0 = .ok (.aload_n 0, 1) := by decide +kernel
theorem dX7_mesh_1 : decode cX7_mesh 1 = .ok (.getfield 10, 3) := by decide +kernel
theorem dX7_mesh_4 : decode cX7_mesh 4 = .ok (.iload_n 1, 1) := by decide +kernel
theorem dX7_mesh_5 : decode cX7_mesh 5 = .ok (.invokevirtual 116, 3) := by decide +kernel
theorem dX7_mesh_8 : decode cX7_mesh 8 = .ok (.ifCond .eq 23, 3) := by decide +kernel
theorem dX7_mesh_11 : decode cX7_mesh 11 = .ok (.aload_n 0, 1) := by decide +kernel
theorem dX7_mesh_12 : decode cX7_mesh 12 = .ok (.getfield 10, 3) := by decide +kernel
theorem dX7_mesh_15 : decode cX7_mesh 15 = .ok (.iload_n 2, 1) := by decide +kernel
theorem dX7_mesh_16 : decode cX7_mesh 16 = .ok (.invokevirtual 120, 3) := by decide +kernel
theorem dX7_mesh_19 : decode cX7_mesh 19 = .ok (.ifCond .eq 12, 3) := by decide +kernel
theorem dX7_mesh_22 : decode cX7_mesh 22 = .ok (.iload_n 3, 1) := by decide +kernel
theorem dX7_mesh_23 : decode cX7_mesh 23 = .ok (.iconst 0, 1) := by decide +kernel
theorem dX7_mesh_24 : decode cX7_mesh 24 = .ok (.iconst 5, 1) := by decide +kernel
theorem dX7_mesh_25 : decode cX7_mesh 25 = .ok (.invokestatic 62, 3) := by decide +kernel
theorem dX7_mesh_28 : decode cX7_mesh 28 = .ok (.ifCond .ne 10, 3) := by decide +kernel
theorem dX7_mesh_31 : decode cX7_mesh 31 = .ok (.aload_n 0, 1) := by decide +kernel
theorem dX7_mesh_32 : decode cX7_mesh 32 = .ok (.bipush (-2), 2) := by decide +kernel
theorem dX7_mesh_34 : decode cX7_mesh 34 = .ok (.invokevirtual 66, 3) := by decide +kernel
theorem dX7_mesh_37 : decode cX7_mesh 37 = .ok (.ireturn, 1) := by decide +kernel
theorem dX7_mesh_38 : decode cX7_mesh 38 = .ok (.bipush 30, 2) := by decide +kernel
theorem dX7_mesh_40 : decode cX7_mesh 40 = .ok (.istore 4, 2) := by decide +kernel
theorem dX7_mesh_42 : decode cX7_mesh 42 = .ok (.iload 4, 2) := by decide +kernel
theorem dX7_mesh_44 : decode cX7_mesh 44 = .ok (.iconst 1, 1) := by decide +kernel
theorem dX7_mesh_45 : decode cX7_mesh 45 = .ok (.if_icmp .lt 27, 3) := by decide +kernel
theorem dX7_mesh_48 : decode cX7_mesh 48 = .ok (.aload_n 0, 1) := by decide +kernel
theorem dX7_mesh_49 : decode cX7_mesh 49 = .ok (.getfield 10, 3) := by decide +kernel
theorem dX7_mesh_52 : decode cX7_mesh 52 = .ok (.iload_n 1, 1) := by decide +kernel
theorem dX7_mesh_53 : decode cX7_mesh 53 = .ok (.iload_n 2, 1) := by decide +kernel
theorem dX7_mesh_54 : decode cX7_mesh 54 = .ok (.iload 4, 2) := by decide +kernel
theorem dX7_mesh_56 : decode cX7_mesh 56 = .ok (.invokevirtual 206, 3) := by decide +kernel
theorem dX7_mesh_59 : decode cX7_mesh 59 = .ok (.iload_n 3, 1) := by decide +kernel
theorem dX7_mesh_60 : decode cX7_mesh 60 = .ok (.if_icmp .lt 6, 3) := by decide +kernel
theorem dX7_mesh_63 : decode cX7_mesh 63 = .ok (.iload 4, 2) := by decide +kernel
theorem dX7_mesh_65 : decode cX7_mesh 65 = .ok (.ireturn, 1) := by decide +kernel
theorem dX7_mesh_66 : decode cX7_mesh 66 = .ok (.iinc 4 (-1), 3) := by decide +kernel
theorem dX7_mesh_69 : decode cX7_mesh 69 = .ok (.goto (-27), 3) := by decide +kernel
theorem dX7_mesh_72 : decode cX7_mesh 72 = .ok (.iconst (-1), 1) := by decide +kernel
theorem dX7_mesh_73 : decode cX7_mesh 73 = .ok (.ireturn, 1) := by decide +kernel
theorem dX7_place_0 : decode cX7_place 0 = .ok (.iload_n 1, 1) := by decide +kernel
theorem dX7_place_1 : decode cX7_place 1 = .ok (.iconst (-1), 1) := by decide +kernel
theorem dX7_place_2 : decode cX7_place 2 = .ok (.if_icmp .eq 24, 3) := by decide +kernel
theorem dX7_place_5 : decode cX7_place 5 = .ok (.aload_n 0, 1) := by decide +kernel
theorem dX7_place_6 : decode cX7_place 6 = .ok (.getfield 10, 3) := by decide +kernel
theorem dX7_place_9 : decode cX7_place 9 = .ok (.iload_n 1, 1) := by decide +kernel
theorem dX7_place_10 : decode cX7_place 10 = .ok (.invokevirtual 116, 3) := by decide +kernel
theorem dX7_place_13 : decode cX7_place 13 = .ok (.ifCond .ne 13, 3) := by decide +kernel
theorem dX7_place_16 : decode cX7_place 16 = .ok (.aload_n 0, 1) := by decide +kernel
theorem dX7_place_17 : decode cX7_place 17 = .ok (.bipush (-2), 2) := by decide +kernel
theorem dX7_place_19 : decode cX7_place 19 = .ok (.invokevirtual 66, 3) := by decide +kernel
theorem dX7_place_22 : decode cX7_place 22 = .ok (.pop, 1) := by decide +kernel
theorem dX7_place_23 : decode cX7_place 23 = .ok (.bipush (-10), 2) := by decide +kernel
theorem dX7_place_25 : decode cX7_place 25 = .ok (.ireturn, 1) := by decide +kernel
theorem dX7_place_26 : decode cX7_place 26 = .ok (.aload_n 0, 1) := by decide +kernel
theorem dX7_place_27 : decode cX7_place 27 = .ok (.getfield 40, 3) := by decide +kernel
theorem dX7_place_30 : decode cX7_place 30 = .ok (.aload_n 0, 1) := by decide +kernel
theorem dX7_place_31 : decode cX7_place 31 = .ok (.getfield 10, 3) := by decide +kernel
theorem dX7_place_34 : decode cX7_place 34 = .ok (.invokevirtual 209, 3) := by decide +kernel
theorem dX7_place_37 : decode cX7_place 37 = .ok (.iload_n 1, 1) := by decide +kernel
theorem dX7_place_38 : decode cX7_place 38 = .ok (.iconst (-1), 1) := by decide +kernel
theorem dX7_place_39 : decode cX7_place 39 = .ok (.if_icmp .ne 13, 3) := by decide +kernel
theorem dX7_place_42 : decode cX7_place 42 = .ok (.aload_n 0, 1) := by decide +kernel
theorem dX7_place_43 : decode cX7_place 43 = .ok (.getfield 40, 3) := by decide +kernel
theorem dX7_place_46 : decode cX7_place 46 = .ok (.getfield 212, 3) := by decide +kernel
theorem dX7_place_49 : decode cX7_place 49 = .ok (.goto 14, 3) := by decide +kernel
theorem dX7_place_52 : decode cX7_place 52 = .ok (.aload_n 0, 1) := by decide +kernel
theorem dX7_place_53 : decode cX7_place 53 = .ok (.getfield 40, 3) := by decide +kernel
theorem dX7_place_56 : decode cX7_place 56 = .ok (.getfield 215, 3) := by decide +kernel
theorem dX7_place_59 : decode cX7_place 59 = .ok (.iload_n 1, 1) := by decide +kernel
theorem dX7_place_60 : decode cX7_place 60 = .ok (.invokestatic 126, 3) := by decide +kernel
theorem dX7_place_63 : decode cX7_place 63 = .ok (.ireturn, 1) := by decide +kernel
theorem dX7_seen_0 : decode cX7_seen 0 = .ok (.aload_n 0, 1) := by decide +kernel
theorem dX7_seen_1 : decode cX7_seen 1 = .ok (.getfield 10, 3) := by decide +kernel
theorem dX7_seen_4 : decode cX7_seen 4 = .ok (.iload_n 1, 1) := by decide +kernel
theorem dX7_seen_5 : decode cX7_seen 5 = .ok (.invokevirtual 116, 3) := by decide +kernel
theorem dX7_seen_8 : decode cX7_seen 8 = .ok (.ifCond .eq 33, 3) := by decide +kernel
theorem dX7_seen_11 : decode cX7_seen 11 = .ok (.aload_n 0, 1) := by decide +kernel
theorem dX7_seen_12 : decode cX7_seen 12 = .ok (.getfield 10, 3) := by decide +kernel
theorem dX7_seen_15 : decode cX7_seen 15 = .ok (.iload_n 2, 1) := by decide +kernel
theorem dX7_seen_16 : decode cX7_seen 16 = .ok (.invokevirtual 120, 3) := by decide +kernel
theorem dX7_seen_19 : decode cX7_seen 19 = .ok (.ifCond .eq 22, 3) := by decide +kernel
theorem dX7_seen_22 : decode cX7_seen 22 = .ok (.iload_n 3, 1) := by decide +kernel
theorem dX7_seen_23 : decode cX7_seen 23 = .ok (.iconst 0, 1) := by decide +kernel
theorem dX7_seen_24 : decode cX7_seen 24 = .ok (.iconst 4, 1) := by decide +kernel
theorem dX7_seen_25 : decode cX7_seen 25 = .ok (.invokestatic 62, 3) := by decide +kernel
theorem dX7_seen_28 : decode cX7_seen 28 = .ok (.ifCond .eq 13, 3) := by decide +kernel
theorem dX7_seen_31 : decode cX7_seen 31 = .ok (.iload 4, 2) := by decide +kernel
theorem dX7_seen_33 : decode cX7_seen 33 = .ok (.iconst 0, 1) := by decide +kernel
theorem dX7_seen_34 : decode cX7_seen 34 = .ok (.iconst 5, 1) := by decide +kernel
theorem dX7_seen_35 : decode cX7_seen 35 = .ok (.invokestatic 62, 3) := by decide +kernel
theorem dX7_seen_38 : decode cX7_seen 38 = .ok (.ifCond .ne 10, 3) := by decide +kernel
theorem dX7_seen_41 : decode cX7_seen 41 = .ok (.aload_n 0, 1) := by decide +kernel
theorem dX7_seen_42 : decode cX7_seen 42 = .ok (.bipush (-2), 2) := by decide +kernel
theorem dX7_seen_44 : decode cX7_seen 44 = .ok (.invokevirtual 66, 3) := by decide +kernel
theorem dX7_seen_47 : decode cX7_seen 47 = .ok (.ireturn, 1) := by decide +kernel
theorem dX7_seen_48 : decode cX7_seen 48 = .ok (.aload_n 0, 1) := by decide +kernel
theorem dX7_seen_49 : decode cX7_seen 49 = .ok (.getfield 10, 3) := by decide +kernel
theorem dX7_seen_52 : decode cX7_seen 52 = .ok (.getfield 218, 3) := by decide +kernel
theorem dX7_seen_55 : decode cX7_seen 55 = .ok (.invokevirtual 221, 3) := by decide +kernel
theorem dX7_seen_58 : decode cX7_seen 58 = .ok (.ifCond .eq 10, 3) := by decide +kernel
theorem dX7_seen_61 : decode cX7_seen 61 = .ok (.aload_n 0, 1) := by decide +kernel
theorem dX7_seen_62 : decode cX7_seen 62 = .ok (.bipush (-4), 2) := by decide +kernel
theorem dX7_seen_64 : decode cX7_seen 64 = .ok (.invokevirtual 66, 3) := by decide +kernel
theorem dX7_seen_67 : decode cX7_seen 67 = .ok (.ireturn, 1) := by decide +kernel
theorem dX7_seen_68 : decode cX7_seen 68 = .ok (.aload_n 0, 1) := by decide +kernel
theorem dX7_seen_69 : decode cX7_seen 69 = .ok (.getfield 10, 3) := by decide +kernel
theorem dX7_seen_72 : decode cX7_seen 72 = .ok (.getfield 218, 3) := by decide +kernel
theorem dX7_seen_75 : decode cX7_seen 75 = .ok (.invokevirtual 225, 3) := by decide +kernel
theorem dX7_seen_78 : decode cX7_seen 78 = .ok (.aload_n 0, 1) := by decide +kernel
theorem dX7_seen_79 : decode cX7_seen 79 = .ok (.getfield 10, 3) := by decide +kernel
theorem dX7_seen_82 : decode cX7_seen 82 = .ok (.getfield 218, 3) := by decide +kernel
theorem dX7_seen_85 : decode cX7_seen 85 = .ok (.iload_n 1, 1) := by decide +kernel
theorem dX7_seen_86 : decode cX7_seen 86 = .ok (.iload_n 2, 1) := by decide +kernel
theorem dX7_seen_87 : decode cX7_seen 87 = .ok (.iload_n 3, 1) := by decide +kernel
theorem dX7_seen_88 : decode cX7_seen 88 = .ok (.iload 4, 2) := by decide +kernel
theorem dX7_seen_90 : decode cX7_seen 90 = .ok (.invokevirtual 228, 3) := by decide +kernel
theorem dX7_seen_93 : decode cX7_seen 93 = .ok (.aload_n 0, 1) := by decide +kernel
theorem dX7_seen_94 : decode cX7_seen 94 = .ok (.getfield 10, 3) := by decide +kernel
theorem dX7_seen_97 : decode cX7_seen 97 = .ok (.getfield 218, 3) := by decide +kernel
theorem dX7_seen_100 : decode cX7_seen 100 = .ok (.getfield 154, 3) := by decide +kernel
theorem dX7_seen_103 : decode cX7_seen 103 = .ok (.ireturn, 1) := by decide +kernel
theorem dX7_sizes_0 : decode cX7_sizes 0 = .ok (.aload_n 0, 1) := by decide +kernel
theorem dX7_sizes_1 : decode cX7_sizes 1 = .ok (.getfield 10, 3) := by decide +kernel
theorem dX7_sizes_4 : decode cX7_sizes 4 = .ok (.iload_n 1, 1) := by decide +kernel
theorem dX7_sizes_5 : decode cX7_sizes 5 = .ok (.invokevirtual 116, 3) := by decide +kernel
theorem dX7_sizes_8 : decode cX7_sizes 8 = .ok (.ifCond .eq 12, 3) := by decide +kernel
theorem dX7_sizes_11 : decode cX7_sizes 11 = .ok (.iload_n 2, 1) := by decide +kernel
theorem dX7_sizes_12 : decode cX7_sizes 12 = .ok (.iconst 0, 1) := by decide +kernel
theorem dX7_sizes_13 : decode cX7_sizes 13 = .ok (.iconst 2, 1) := by decide +kernel
theorem dX7_sizes_14 : decode cX7_sizes 14 = .ok (.invokestatic 62, 3) := by decide +kernel
theorem dX7_sizes_17 : decode cX7_sizes 17 = .ok (.ifCond .ne 10, 3) := by decide +kernel
theorem dX7_sizes_20 : decode cX7_sizes 20 = .ok (.aload_n 0, 1) := by decide +kernel
theorem dX7_sizes_21 : decode cX7_sizes 21 = .ok (.bipush (-2), 2) := by decide +kernel
theorem dX7_sizes_23 : decode cX7_sizes 23 = .ok (.invokevirtual 66, 3) := by decide +kernel
theorem dX7_sizes_26 : decode cX7_sizes 26 = .ok (.ireturn, 1) := by decide +kernel
theorem dX7_sizes_27 : decode cX7_sizes 27 = .ok (.aload_n 0, 1) := by decide +kernel
theorem dX7_sizes_28 : decode cX7_sizes 28 = .ok (.getfield 33, 3) := by decide +kernel
theorem dX7_sizes_31 : decode cX7_sizes 31 = .ok (.aload_n 0, 1) := by decide +kernel
theorem dX7_sizes_32 : decode cX7_sizes 32 = .ok (.getfield 10, 3) := by decide +kernel
theorem dX7_sizes_35 : decode cX7_sizes 35 = .ok (.iload_n 1, 1) := by decide +kernel
theorem dX7_sizes_36 : decode cX7_sizes 36 = .ok (.invokevirtual 232, 3) := by decide +kernel
theorem dX7_sizes_39 : decode cX7_sizes 39 = .ok (.istore_n 3, 1) := by decide +kernel
theorem dX7_sizes_40 : decode cX7_sizes 40 = .ok (.iload_n 2, 1) := by decide +kernel
theorem dX7_sizes_41 : decode cX7_sizes 41 = .ok (.ifCond .ne 8, 3) := by decide +kernel
theorem dX7_sizes_44 : decode cX7_sizes 44 = .ok (.iload_n 3, 1) := by decide +kernel
theorem dX7_sizes_45 : decode cX7_sizes 45 = .ok (.invokestatic 198, 3) := by decide +kernel
theorem dX7_sizes_48 : decode cX7_sizes 48 = .ok (.ireturn, 1) := by decide +kernel
theorem dX7_sizes_49 : decode cX7_sizes 49 = .ok (.iload_n 2, 1) := by decide +kernel
theorem dX7_sizes_50 : decode cX7_sizes 50 = .ok (.iconst 1, 1) := by decide +kernel
theorem dX7_sizes_51 : decode cX7_sizes 51 = .ok (.if_icmp .ne 10, 3) := by decide +kernel
theorem dX7_sizes_54 : decode cX7_sizes 54 = .ok (.iload_n 3, 1) := by decide +kernel
theorem dX7_sizes_55 : decode cX7_sizes 55 = .ok (.invokestatic 236, 3) := by decide +kernel
theorem dX7_sizes_58 : decode cX7_sizes 58 = .ok (.goto 7, 3) := by decide +kernel
theorem dX7_sizes_61 : decode cX7_sizes 61 = .ok (.iload_n 3, 1) := by decide +kernel
theorem dX7_sizes_62 : decode cX7_sizes 62 = .ok (.invokestatic 239, 3) := by decide +kernel
theorem dX7_sizes_65 : decode cX7_sizes 65 = .ok (.ireturn, 1) := by decide +kernel
theorem dX7_tell_0 : decode cX7_tell 0 = .ok (.aload_n 0, 1) := by decide +kernel
theorem dX7_tell_1 : decode cX7_tell 1 = .ok (.getfield 10, 3) := by decide +kernel
theorem dX7_tell_4 : decode cX7_tell 4 = .ok (.iload_n 1, 1) := by decide +kernel
theorem dX7_tell_5 : decode cX7_tell 5 = .ok (.invokevirtual 116, 3) := by decide +kernel
theorem dX7_tell_8 : decode cX7_tell 8 = .ok (.ifCond .ne 10, 3) := by decide +kernel
theorem dX7_tell_11 : decode cX7_tell 11 = .ok (.aload_n 0, 1) := by decide +kernel
theorem dX7_tell_12 : decode cX7_tell 12 = .ok (.bipush (-2), 2) := by decide +kernel
theorem dX7_tell_14 : decode cX7_tell 14 = .ok (.invokevirtual 66, 3) := by decide +kernel
theorem dX7_tell_17 : decode cX7_tell 17 = .ok (.ireturn, 1) := by decide +kernel
theorem dX7_tell_18 : decode cX7_tell 18 = .ok (.aload_n 0, 1) := by decide +kernel
theorem dX7_tell_19 : decode cX7_tell 19 = .ok (.getfield 33, 3) := by decide +kernel
theorem dX7_tell_22 : decode cX7_tell 22 = .ok (.aload_n 0, 1) := by decide +kernel
theorem dX7_tell_23 : decode cX7_tell 23 = .ok (.getfield 10, 3) := by decide +kernel
theorem dX7_tell_26 : decode cX7_tell 26 = .ok (.iload_n 1, 1) := by decide +kernel
theorem dX7_tell_27 : decode cX7_tell 27 = .ok (.invokevirtual 242, 3) := by decide +kernel
theorem dX7_tell_30 : decode cX7_tell 30 = .ok (.ireturn, 1) := by decide +kernel
theorem dX7_note_0 : decode cX7_note 0 = .ok (.iload_n 2, 1) := by decide +kernel
theorem dX7_note_1 : decode cX7_note 1 = .ok (.iconst 1, 1) := by decide +kernel
theorem dX7_note_2 : decode cX7_note 2 = .ok (.bipush 30, 2) := by decide +kernel
theorem dX7_note_4 : decode cX7_note 4 = .ok (.invokestatic 62, 3) := by decide +kernel
theorem dX7_note_7 : decode cX7_note 7 = .ok (.ifCond .eq 27, 3) := by decide +kernel
theorem dX7_note_10 : decode cX7_note 10 = .ok (.iload_n 3, 1) := by decide +kernel
theorem dX7_note_11 : decode cX7_note 11 = .ok (.iconst 0, 1) := by decide +kernel
theorem dX7_note_12 : decode cX7_note 12 = .ok (.iconst 4, 1) := by decide +kernel
theorem dX7_note_13 : decode cX7_note 13 = .ok (.invokestatic 62, 3) := by decide +kernel
theorem dX7_note_16 : decode cX7_note 16 = .ok (.ifCond .eq 18, 3) := by decide +kernel
theorem dX7_note_19 : decode cX7_note 19 = .ok (.iload 4, 2) := by decide +kernel
theorem dX7_note_21 : decode cX7_note 21 = .ok (.iconst 0, 1) := by decide +kernel
theorem dX7_note_22 : decode cX7_note 22 = .ok (.bipush 60, 2) := by decide +kernel
theorem dX7_note_24 : decode cX7_note 24 = .ok (.invokestatic 62, 3) := by decide +kernel
theorem dX7_note_27 : decode cX7_note 27 = .ok (.ifCond .eq 7, 3) := by decide +kernel
theorem dX7_note_30 : decode cX7_note 30 = .ok (.iconst 1, 1) := by decide +kernel
theorem dX7_note_31 : decode cX7_note 31 = .ok (.goto 4, 3) := by decide +kernel
theorem dX7_note_34 : decode cX7_note 34 = .ok (.iconst 0, 1) := by decide +kernel
theorem dX7_note_35 : decode cX7_note 35 = .ok (.istore 5, 2) := by decide +kernel
theorem dX7_note_37 : decode cX7_note 37 = .ok (.aload_n 0, 1) := by decide +kernel
theorem dX7_note_38 : decode cX7_note 38 = .ok (.getfield 10, 3) := by decide +kernel
theorem dX7_note_41 : decode cX7_note 41 = .ok (.iload_n 1, 1) := by decide +kernel
theorem dX7_note_42 : decode cX7_note 42 = .ok (.invokevirtual 116, 3) := by decide +kernel
theorem dX7_note_45 : decode cX7_note 45 = .ok (.ifCond .eq 8, 3) := by decide +kernel
theorem dX7_note_48 : decode cX7_note 48 = .ok (.iload 5, 2) := by decide +kernel
theorem dX7_note_50 : decode cX7_note 50 = .ok (.ifCond .ne 10, 3) := by decide +kernel
theorem dX7_note_53 : decode cX7_note 53 = .ok (.aload_n 0, 1) := by decide +kernel
theorem dX7_note_54 : decode cX7_note 54 = .ok (.bipush (-2), 2) := by decide +kernel
theorem dX7_note_56 : decode cX7_note 56 = .ok (.invokevirtual 66, 3) := by decide +kernel
theorem dX7_note_59 : decode cX7_note 59 = .ok (.ireturn, 1) := by decide +kernel
theorem dX7_note_60 : decode cX7_note 60 = .ok (.aload_n 0, 1) := by decide +kernel
theorem dX7_note_61 : decode cX7_note 61 = .ok (.getfield 10, 3) := by decide +kernel
theorem dX7_note_64 : decode cX7_note 64 = .ok (.getfield 245, 3) := by decide +kernel
theorem dX7_note_67 : decode cX7_note 67 = .ok (.invokevirtual 221, 3) := by decide +kernel
theorem dX7_note_70 : decode cX7_note 70 = .ok (.ifCond .eq 10, 3) := by decide +kernel
theorem dX7_note_73 : decode cX7_note 73 = .ok (.aload_n 0, 1) := by decide +kernel
theorem dX7_note_74 : decode cX7_note 74 = .ok (.bipush (-4), 2) := by decide +kernel
theorem dX7_note_76 : decode cX7_note 76 = .ok (.invokevirtual 66, 3) := by decide +kernel
