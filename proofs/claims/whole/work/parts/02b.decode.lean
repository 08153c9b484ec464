theorem dX7_note_79 : decode cX7_note 79 = .ok (.ireturn, 1) := by decide +kernel
theorem dX7_note_80 : decode cX7_note 80 = .ok (.aload_n 0, 1) := by decide +kernel
theorem dX7_note_81 : decode cX7_note 81 = .ok (.getfield 10, 3) := by decide +kernel
theorem dX7_note_84 : decode cX7_note 84 = .ok (.getfield 245, 3) := by decide +kernel
theorem dX7_note_87 : decode cX7_note 87 = .ok (.invokevirtual 225, 3) := by decide +kernel
theorem dX7_note_90 : decode cX7_note 90 = .ok (.aload_n 0, 1) := by decide +kernel
theorem dX7_note_91 : decode cX7_note 91 = .ok (.getfield 10, 3) := by decide +kernel
theorem dX7_note_94 : decode cX7_note 94 = .ok (.getfield 245, 3) := by decide +kernel
theorem dX7_note_97 : decode cX7_note 97 = .ok (.iload_n 1, 1) := by decide +kernel
theorem dX7_note_98 : decode cX7_note 98 = .ok (.iload_n 2, 1) := by decide +kernel
theorem dX7_note_99 : decode cX7_note 99 = .ok (.iload_n 3, 1) := by decide +kernel
theorem dX7_note_100 : decode cX7_note 100 = .ok (.iload 4, 2) := by decide +kernel
theorem dX7_note_102 : decode cX7_note 102 = .ok (.invokevirtual 228, 3) := by decide +kernel
theorem dX7_note_105 : decode cX7_note 105 = .ok (.aload_n 0, 1) := by decide +kernel
theorem dX7_note_106 : decode cX7_note 106 = .ok (.getfield 10, 3) := by decide +kernel
theorem dX7_note_109 : decode cX7_note 109 = .ok (.getfield 245, 3) := by decide +kernel
theorem dX7_note_112 : decode cX7_note 112 = .ok (.getfield 154, 3) := by decide +kernel
theorem dX7_note_115 : decode cX7_note 115 = .ok (.ireturn, 1) := by decide +kernel
theorem dX7_mark_0 : decode cX7_mark 0 = .ok (.iload_n 2, 1) := by decide +kernel
theorem dX7_mark_1 : decode cX7_mark 1 = .ok (.iconst 1, 1) := by decide +kernel
theorem dX7_mark_2 : decode cX7_mark 2 = .ok (.bipush 30, 2) := by decide +kernel
theorem dX7_mark_4 : decode cX7_mark 4 = .ok (.invokestatic 62, 3) := by decide +kernel
theorem dX7_mark_7 : decode cX7_mark 7 = .ok (.ifCond .eq 27, 3) := by decide +kernel
theorem dX7_mark_10 : decode cX7_mark 10 = .ok (.iload_n 3, 1) := by decide +kernel
theorem dX7_mark_11 : decode cX7_mark 11 = .ok (.iconst 0, 1) := by decide +kernel
theorem dX7_mark_12 : decode cX7_mark 12 = .ok (.iconst 4, 1) := by decide +kernel
theorem dX7_mark_13 : decode cX7_mark 13 = .ok (.invokestatic 62, 3) := by decide +kernel
theorem dX7_mark_16 : decode cX7_mark 16 = .ok (.ifCond .eq 18, 3) := by decide +kernel
theorem dX7_mark_19 : decode cX7_mark 19 = .ok (.iload 4, 2) := by decide +kernel
theorem dX7_mark_21 : decode cX7_mark 21 = .ok (.iconst 0, 1) := by decide +kernel
theorem dX7_mark_22 : decode cX7_mark 22 = .ok (.bipush 60, 2) := by decide +kernel
theorem dX7_mark_24 : decode cX7_mark 24 = .ok (.invokestatic 62, 3) := by decide +kernel
theorem dX7_mark_27 : decode cX7_mark 27 = .ok (.ifCond .eq 7, 3) := by decide +kernel
theorem dX7_mark_30 : decode cX7_mark 30 = .ok (.iconst 1, 1) := by decide +kernel
theorem dX7_mark_31 : decode cX7_mark 31 = .ok (.goto 4, 3) := by decide +kernel
theorem dX7_mark_34 : decode cX7_mark 34 = .ok (.iconst 0, 1) := by decide +kernel
theorem dX7_mark_35 : decode cX7_mark 35 = .ok (.istore 6, 2) := by decide +kernel
theorem dX7_mark_37 : decode cX7_mark 37 = .ok (.aload_n 0, 1) := by decide +kernel
theorem dX7_mark_38 : decode cX7_mark 38 = .ok (.getfield 10, 3) := by decide +kernel
theorem dX7_mark_41 : decode cX7_mark 41 = .ok (.iload_n 1, 1) := by decide +kernel
theorem dX7_mark_42 : decode cX7_mark 42 = .ok (.invokevirtual 120, 3) := by decide +kernel
theorem dX7_mark_45 : decode cX7_mark 45 = .ok (.ifCond .eq 18, 3) := by decide +kernel
theorem dX7_mark_48 : decode cX7_mark 48 = .ok (.iload 6, 2) := by decide +kernel
theorem dX7_mark_50 : decode cX7_mark 50 = .ok (.ifCond .eq 13, 3) := by decide +kernel
theorem dX7_mark_53 : decode cX7_mark 53 = .ok (.iload 5, 2) := by decide +kernel
theorem dX7_mark_55 : decode cX7_mark 55 = .ok (.iconst 0, 1) := by decide +kernel
theorem dX7_mark_56 : decode cX7_mark 56 = .ok (.iconst 1, 1) := by decide +kernel
theorem dX7_mark_57 : decode cX7_mark 57 = .ok (.invokestatic 62, 3) := by decide +kernel
theorem dX7_mark_60 : decode cX7_mark 60 = .ok (.ifCond .ne 10, 3) := by decide +kernel
theorem dX7_mark_63 : decode cX7_mark 63 = .ok (.aload_n 0, 1) := by decide +kernel
theorem dX7_mark_64 : decode cX7_mark 64 = .ok (.bipush (-2), 2) := by decide +kernel
theorem dX7_mark_66 : decode cX7_mark 66 = .ok (.invokevirtual 66, 3) := by decide +kernel
theorem dX7_mark_69 : decode cX7_mark 69 = .ok (.ireturn, 1) := by decide +kernel
theorem dX7_mark_70 : decode cX7_mark 70 = .ok (.aload_n 0, 1) := by decide +kernel
theorem dX7_mark_71 : decode cX7_mark 71 = .ok (.getfield 10, 3) := by decide +kernel
theorem dX7_mark_74 : decode cX7_mark 74 = .ok (.getfield 248, 3) := by decide +kernel
theorem dX7_mark_77 : decode cX7_mark 77 = .ok (.invokevirtual 221, 3) := by decide +kernel
theorem dX7_mark_80 : decode cX7_mark 80 = .ok (.ifCond .eq 10, 3) := by decide +kernel
theorem dX7_mark_83 : decode cX7_mark 83 = .ok (.aload_n 0, 1) := by decide +kernel
theorem dX7_mark_84 : decode cX7_mark 84 = .ok (.bipush (-4), 2) := by decide +kernel
theorem dX7_mark_86 : decode cX7_mark 86 = .ok (.invokevirtual 66, 3) := by decide +kernel
theorem dX7_mark_89 : decode cX7_mark 89 = .ok (.ireturn, 1) := by decide +kernel
theorem dX7_mark_90 : decode cX7_mark 90 = .ok (.aload_n 0, 1) := by decide +kernel
theorem dX7_mark_91 : decode cX7_mark 91 = .ok (.getfield 10, 3) := by decide +kernel
theorem dX7_mark_94 : decode cX7_mark 94 = .ok (.getfield 248, 3) := by decide +kernel
theorem dX7_mark_97 : decode cX7_mark 97 = .ok (.invokevirtual 225, 3) := by decide +kernel
theorem dX7_mark_100 : decode cX7_mark 100 = .ok (.aload_n 0, 1) := by decide +kernel
theorem dX7_mark_101 : decode cX7_mark 101 = .ok (.getfield 10, 3) := by decide +kernel
theorem dX7_mark_104 : decode cX7_mark 104 = .ok (.getfield 248, 3) := by decide +kernel
theorem dX7_mark_107 : decode cX7_mark 107 = .ok (.iload_n 1, 1) := by decide +kernel
theorem dX7_mark_108 : decode cX7_mark 108 = .ok (.iload_n 2, 1) := by decide +kernel
theorem dX7_mark_109 : decode cX7_mark 109 = .ok (.iload_n 3, 1) := by decide +kernel
theorem dX7_mark_110 : decode cX7_mark 110 = .ok (.iload 4, 2) := by decide +kernel
theorem dX7_mark_112 : decode cX7_mark 112 = .ok (.invokevirtual 228, 3) := by decide +kernel
theorem dX7_mark_115 : decode cX7_mark 115 = .ok (.aload_n 0, 1) := by decide +kernel
theorem dX7_mark_116 : decode cX7_mark 116 = .ok (.getfield 10, 3) := by decide +kernel
theorem dX7_mark_119 : decode cX7_mark 119 = .ok (.getfield 248, 3) := by decide +kernel
theorem dX7_mark_122 : decode cX7_mark 122 = .ok (.iconst 4, 1) := by decide +kernel
theorem dX7_mark_123 : decode cX7_mark 123 = .ok (.iload 5, 2) := by decide +kernel
theorem dX7_mark_125 : decode cX7_mark 125 = .ok (.invokevirtual 251, 3) := by decide +kernel
theorem dX7_mark_128 : decode cX7_mark 128 = .ok (.aload_n 0, 1) := by decide +kernel
theorem dX7_mark_129 : decode cX7_mark 129 = .ok (.getfield 10, 3) := by decide +kernel
theorem dX7_mark_132 : decode cX7_mark 132 = .ok (.getfield 248, 3) := by decide +kernel
theorem dX7_mark_135 : decode cX7_mark 135 = .ok (.getfield 154, 3) := by decide +kernel
theorem dX7_mark_138 : decode cX7_mark 138 = .ok (.ireturn, 1) := by decide +kernel
theorem dX7_forget_0 : decode cX7_forget 0 = .ok (.iload_n 1, 1) := by decide +kernel
theorem dX7_forget_1 : decode cX7_forget 1 = .ok (.iconst 0, 1) := by decide +kernel
theorem dX7_forget_2 : decode cX7_forget 2 = .ok (.iconst 2, 1) := by decide +kernel
theorem dX7_forget_3 : decode cX7_forget 3 = .ok (.invokestatic 62, 3) := by decide +kernel
theorem dX7_forget_6 : decode cX7_forget 6 = .ok (.ifCond .ne 10, 3) := by decide +kernel
theorem dX7_forget_9 : decode cX7_forget 9 = .ok (.aload_n 0, 1) := by decide +kernel
theorem dX7_forget_10 : decode cX7_forget 10 = .ok (.bipush (-2), 2) := by decide +kernel
theorem dX7_forget_12 : decode cX7_forget 12 = .ok (.invokevirtual 66, 3) := by decide +kernel
theorem dX7_forget_15 : decode cX7_forget 15 = .ok (.ireturn, 1) := by decide +kernel
theorem dX7_forget_16 : decode cX7_forget 16 = .ok (.iload_n 1, 1) := by decide +kernel
theorem dX7_forget_17 : decode cX7_forget 17 = .ok (.lookupswitch 49 #[(0, 27), (1, 38)], 27) := by decide +kernel
theorem dX7_forget_44 : decode cX7_forget 44 = .ok (.aload_n 0, 1) := by decide +kernel
theorem dX7_forget_45 : decode cX7_forget 45 = .ok (.getfield 10, 3) := by decide +kernel
theorem dX7_forget_48 : decode cX7_forget 48 = .ok (.getfield 218, 3) := by decide +kernel
theorem dX7_forget_51 : decode cX7_forget 51 = .ok (.invokevirtual 255, 3) := by decide +kernel
theorem dX7_forget_54 : decode cX7_forget 54 = .ok (.ireturn, 1) := by decide +kernel
theorem dX7_forget_55 : decode cX7_forget 55 = .ok (.aload_n 0, 1) := by decide +kernel
theorem dX7_forget_56 : decode cX7_forget 56 = .ok (.getfield 10, 3) := by decide +kernel
theorem dX7_forget_59 : decode cX7_forget 59 = .ok (.getfield 245, 3) := by decide +kernel
theorem dX7_forget_62 : decode cX7_forget 62 = .ok (.invokevirtual 255, 3) := by decide +kernel
theorem dX7_forget_65 : decode cX7_forget 65 = .ok (.ireturn, 1) := by decide +kernel
theorem dX7_forget_66 : decode cX7_forget 66 = .ok (.aload_n 0, 1) := by decide +kernel
theorem dX7_forget_67 : decode cX7_forget 67 = .ok (.getfield 10, 3) := by decide +kernel
theorem dX7_forget_70 : decode cX7_forget 70 = .ok (.getfield 248, 3) := by decide +kernel
theorem dX7_forget_73 : decode cX7_forget 73 = .ok (.invokevirtual 255, 3) := by decide +kernel
theorem dX7_forget_76 : decode cX7_forget 76 = .ok (.ireturn, 1) := by decide +kernel
theorem dX7_is_0 : decode cX7_is 0 = .ok (.aload_n 0, 1) := by decide +kernel
theorem dX7_is_1 : decode cX7_is 1 = .ok (.getfield 10, 3) := by decide +kernel
theorem dX7_is_4 : decode cX7_is 4 = .ok (.iload_n 1, 1) := by decide +kernel
theorem dX7_is_5 : decode cX7_is 5 = .ok (.invokevirtual 116, 3) := by decide +kernel
theorem dX7_is_8 : decode cX7_is 8 = .ok (.ifCond .ne 10, 3) := by decide +kernel
theorem dX7_is_11 : decode cX7_is 11 = .ok (.aload_n 0, 1) := by decide +kernel
theorem dX7_is_12 : decode cX7_is 12 = .ok (.bipush (-2), 2) := by decide +kernel
theorem dX7_is_14 : decode cX7_is 14 = .ok (.invokevirtual 66, 3) := by decide +kernel
theorem dX7_is_17 : decode cX7_is 17 = .ok (.ireturn, 1) := by decide +kernel
theorem dX7_is_18 : decode cX7_is 18 = .ok (.aload_n 0, 1) := by decide +kernel
theorem dX7_is_19 : decode cX7_is 19 = .ok (.getfield 33, 3) := by decide +kernel
theorem dX7_is_22 : decode cX7_is 22 = .ok (.aload_n 0, 1) := by decide +kernel
theorem dX7_is_23 : decode cX7_is 23 = .ok (.getfield 10, 3) := by decide +kernel
theorem dX7_is_26 : decode cX7_is 26 = .ok (.iload_n 1, 1) := by decide +kernel
theorem dX7_is_27 : decode cX7_is 27 = .ok (.invokevirtual 258, 3) := by decide +kernel
theorem dX7_is_30 : decode cX7_is 30 = .ok (.ireturn, 1) := by decide +kernel
theorem dX7_look_0 : decode cX7_look 0 = .ok (.aload_n 0, 1) := by decide +kernel
theorem dX7_look_1 : decode cX7_look 1 = .ok (.getfield 10, 3) := by decide +kernel
theorem dX7_look_4 : decode cX7_look 4 = .ok (.iload_n 1, 1) := by decide +kernel
theorem dX7_look_5 : decode cX7_look 5 = .ok (.invokevirtual 116, 3) := by decide +kernel
theorem dX7_look_8 : decode cX7_look 8 = .ok (.ifCond .ne 10, 3) := by decide +kernel
theorem dX7_look_11 : decode cX7_look 11 = .ok (.aload_n 0, 1) := by decide +kernel
theorem dX7_look_12 : decode cX7_look 12 = .ok (.bipush (-2), 2) := by decide +kernel
theorem dX7_look_14 : decode cX7_look 14 = .ok (.invokevirtual 66, 3) := by decide +kernel
theorem dX7_look_17 : decode cX7_look 17 = .ok (.ireturn, 1) := by decide +kernel
theorem dX7_look_18 : decode cX7_look 18 = .ok (.aload_n 0, 1) := by decide +kernel
theorem dX7_look_19 : decode cX7_look 19 = .ok (.getfield 33, 3) := by decide +kernel
theorem dX7_look_22 : decode cX7_look 22 = .ok (.aload_n 0, 1) := by decide +kernel
theorem dX7_look_23 : decode cX7_look 23 = .ok (.getfield 10, 3) := by decide +kernel
theorem dX7_look_26 : decode cX7_look 26 = .ok (.iload_n 1, 1) := by decide +kernel
theorem dX7_look_27 : decode cX7_look 27 = .ok (.invokevirtual 261, 3) := by decide +kernel
theorem dX7_look_30 : decode cX7_look 30 = .ok (.ireturn, 1) := by decide +kernel
theorem dX7_kinds_0 : decode cX7_kinds 0 = .ok (.aload_n 0, 1) := by decide +kernel
theorem dX7_kinds_1 : decode cX7_kinds 1 = .ok (.getfield 10, 3) := by decide +kernel
theorem dX7_kinds_4 : decode cX7_kinds 4 = .ok (.iload_n 1, 1) := by decide +kernel
theorem dX7_kinds_5 : decode cX7_kinds 5 = .ok (.invokevirtual 120, 3) := by decide +kernel
theorem dX7_kinds_8 : decode cX7_kinds 8 = .ok (.ifCond .ne 10, 3) := by decide +kernel
theorem dX7_kinds_11 : decode cX7_kinds 11 = .ok (.aload_n 0, 1) := by decide +kernel
theorem dX7_kinds_12 : decode cX7_kinds 12 = .ok (.bipush (-2), 2) := by decide +kernel
theorem dX7_kinds_14 : decode cX7_kinds 14 = .ok (.invokevirtual 66, 3) := by decide +kernel
theorem dX7_kinds_17 : decode cX7_kinds 17 = .ok (.ireturn, 1) := by decide +kernel
theorem dX7_kinds_18 : decode cX7_kinds 18 = .ok (.aload_n 0, 1) := by decide +kernel
theorem dX7_kinds_19 : decode cX7_kinds 19 = .ok (.getfield 33, 3) := by decide +kernel
theorem dX7_kinds_22 : decode cX7_kinds 22 = .ok (.aload_n 0, 1) := by decide +kernel
theorem dX7_kinds_23 : decode cX7_kinds 23 = .ok (.getfield 10, 3) := by decide +kernel
theorem dX7_kinds_26 : decode cX7_kinds 26 = .ok (.iload_n 1, 1) := by decide +kernel
theorem dX7_kinds_27 : decode cX7_kinds 27 = .ok (.invokevirtual 264, 3) := by decide +kernel
theorem dX7_kinds_30 : decode cX7_kinds 30 = .ok (.ireturn, 1) := by decide +kernel
theorem dX7_ask_0 : decode cX7_ask 0 = .ok (.aload_n 0, 1) := by decide +kernel
theorem dX7_ask_1 : decode cX7_ask 1 = .ok (.getfield 10, 3) := by decide +kernel
theorem dX7_ask_4 : decode cX7_ask 4 = .ok (.iload_n 1, 1) := by decide +kernel
theorem dX7_ask_5 : decode cX7_ask 5 = .ok (.invokevirtual 120, 3) := by decide +kernel
theorem dX7_ask_8 : decode cX7_ask 8 = .ok (.ifCond .ne 10, 3) := by decide +kernel
theorem dX7_ask_11 : decode cX7_ask 11 = .ok (.aload_n 0, 1) := by decide +kernel
theorem dX7_ask_12 : decode cX7_ask 12 = .ok (.bipush (-2), 2) := by decide +kernel
theorem dX7_ask_14 : decode cX7_ask 14 = .ok (.invokevirtual 66, 3) := by decide +kernel
theorem dX7_ask_17 : decode cX7_ask 17 = .ok (.ireturn, 1) := by decide +kernel
theorem dX7_ask_18 : decode cX7_ask 18 = .ok (.aload_n 0, 1) := by decide +kernel
theorem dX7_ask_19 : decode cX7_ask 19 = .ok (.getfield 33, 3) := by decide +kernel
theorem dX7_ask_22 : decode cX7_ask 22 = .ok (.aload_n 0, 1) := by decide +kernel
theorem dX7_ask_23 : decode cX7_ask 23 = .ok (.getfield 10, 3) := by decide +kernel
theorem dX7_ask_26 : decode cX7_ask 26 = .ok (.iload_n 1, 1) := by decide +kernel
theorem dX7_ask_27 : decode cX7_ask 27 = .ok (.invokevirtual 267, 3) := by decide +kernel
theorem dX7_ask_30 : decode cX7_ask 30 = .ok (.ireturn, 1) := by decide +kernel
theorem dX7_rivals_0 : decode cX7_rivals 0 = .ok (.aload_n 0, 1) := by decide +kernel
theorem dX7_rivals_1 : decode cX7_rivals 1 = .ok (.getfield 10, 3) := by decide +kernel
theorem dX7_rivals_4 : decode cX7_rivals 4 = .ok (.iload_n 1, 1) := by decide +kernel
theorem dX7_rivals_5 : decode cX7_rivals 5 = .ok (.invokevirtual 120, 3) := by decide +kernel
theorem dX7_rivals_8 : decode cX7_rivals 8 = .ok (.ifCond .eq 36, 3) := by decide +kernel
theorem dX7_rivals_11 : decode cX7_rivals 11 = .ok (.aload_n 0, 1) := by decide +kernel
theorem dX7_rivals_12 : decode cX7_rivals 12 = .ok (.getfield 10, 3) := by decide +kernel
theorem dX7_rivals_15 : decode cX7_rivals 15 = .ok (.iload_n 2, 1) := by decide +kernel
theorem dX7_rivals_16 : decode cX7_rivals 16 = .ok (.invokevirtual 120, 3) := by decide +kernel
theorem dX7_rivals_19 : decode cX7_rivals 19 = .ok (.ifCond .eq 25, 3) := by decide +kernel
theorem dX7_rivals_22 : decode cX7_rivals 22 = .ok (.iload_n 1, 1) := by decide +kernel
theorem dX7_rivals_23 : decode cX7_rivals 23 = .ok (.iload_n 2, 1) := by decide +kernel
theorem dX7_rivals_24 : decode cX7_rivals 24 = .ok (.if_icmp .eq 20, 3) := by decide +kernel
theorem dX7_rivals_27 : decode cX7_rivals 27 = .ok (.aload_n 0, 1) := by decide +kernel
theorem dX7_rivals_28 : decode cX7_rivals 28 = .ok (.getfield 10, 3) := by decide +kernel
theorem dX7_rivals_31 : decode cX7_rivals 31 = .ok (.iload_n 3, 1) := by decide +kernel
theorem dX7_rivals_32 : decode cX7_rivals 32 = .ok (.invokevirtual 116, 3) := by decide +kernel
theorem dX7_rivals_35 : decode cX7_rivals 35 = .ok (.ifCond .eq 9, 3) := by decide +kernel
theorem dX7_rivals_38 : decode cX7_rivals 38 = .ok (.iload 4, 2) := by decide +kernel
theorem dX7_rivals_40 : decode cX7_rivals 40 = .ok (.iconst (-1), 1) := by decide +kernel
theorem dX7_rivals_41 : decode cX7_rivals 41 = .ok (.if_icmp .ge 13, 3) := by decide +kernel
theorem dX7_rivals_44 : decode cX7_rivals 44 = .ok (.aload_n 0, 1) := by decide +kernel
theorem dX7_rivals_45 : decode cX7_rivals 45 = .ok (.bipush (-2), 2) := by decide +kernel
theorem dX7_rivals_47 : decode cX7_rivals 47 = .ok (.invokevirtual 66, 3) := by decide +kernel
theorem dX7_rivals_50 : decode cX7_rivals 50 = .ok (.pop, 1) := by decide +kernel
theorem dX7_rivals_51 : decode cX7_rivals 51 = .ok (.bipush (-10), 2) := by decide +kernel
theorem dX7_rivals_53 : decode cX7_rivals 53 = .ok (.ireturn, 1) := by decide +kernel
theorem dX7_rivals_54 : decode cX7_rivals 54 = .ok (.aload_n 0, 1) := by decide +kernel
theorem dX7_rivals_55 : decode cX7_rivals 55 = .ok (.getfield 47, 3) := by decide +kernel
theorem dX7_rivals_58 : decode cX7_rivals 58 = .ok (.aload_n 0, 1) := by decide +kernel
theorem dX7_rivals_59 : decode cX7_rivals 59 = .ok (.getfield 10, 3) := by decide +kernel
theorem dX7_rivals_62 : decode cX7_rivals 62 = .ok (.iload_n 1, 1) := by decide +kernel
theorem dX7_rivals_63 : decode cX7_rivals 63 = .ok (.iload_n 2, 1) := by decide +kernel
theorem dX7_rivals_64 : decode cX7_rivals 64 = .ok (.iload_n 3, 1) := by decide +kernel
theorem dX7_rivals_65 : decode cX7_rivals 65 = .ok (.invokevirtual 270, 3) := by decide +kernel
theorem dX7_rivals_68 : decode cX7_rivals 68 = .ok (.aload_n 0, 1) := by decide +kernel
theorem dX7_rivals_69 : decode cX7_rivals 69 = .ok (.getfield 47, 3) := by decide +kernel
theorem dX7_rivals_72 : decode cX7_rivals 72 = .ok (.iload 4, 2) := by decide +kernel
theorem dX7_rivals_74 : decode cX7_rivals 74 = .ok (.invokevirtual 274, 3) := by decide +kernel
theorem dX7_rivals_77 : decode cX7_rivals 77 = .ok (.ireturn, 1) := by decide +kernel
theorem dX7_rain_0 : decode cX7_rain 0 = .ok (.aload_n 0, 1) := by decide +kernel
theorem dX7_rain_1 : decode cX7_rain 1 = .ok (.getfield 10, 3) := by decide +kernel
theorem dX7_rain_4 : decode cX7_rain 4 = .ok (.iload_n 1, 1) := by decide +kernel
theorem dX7_rain_5 : decode cX7_rain 5 = .ok (.invokevirtual 116, 3) := by decide +kernel
theorem dX7_rain_8 : decode cX7_rain 8 = .ok (.ifCond .eq 13, 3) := by decide +kernel
theorem dX7_rain_11 : decode cX7_rain 11 = .ok (.iload_n 2, 1) := by decide +kernel
theorem dX7_rain_12 : decode cX7_rain 12 = .ok (.iconst 0, 1) := by decide +kernel
theorem dX7_rain_13 : decode cX7_rain 13 = .ok (.bipush 10, 2) := by decide +kernel
theorem dX7_rain_15 : decode cX7_rain 15 = .ok (.invokestatic 62, 3) := by decide +kernel
theorem dX7_rain_18 : decode cX7_rain 18 = .ok (.ifCond .ne 10, 3) := by decide +kernel
theorem dX7_rain_21 : decode cX7_rain 21 = .ok (.aload_n 0, 1) := by decide +kernel
theorem dX7_rain_22 : decode cX7_rain 22 = .ok (.bipush (-2), 2) := by decide +kernel
theorem dX7_rain_24 : decode cX7_rain 24 = .ok (.invokevirtual 66, 3) := by decide +kernel
theorem dX7_rain_27 : decode cX7_rain 27 = .ok (.ireturn, 1) := by decide +kernel
theorem dX7_rain_28 : decode cX7_rain 28 = .ok (.iconst 0, 1) := by decide +kernel
theorem dX7_rain_29 : decode cX7_rain 29 = .ok (.istore_n 3, 1) := by decide +kernel
theorem dX7_rain_30 : decode cX7_rain 30 = .ok (.iconst 0, 1) := by decide +kernel
theorem dX7_rain_31 : decode cX7_rain 31 = .ok (.istore 4, 2) := by decide +kernel
theorem dX7_rain_33 : decode cX7_rain 33 = .ok (.iload 4, 2) := by decide +kernel
theorem dX7_rain_35 : decode cX7_rain 35 = .ok (.aload_n 0, 1) := by decide +kernel
theorem dX7_rain_36 : decode cX7_rain 36 = .ok (.getfield 10, 3) := by decide +kernel
theorem dX7_rain_39 : decode cX7_rain 39 = .ok (.getfield 81, 3) := by decide +kernel
theorem dX7_rain_42 : decode cX7_rain 42 = .ok (.if_icmp .ge 42, 3) := by decide +kernel
theorem dX7_rain_45 : decode cX7_rain 45 = .ok (.iload_n 3, 1) := by decide +kernel
theorem dX7_rain_46 : decode cX7_rain 46 = .ok (.iload_n 2, 1) := by decide +kernel
theorem dX7_rain_47 : decode cX7_rain 47 = .ok (.aload_n 0, 1) := by decide +kernel
theorem dX7_rain_48 : decode cX7_rain 48 = .ok (.getfield 10, 3) := by decide +kernel
theorem dX7_rain_51 : decode cX7_rain 51 = .ok (.iload_n 1, 1) := by decide +kernel
theorem dX7_rain_52 : decode cX7_rain 52 = .ok (.iload 4, 2) := by decide +kernel
theorem dX7_rain_54 : decode cX7_rain 54 = .ok (.iconst 4, 1) := by decide +kernel
theorem dX7_rain_55 : decode cX7_rain 55 = .ok (.invokevirtual 277, 3) := by decide +kernel
theorem dX7_rain_58 : decode cX7_rain 58 = .ok (.imul, 1) := by decide +kernel
theorem dX7_rain_59 : decode cX7_rain 59 = .ok (.bipush 10, 2) := by decide +kernel
theorem dX7_rain_61 : decode cX7_rain 61 = .ok (.iload_n 2, 1) := by decide +kernel
theorem dX7_rain_62 : decode cX7_rain 62 = .ok (.isub, 1) := by decide +kernel
theorem dX7_rain_63 : decode cX7_rain 63 = .ok (.aload_n 0, 1) := by decide +kernel
theorem dX7_rain_64 : decode cX7_rain 64 = .ok (.getfield 10, 3) := by decide +kernel
theorem dX7_rain_67 : decode cX7_rain 67 = .ok (.iload_n 1, 1) := by decide +kernel
theorem dX7_rain_68 : decode cX7_rain 68 = .ok (.iload 4, 2) := by decide +kernel
theorem dX7_rain_70 : decode cX7_rain 70 = .ok (.iconst 0, 1) := by decide +kernel
theorem dX7_rain_71 : decode cX7_rain 71 = .ok (.invokevirtual 277, 3) := by decide +kernel
theorem dX7_rain_74 : decode cX7_rain 74 = .ok (.imul, 1) := by decide +kernel
theorem dX7_rain_75 : decode cX7_rain 75 = .ok (.iadd, 1) := by decide +kernel
theorem dX7_rain_76 : decode cX7_rain 76 = .ok (.iadd, 1) := by decide +kernel
theorem dX7_rain_77 : decode cX7_rain 77 = .ok (.istore_n 3, 1) := by decide +kernel
theorem dX7_rain_78 : decode cX7_rain 78 = .ok (.iinc 4 1, 3) := by decide +kernel
theorem dX7_rain_81 : decode cX7_rain 81 = .ok (.goto (-48), 3) := by decide +kernel
theorem dX7_rain_84 : decode cX7_rain 84 = .ok (.aload_n 0, 1) := by decide +kernel
theorem dX7_rain_85 : decode cX7_rain 85 = .ok (.iload_n 3, 1) := by decide +kernel
theorem dX7_rain_86 : decode cX7_rain 86 = .ok (.invokevirtual 280, 3) := by decide +kernel
theorem dX7_rain_89 : decode cX7_rain 89 = .ok (.iconst 1, 1) := by decide +kernel
theorem dX7_rain_90 : decode cX7_rain 90 = .ok (.ireturn, 1) := by decide +kernel
theorem dX7_years_0 : decode cX7_years 0 = .ok (.iload_n 1, 1) := by decide +kernel
theorem dX7_years_1 : decode cX7_years 1 = .ok (.iconst 0, 1) := by decide +kernel
theorem dX7_years_2 : decode cX7_years 2 = .ok (.ldc_w 283, 3) := by decide +kernel
theorem dX7_years_5 : decode cX7_years 5 = .ok (.invokestatic 62, 3) := by decide +kernel
theorem dX7_years_8 : decode cX7_years 8 = .ok (.ifCond .eq 13, 3) := by decide +kernel
theorem dX7_years_11 : decode cX7_years 11 = .ok (.iload_n 2, 1) := by decide +kernel
theorem dX7_years_12 : decode cX7_years 12 = .ok (.iconst 0, 1) := by decide +kernel
theorem dX7_years_13 : decode cX7_years 13 = .ok (.bipush 60, 2) := by decide +kernel
theorem dX7_years_15 : decode cX7_years 15 = .ok (.invokestatic 62, 3) := by decide +kernel
theorem dX7_years_18 : decode cX7_years 18 = .ok (.ifCond .ne 10, 3) := by decide +kernel
theorem dX7_years_21 : decode cX7_years 21 = .ok (.aload_n 0, 1) := by decide +kernel
theorem dX7_years_22 : decode cX7_years 22 = .ok (.bipush (-2), 2) := by decide +kernel
theorem dX7_years_24 : decode cX7_years 24 = .ok (.invokevirtual 66, 3) := by decide +kernel
theorem dX7_years_27 : decode cX7_years 27 = .ok (.ireturn, 1) := by decide +kernel
theorem dX7_years_28 : decode cX7_years 28 = .ok (.aload_n 0, 1) := by decide +kernel
theorem dX7_years_29 : decode cX7_years 29 = .ok (.getfield 16, 3) := by decide +kernel
theorem dX7_years_32 : decode cX7_years 32 = .ok (.aload_n 0, 1) := by decide +kernel
theorem dX7_years_33 : decode cX7_years 33 = .ok (.getfield 10, 3) := by decide +kernel
theorem dX7_years_36 : decode cX7_years 36 = .ok (.invokevirtual 102, 3) := by decide +kernel
theorem dX7_years_39 : decode cX7_years 39 = .ok (.aload_n 0, 1) := by decide +kernel
theorem dX7_years_40 : decode cX7_years 40 = .ok (.getfield 16, 3) := by decide +kernel
theorem dX7_years_43 : decode cX7_years 43 = .ok (.iconst 0, 1) := by decide +kernel
theorem dX7_years_44 : decode cX7_years 44 = .ok (.putfield 162, 3) := by decide +kernel
theorem dX7_years_47 : decode cX7_years 47 = .ok (.iload_n 1, 1) := by decide +kernel
theorem dX7_years_48 : decode cX7_years 48 = .ok (.i2l, 1) := by decide +kernel
theorem dX7_years_49 : decode cX7_years 49 = .ok (.lstore_n 3, 1) := by decide +kernel
theorem dX7_years_50 : decode cX7_years 50 = .ok (.iconst 0, 1) := by decide +kernel
theorem dX7_years_51 : decode cX7_years 51 = .ok (.istore 5, 2) := by decide +kernel
theorem dX7_years_53 : decode cX7_years 53 = .ok (.iload 5, 2) := by decide +kernel
theorem dX7_years_55 : decode cX7_years 55 = .ok (.iload_n 2, 1) := by decide +kernel
theorem dX7_years_56 : decode cX7_years 56 = .ok (.if_icmp .ge 97, 3) := by decide +kernel
theorem dX7_years_59 : decode cX7_years 59 = .ok (.lload_n 3, 1) := by decide +kernel
theorem dX7_years_60 : decode cX7_years 60 = .ok (.ldc2_w 284, 3) := by decide +kernel
theorem dX7_years_63 : decode cX7_years 63 = .ok (.lmul, 1) := by decide +kernel
theorem dX7_years_64 : decode cX7_years 64 = .ok (.ldc2_w 286, 3) := by decide +kernel
theorem dX7_years_67 : decode cX7_years 67 = .ok (.ladd, 1) := by decide +kernel
theorem dX7_years_68 : decode cX7_years 68 = .ok (.ldc2_w 288, 3) := by decide +kernel
theorem dX7_years_71 : decode cX7_years 71 = .ok (.lrem, 1) := by decide +kernel
theorem dX7_years_72 : decode cX7_years 72 = .ok (.lstore_n 3, 1) := by decide +kernel
theorem dX7_years_73 : decode cX7_years 73 = .ok (.lload_n 3, 1) := by decide +kernel
theorem dX7_years_74 : decode cX7_years 74 = .ok (.ldc2_w 290, 3) := by decide +kernel
theorem dX7_years_77 : decode cX7_years 77 = .ok (.ldiv, 1) := by decide +kernel
theorem dX7_years_78 : decode cX7_years 78 = .ok (.ldc2_w 292, 3) := by decide +kernel
theorem dX7_years_81 : decode cX7_years 81 = .ok (.lrem, 1) := by decide +kernel
theorem dX7_years_82 : decode cX7_years 82 = .ok (.l2i, 1) := by decide +kernel
theorem dX7_years_83 : decode cX7_years 83 = .ok (.istore 6, 2) := by decide +kernel
theorem dX7_years_85 : decode cX7_years 85 = .ok (.lload_n 3, 1) := by decide +kernel
theorem dX7_years_86 : decode cX7_years 86 = .ok (.ldc2_w 294, 3) := by decide +kernel
theorem dX7_years_89 : decode cX7_years 89 = .ok (.ldiv, 1) := by decide +kernel
theorem dX7_years_90 : decode cX7_years 90 = .ok (.ldc2_w 296, 3) := by decide +kernel
theorem dX7_years_93 : decode cX7_years 93 = .ok (.lrem, 1) := by decide +kernel
theorem dX7_years_94 : decode cX7_years 94 = .ok (.l2i, 1) := by decide +kernel
theorem dX7_years_95 : decode cX7_years 95 = .ok (.istore 7, 2) := by decide +kernel
theorem dX7_years_97 : decode cX7_years 97 = .ok (.aload_n 0, 1) := by decide +kernel
theorem dX7_years_98 : decode cX7_years 98 = .ok (.getfield 16, 3) := by decide +kernel
theorem dX7_years_101 : decode cX7_years 101 = .ok (.iload 6, 2) := by decide +kernel
theorem dX7_years_103 : decode cX7_years 103 = .ok (.invokevirtual 116, 3) := by decide +kernel
theorem dX7_years_106 : decode cX7_years 106 = .ok (.ifCond .eq 33, 3) := by decide +kernel
theorem dX7_years_109 : decode cX7_years 109 = .ok (.aload_n 0, 1) := by decide +kernel
theorem dX7_years_110 : decode cX7_years 110 = .ok (.getfield 16, 3) := by decide +kernel
theorem dX7_years_113 : decode cX7_years 113 = .ok (.getfield 123, 3) := by decide +kernel
theorem dX7_years_116 : decode cX7_years 116 = .ok (.iload 6, 2) := by decide +kernel
theorem dX7_years_118 : decode cX7_years 118 = .ok (.aload_n 0, 1) := by decide +kernel
theorem dX7_years_119 : decode cX7_years 119 = .ok (.getfield 16, 3) := by decide +kernel
theorem dX7_years_122 : decode cX7_years 122 = .ok (.iload 7, 2) := by decide +kernel
theorem dX7_years_124 : decode cX7_years 124 = .ok (.invokevirtual 120, 3) := by decide +kernel
theorem dX7_years_127 : decode cX7_years 127 = .ok (.ifCond .eq 8, 3) := by decide +kernel
theorem dX7_years_130 : decode cX7_years 130 = .ok (.iload 7, 2) := by decide +kernel
theorem dX7_years_132 : decode cX7_years 132 = .ok (.goto 4, 3) := by decide +kernel
theorem dX7_years_135 : decode cX7_years 135 = .ok (.iconst (-1), 1) := by decide +kernel
theorem dX7_years_136 : decode cX7_years 136 = .ok (.invokestatic 133, 3) := by decide +kernel
theorem dX7_years_139 : decode cX7_years 139 = .ok (.aload_n 0, 1) := by decide +kernel
theorem dX7_years_140 : decode cX7_years 140 = .ok (.getfield 16, 3) := by decide +kernel
theorem dX7_years_143 : decode cX7_years 143 = .ok (.iconst 1, 1) := by decide +kernel
theorem dX7_years_144 : decode cX7_years 144 = .ok (.invokevirtual 143, 3) := by decide +kernel
theorem dX7_years_147 : decode cX7_years 147 = .ok (.iinc 5 1, 3) := by decide +kernel
theorem dX7_years_150 : decode cX7_years 150 = .ok (.goto (-97), 3) := by decide +kernel
theorem dX7_years_153 : decode cX7_years 153 = .ok (.aload_n 0, 1) := by decide +kernel
theorem dX7_years_154 : decode cX7_years 154 = .ok (.getfield 16, 3) := by decide +kernel
theorem dX7_years_157 : decode cX7_years 157 = .ok (.invokevirtual 146, 3) := by decide +kernel
theorem dX7_years_160 : decode cX7_years 160 = .ok (.ireturn, 1) := by decide +kernel
theorem dX7_part_0 : decode cX7_part 0 = .ok (.iload_n 1, 1) := by decide +kernel
theorem dX7_part_1 : decode cX7_part 1 = .ok (.iconst 0, 1) := by decide +kernel
theorem dX7_part_2 : decode cX7_part 2 = .ok (.iconst 1, 1) := by decide +kernel
theorem dX7_part_3 : decode cX7_part 3 = .ok (.invokestatic 62, 3) := by decide +kernel
theorem dX7_part_6 : decode cX7_part 6 = .ok (.ifCond .ne 11, 3) := by decide +kernel
theorem dX7_part_9 : decode cX7_part 9 = .ok (.aload_n 0, 1) := by decide +kernel
theorem dX7_part_10 : decode cX7_part 10 = .ok (.bipush (-2), 2) := by decide +kernel
theorem dX7_part_12 : decode cX7_part 12 = .ok (.invokevirtual 66, 3) := by decide +kernel
theorem dX7_part_15 : decode cX7_part 15 = .ok (.i2l, 1) := by decide +kernel
theorem dX7_part_16 : decode cX7_part 16 = .ok (.lreturn, 1) := by decide +kernel
theorem dX7_part_17 : decode cX7_part 17 = .ok (.iload_n 1, 1) := by decide +kernel
theorem dX7_part_18 : decode cX7_part 18 = .ok (.ifCond .ne 11, 3) := by decide +kernel
theorem dX7_part_21 : decode cX7_part 21 = .ok (.aload_n 0, 1) := by decide +kernel
theorem dX7_part_22 : decode cX7_part 22 = .ok (.getfield 55, 3) := by decide +kernel
theorem dX7_part_25 : decode cX7_part 25 = .ok (.i2l, 1) := by decide +kernel
theorem dX7_part_26 : decode cX7_part 26 = .ok (.goto 8, 3) := by decide +kernel
theorem dX7_part_29 : decode cX7_part 29 = .ok (.aload_n 0, 1) := by decide +kernel
theorem dX7_part_30 : decode cX7_part 30 = .ok (.getfield 59, 3) := by decide +kernel
theorem dX7_part_33 : decode cX7_part 33 = .ok (.i2l, 1) := by decide +kernel
theorem dX7_part_34 : decode cX7_part 34 = .ok (.lreturn, 1) := by decide +kernel
theorem dX7_image_0 : decode cX7_image 0 = .ok (.iload_n 1, 1) := by decide +kernel
theorem dX7_image_1 : decode cX7_image 1 = .ok (.iconst 0, 1) := by decide +kernel
theorem dX7_image_2 : decode cX7_image 2 = .ok (.aload_n 0, 1) := by decide +kernel
theorem dX7_image_3 : decode cX7_image 3 = .ok (.getfield 19, 3) := by decide +kernel
theorem dX7_image_6 : decode cX7_image 6 = .ok (.arraylength, 1) := by decide +kernel
theorem dX7_image_7 : decode cX7_image 7 = .ok (.iconst 1, 1) := by decide +kernel
theorem dX7_image_8 : decode cX7_image 8 = .ok (.isub, 1) := by decide +kernel
theorem dX7_image_9 : decode cX7_image 9 = .ok (.invokestatic 62, 3) := by decide +kernel
theorem dX7_image_12 : decode cX7_image 12 = .ok (.ifCond .ne 10, 3) := by decide +kernel
theorem dX7_image_15 : decode cX7_image 15 = .ok (.aload_n 0, 1) := by decide +kernel
theorem dX7_image_16 : decode cX7_image 16 = .ok (.bipush (-2), 2) := by decide +kernel
theorem dX7_image_18 : decode cX7_image 18 = .ok (.invokevirtual 66, 3) := by decide +kernel
theorem dX7_image_21 : decode cX7_image 21 = .ok (.ireturn, 1) := by decide +kernel
theorem dX7_image_22 : decode cX7_image 22 = .ok (.aload_n 0, 1) := by decide +kernel
theorem dX7_image_23 : decode cX7_image 23 = .ok (.getfield 19, 3) := by decide +kernel
theorem dX7_image_26 : decode cX7_image 26 = .ok (.iload_n 1, 1) := by decide +kernel
theorem dX7_image_27 : decode cX7_image 27 = .ok (.aaload, 1) := by decide +kernel
theorem dX7_image_28 : decode cX7_image 28 = .ok (.ifnonnull 16, 3) := by decide +kernel
theorem dX7_image_31 : decode cX7_image 31 = .ok (.aload_n 0, 1) := by decide +kernel
theorem dX7_image_32 : decode cX7_image 32 = .ok (.getfield 19, 3) := by decide +kernel
theorem dX7_image_35 : decode cX7_image 35 = .ok (.iload_n 1, 1) := by decide +kernel
theorem dX7_image_36 : decode cX7_image 36 = .ok (.new 7, 3) := by decide +kernel
theorem dX7_image_39 : decode cX7_image 39 = .ok (.dup, 1) := by decide +kernel
theorem dX7_image_40 : decode cX7_image 40 = .ok (.invokespecial 9, 3) := by decide +kernel
theorem dX7_image_43 : decode cX7_image 43 = .ok (.aastore, 1) := by decide +kernel
theorem dX7_image_44 : decode cX7_image 44 = .ok (.aload_n 0, 1) := by decide +kernel
theorem dX7_image_45 : decode cX7_image 45 = .ok (.getfield 19, 3) := by decide +kernel
theorem dX7_image_48 : decode cX7_image 48 = .ok (.iload_n 1, 1) := by decide +kernel
theorem dX7_image_49 : decode cX7_image 49 = .ok (.aaload, 1) := by decide +kernel
theorem dX7_image_50 : decode cX7_image 50 = .ok (.aload_n 0, 1) := by decide +kernel
theorem dX7_image_51 : decode cX7_image 51 = .ok (.getfield 10, 3) := by decide +kernel
theorem dX7_image_54 : decode cX7_image 54 = .ok (.invokevirtual 102, 3) := by decide +kernel
theorem dX7_image_57 : decode cX7_image 57 = .ok (.iconst 1, 1) := by decide +kernel
theorem dX7_image_58 : decode cX7_image 58 = .ok (.ireturn, 1) := by decide +kernel
theorem dX7_from_0 : decode cX7_from 0 = .ok (.iload_n 1, 1) := by decide +kernel
theorem dX7_from_1 : decode cX7_from 1 = .ok (.iconst 0, 1) := by decide +kernel
theorem dX7_from_2 : decode cX7_from 2 = .ok (.aload_n 0, 1) := by decide +kernel
theorem dX7_from_3 : decode cX7_from 3 = .ok (.getfield 19, 3) := by decide +kernel
theorem dX7_from_6 : decode cX7_from 6 = .ok (.arraylength, 1) := by decide +kernel
theorem dX7_from_7 : decode cX7_from 7 = .ok (.iconst 1, 1) := by decide +kernel
theorem dX7_from_8 : decode cX7_from 8 = .ok (.isub, 1) := by decide +kernel
theorem dX7_from_9 : decode cX7_from 9 = .ok (.invokestatic 62, 3) := by decide +kernel
theorem dX7_from_12 : decode cX7_from 12 = .ok (.ifCond .ne 10, 3) := by decide +kernel
theorem dX7_from_15 : decode cX7_from 15 = .ok (.aload_n 0, 1) := by decide +kernel
theorem dX7_from_16 : decode cX7_from 16 = .ok (.bipush (-2), 2) := by decide +kernel
theorem dX7_from_18 : decode cX7_from 18 = .ok (.invokevirtual 66, 3) := by decide +kernel
theorem dX7_from_21 : decode cX7_from 21 = .ok (.ireturn, 1) := by decide +kernel
theorem dX7_from_22 : decode cX7_from 22 = .ok (.aload_n 0, 1) := by decide +kernel
theorem dX7_from_23 : decode cX7_from 23 = .ok (.getfield 19, 3) := by decide +kernel
theorem dX7_from_26 : decode cX7_from 26 = .ok (.iload_n 1, 1) := by decide +kernel
theorem dX7_from_27 : decode cX7_from 27 = .ok (.aaload, 1) := by decide +kernel
theorem dX7_from_28 : decode cX7_from 28 = .ok (.ifnonnull 10, 3) := by decide +kernel
theorem dX7_from_31 : decode cX7_from 31 = .ok (.aload_n 0, 1) := by decide +kernel
theorem dX7_from_32 : decode cX7_from 32 = .ok (.bipush (-3), 2) := by decide +kernel
theorem dX7_from_34 : decode cX7_from 34 = .ok (.invokevirtual 66, 3) := by decide +kernel
theorem dX7_from_37 : decode cX7_from 37 = .ok (.ireturn, 1) := by decide +kernel
theorem dX7_from_38 : decode cX7_from 38 = .ok (.aload_n 0, 1) := by decide +kernel
theorem dX7_from_39 : decode cX7_from 39 = .ok (.getfield 10, 3) := by decide +kernel
theorem dX7_from_42 : decode cX7_from 42 = .ok (.aload_n 0, 1) := by decide +kernel
theorem dX7_from_43 : decode cX7_from 43 = .ok (.getfield 19, 3) := by decide +kernel
theorem dX7_from_46 : decode cX7_from 46 = .ok (.iload_n 1, 1) := by decide +kernel
theorem dX7_from_47 : decode cX7_from 47 = .ok (.aaload, 1) := by decide +kernel
theorem dX7_from_48 : decode cX7_from 48 = .ok (.invokevirtual 102, 3) := by decide +kernel
theorem dX7_from_51 : decode cX7_from 51 = .ok (.iconst 1, 1) := by decide +kernel
theorem dX7_from_52 : decode cX7_from 52 = .ok (.ireturn, 1) := by decide +kernel
theorem dX7_status_0 : decode cX7_status 0 = .ok (.iload_n 1, 1) := by decide +kernel
theorem dX7_status_1 : decode cX7_status 1 = .ok (.iconst 0, 1) := by decide +kernel
theorem dX7_status_2 : decode cX7_status 2 = .ok (.iconst 2, 1) := by decide +kernel
theorem dX7_status_3 : decode cX7_status 3 = .ok (.invokestatic 62, 3) := by decide +kernel
theorem dX7_status_6 : decode cX7_status 6 = .ok (.ifCond .ne 12, 3) := by decide +kernel
theorem dX7_status_9 : decode cX7_status 9 = .ok (.aload_n 0, 1) := by decide +kernel
theorem dX7_status_10 : decode cX7_status 10 = .ok (.bipush (-2), 2) := by decide +kernel
theorem dX7_status_12 : decode cX7_status 12 = .ok (.invokevirtual 66, 3) := by decide +kernel
theorem dX7_status_15 : decode cX7_status 15 = .ok (.pop, 1) := by decide +kernel
theorem dX7_status_16 : decode cX7_status 16 = .ok (.iconst (-1), 1) := by decide +kernel
theorem dX7_status_17 : decode cX7_status 17 = .ok (.ireturn, 1) := by decide +kernel
theorem dX7_status_18 : decode cX7_status 18 = .ok (.aload_n 0, 1) := by decide +kernel
theorem dX7_status_19 : decode cX7_status 19 = .ok (.getfield 51, 3) := by decide +kernel
theorem dX7_status_22 : decode cX7_status 22 = .ok (.iload_n 1, 1) := by decide +kernel
theorem dX7_status_23 : decode cX7_status 23 = .ok (.invokestatic 126, 3) := by decide +kernel
theorem dX7_status_26 : decode cX7_status 26 = .ok (.ireturn, 1) := by decide +kernel
theorem dX7_count_0 : decode cX7_count 0 = .ok (.iload_n 1, 1) := by decide +kernel
theorem dX7_count_1 : decode cX7_count 1 = .ok (.iconst 0, 1) := by decide +kernel
theorem dX7_count_2 : decode cX7_count 2 = .ok (.bipush 10, 2) := by decide +kernel
theorem dX7_count_4 : decode cX7_count 4 = .ok (.invokestatic 62, 3) := by decide +kernel
theorem dX7_count_7 : decode cX7_count 7 = .ok (.ifCond .eq 11, 3) := by decide +kernel
theorem dX7_count_10 : decode cX7_count 10 = .ok (.aload_n 0, 1) := by decide +kernel
theorem dX7_count_11 : decode cX7_count 11 = .ok (.iload_n 1, 1) := by decide +kernel
theorem dX7_count_12 : decode cX7_count 12 = .ok (.invokevirtual 298, 3) := by decide +kernel
theorem dX7_count_15 : decode cX7_count 15 = .ok (.goto 9, 3) := by decide +kernel
theorem dX7_count_18 : decode cX7_count 18 = .ok (.aload_n 0, 1) := by decide +kernel
theorem dX7_count_19 : decode cX7_count 19 = .ok (.bipush (-2), 2) := by decide +kernel
theorem dX7_count_21 : decode cX7_count 21 = .ok (.invokevirtual 66, 3) := by decide +kernel
theorem dX7_count_24 : decode cX7_count 24 = .ok (.ireturn, 1) := by decide +kernel
theorem dX7_digest_0 : decode cX7_digest 0 = .ok (.ldc2_w 301, 3) := by decide +kernel
theorem dX7_digest_3 : decode cX7_digest 3 = .ok (.lstore_n 1, 1) := by decide +kernel
theorem dX7_digest_4 : decode cX7_digest 4 = .ok (.iconst 0, 1) := by decide +kernel
theorem dX7_digest_5 : decode cX7_digest 5 = .ok (.istore_n 3, 1) := by decide +kernel
theorem dX7_digest_6 : decode cX7_digest 6 = .ok (.iload_n 3, 1) := by decide +kernel
theorem dX7_digest_7 : decode cX7_digest 7 = .ok (.bipush 10, 2) := by decide +kernel
theorem dX7_digest_9 : decode cX7_digest 9 = .ok (.if_icmp .gt 22, 3) := by decide +kernel
theorem dX7_digest_12 : decode cX7_digest 12 = .ok (.ldc2_w 303, 3) := by decide +kernel
theorem dX7_digest_15 : decode cX7_digest 15 = .ok (.lload_n 1, 1) := by decide +kernel
theorem dX7_digest_16 : decode cX7_digest 16 = .ok (.lmul, 1) := by decide +kernel
theorem dX7_digest_17 : decode cX7_digest 17 = .ok (.aload_n 0, 1) := by decide +kernel
theorem dX7_digest_18 : decode cX7_digest 18 = .ok (.iload_n 3, 1) := by decide +kernel
theorem dX7_digest_19 : decode cX7_digest 19 = .ok (.invokevirtual 298, 3) := by decide +kernel
theorem dX7_digest_22 : decode cX7_digest 22 = .ok (.i2l, 1) := by decide +kernel
theorem dX7_digest_23 : decode cX7_digest 23 = .ok (.ladd, 1) := by decide +kernel
theorem dX7_digest_24 : decode cX7_digest 24 = .ok (.lstore_n 1, 1) := by decide +kernel
theorem dX7_digest_25 : decode cX7_digest 25 = .ok (.iinc 3 1, 3) := by decide +kernel
theorem dX7_digest_28 : decode cX7_digest 28 = .ok (.goto (-22), 3) := by decide +kernel
theorem dX7_digest_31 : decode cX7_digest 31 = .ok (.iconst 0, 1) := by decide +kernel
theorem dX7_digest_32 : decode cX7_digest 32 = .ok (.istore_n 3, 1) := by decide +kernel
theorem dX7_digest_33 : decode cX7_digest 33 = .ok (.iload_n 3, 1) := by decide +kernel
theorem dX7_digest_34 : decode cX7_digest 34 = .ok (.aload_n 0, 1) := by decide +kernel
theorem dX7_digest_35 : decode cX7_digest 35 = .ok (.getfield 10, 3) := by decide +kernel
theorem dX7_digest_38 : decode cX7_digest 38 = .ok (.getfield 70, 3) := by decide +kernel
theorem dX7_digest_41 : decode cX7_digest 41 = .ok (.if_icmp .ge 66, 3) := by decide +kernel
theorem dX7_digest_44 : decode cX7_digest 44 = .ok (.ldc2_w 303, 3) := by decide +kernel
theorem dX7_digest_47 : decode cX7_digest 47 = .ok (.lload_n 1, 1) := by decide +kernel
theorem dX7_digest_48 : decode cX7_digest 48 = .ok (.lmul, 1) := by decide +kernel
theorem dX7_digest_49 : decode cX7_digest 49 = .ok (.aload_n 0, 1) := by decide +kernel
theorem dX7_digest_50 : decode cX7_digest 50 = .ok (.getfield 10, 3) := by decide +kernel
theorem dX7_digest_53 : decode cX7_digest 53 = .ok (.getfield 165, 3) := by decide +kernel
theorem dX7_digest_56 : decode cX7_digest 56 = .ok (.iload_n 3, 1) := by decide +kernel
theorem dX7_digest_57 : decode cX7_digest 57 = .ok (.invokestatic 126, 3) := by decide +kernel
theorem dX7_digest_60 : decode cX7_digest 60 = .ok (.i2l, 1) := by decide +kernel
theorem dX7_digest_61 : decode cX7_digest 61 = .ok (.ladd, 1) := by decide +kernel
theorem dX7_digest_62 : decode cX7_digest 62 = .ok (.lstore_n 1, 1) := by decide +kernel
theorem dX7_digest_63 : decode cX7_digest 63 = .ok (.ldc2_w 303, 3) := by decide +kernel
theorem dX7_digest_66 : decode cX7_digest 66 = .ok (.lload_n 1, 1) := by decide +kernel
theorem dX7_digest_67 : decode cX7_digest 67 = .ok (.lmul, 1) := by decide +kernel
theorem dX7_digest_68 : decode cX7_digest 68 = .ok (.aload_n 0, 1) := by decide +kernel
theorem dX7_digest_69 : decode cX7_digest 69 = .ok (.getfield 10, 3) := by decide +kernel
theorem dX7_digest_72 : decode cX7_digest 72 = .ok (.getfield 168, 3) := by decide +kernel
theorem dX7_digest_75 : decode cX7_digest 75 = .ok (.iload_n 3, 1) := by decide +kernel
theorem dX7_digest_76 : decode cX7_digest 76 = .ok (.invokestatic 126, 3) := by decide +kernel
theorem dX7_digest_79 : decode cX7_digest 79 = .ok (.i2l, 1) := by decide +kernel
theorem dX7_digest_80 : decode cX7_digest 80 = .ok (.ladd, 1) := by decide +kernel
theorem dX7_digest_81 : decode cX7_digest 81 = .ok (.lstore_n 1, 1) := by decide +kernel
theorem dX7_digest_82 : decode cX7_digest 82 = .ok (.ldc2_w 303, 3) := by decide +kernel
theorem dX7_digest_85 : decode cX7_digest 85 = .ok (.lload_n 1, 1) := by decide +kernel
theorem dX7_digest_86 : decode cX7_digest 86 = .ok (.lmul, 1) := by decide +kernel
theorem dX7_digest_87 : decode cX7_digest 87 = .ok (.aload_n 0, 1) := by decide +kernel
theorem dX7_digest_88 : decode cX7_digest 88 = .ok (.getfield 10, 3) := by decide +kernel
theorem dX7_digest_91 : decode cX7_digest 91 = .ok (.getfield 123, 3) := by decide +kernel
theorem dX7_digest_94 : decode cX7_digest 94 = .ok (.iload_n 3, 1) := by decide +kernel
theorem dX7_digest_95 : decode cX7_digest 95 = .ok (.invokestatic 126, 3) := by decide +kernel
theorem dX7_digest_98 : decode cX7_digest 98 = .ok (.i2l, 1) := by decide +kernel
theorem dX7_digest_99 : decode cX7_digest 99 = .ok (.ladd, 1) := by decide +kernel
theorem dX7_digest_100 : decode cX7_digest 100 = .ok (.lstore_n 1, 1) := by decide +kernel
theorem dX7_digest_101 : decode cX7_digest 101 = .ok (.iinc 3 1, 3) := by decide +kernel
theorem dX7_digest_104 : decode cX7_digest 104 = .ok (.goto (-71), 3) := by decide +kernel
theorem dX7_digest_107 : decode cX7_digest 107 = .ok (.iconst 0, 1) := by decide +kernel
theorem dX7_digest_108 : decode cX7_digest 108 = .ok (.istore_n 3, 1) := by decide +kernel
theorem dX7_digest_109 : decode cX7_digest 109 = .ok (.iload_n 3, 1) := by decide +kernel
theorem dX7_digest_110 : decode cX7_digest 110 = .ok (.aload_n 0, 1) := by decide +kernel
theorem dX7_digest_111 : decode cX7_digest 111 = .ok (.getfield 10, 3) := by decide +kernel
theorem dX7_digest_114 : decode cX7_digest 114 = .ok (.getfield 81, 3) := by decide +kernel
theorem dX7_digest_117 : decode cX7_digest 117 = .ok (.if_icmp .ge 66, 3) := by decide +kernel
theorem dX7_digest_120 : decode cX7_digest 120 = .ok (.ldc2_w 303, 3) := by decide +kernel
theorem dX7_digest_123 : decode cX7_digest 123 = .ok (.lload_n 1, 1) := by decide +kernel
theorem dX7_digest_124 : decode cX7_digest 124 = .ok (.lmul, 1) := by decide +kernel
theorem dX7_digest_125 : decode cX7_digest 125 = .ok (.aload_n 0, 1) := by decide +kernel
theorem dX7_digest_126 : decode cX7_digest 126 = .ok (.getfield 10, 3) := by decide +kernel
theorem dX7_digest_129 : decode cX7_digest 129 = .ok (.getfield 171, 3) := by decide +kernel
theorem dX7_digest_132 : decode cX7_digest 132 = .ok (.iload_n 3, 1) := by decide +kernel
theorem dX7_digest_133 : decode cX7_digest 133 = .ok (.invokestatic 126, 3) := by decide +kernel
theorem dX7_digest_136 : decode cX7_digest 136 = .ok (.i2l, 1) := by decide +kernel
theorem dX7_digest_137 : decode cX7_digest 137 = .ok (.ladd, 1) := by decide +kernel
theorem dX7_digest_138 : decode cX7_digest 138 = .ok (.lstore_n 1, 1) := by decide +kernel
theorem dX7_digest_139 : decode cX7_digest 139 = .ok (.ldc2_w 303, 3) := by decide +kernel
theorem dX7_digest_142 : decode cX7_digest 142 = .ok (.lload_n 1, 1) := by decide +kernel
theorem dX7_digest_143 : decode cX7_digest 143 = .ok (.lmul, 1) := by decide +kernel
theorem dX7_digest_144 : decode cX7_digest 144 = .ok (.aload_n 0, 1) := by decide +kernel
theorem dX7_digest_145 : decode cX7_digest 145 = .ok (.getfield 10, 3) := by decide +kernel
theorem dX7_digest_148 : decode cX7_digest 148 = .ok (.getfield 174, 3) := by decide +kernel
theorem dX7_digest_151 : decode cX7_digest 151 = .ok (.iload_n 3, 1) := by decide +kernel
theorem dX7_digest_152 : decode cX7_digest 152 = .ok (.invokestatic 126, 3) := by decide +kernel
theorem dX7_digest_155 : decode cX7_digest 155 = .ok (.i2l, 1) := by decide +kernel
theorem dX7_digest_156 : decode cX7_digest 156 = .ok (.ladd, 1) := by decide +kernel
theorem dX7_digest_157 : decode cX7_digest 157 = .ok (.lstore_n 1, 1) := by decide +kernel
theorem dX7_digest_158 : decode cX7_digest 158 = .ok (.ldc2_w 303, 3) := by decide +kernel
theorem dX7_digest_161 : decode cX7_digest 161 = .ok (.lload_n 1, 1) := by decide +kernel
theorem dX7_digest_162 : decode cX7_digest 162 = .ok (.lmul, 1) := by decide +kernel
theorem dX7_digest_163 : decode cX7_digest 163 = .ok (.aload_n 0, 1) := by decide +kernel
theorem dX7_digest_164 : decode cX7_digest 164 = .ok (.getfield 10, 3) := by decide +kernel
theorem dX7_digest_167 : decode cX7_digest 167 = .ok (.getfield 177, 3) := by decide +kernel
theorem dX7_digest_170 : decode cX7_digest 170 = .ok (.iload_n 3, 1) := by decide +kernel
theorem dX7_digest_171 : decode cX7_digest 171 = .ok (.invokestatic 126, 3) := by decide +kernel
theorem dX7_digest_174 : decode cX7_digest 174 = .ok (.i2l, 1) := by decide +kernel
theorem dX7_digest_175 : decode cX7_digest 175 = .ok (.ladd, 1) := by decide +kernel
theorem dX7_digest_176 : decode cX7_digest 176 = .ok (.lstore_n 1, 1) := by decide +kernel
theorem dX7_digest_177 : decode cX7_digest 177 = .ok (.iinc 3 1, 3) := by decide +kernel
theorem dX7_digest_180 : decode cX7_digest 180 = .ok (.goto (-71), 3) := by decide +kernel
theorem dX7_digest_183 : decode cX7_digest 183 = .ok (.aload_n 0, 1) := by decide +kernel
theorem dX7_digest_184 : decode cX7_digest 184 = .ok (.getfield 10, 3) := by decide +kernel
theorem dX7_digest_187 : decode cX7_digest 187 = .ok (.getfield 218, 3) := by decide +kernel
theorem dX7_digest_190 : decode cX7_digest 190 = .ok (.lload_n 1, 1) := by decide +kernel
theorem dX7_digest_191 : decode cX7_digest 191 = .ok (.invokevirtual 305, 3) := by decide +kernel
theorem dX7_digest_194 : decode cX7_digest 194 = .ok (.lstore_n 1, 1) := by decide +kernel
theorem dX7_digest_195 : decode cX7_digest 195 = .ok (.aload_n 0, 1) := by decide +kernel
theorem dX7_digest_196 : decode cX7_digest 196 = .ok (.getfield 10, 3) := by decide +kernel
theorem dX7_digest_199 : decode cX7_digest 199 = .ok (.getfield 245, 3) := by decide +kernel
theorem dX7_digest_202 : decode cX7_digest 202 = .ok (.lload_n 1, 1) := by decide +kernel
theorem dX7_digest_203 : decode cX7_digest 203 = .ok (.invokevirtual 305, 3) := by decide +kernel
theorem dX7_digest_206 : decode cX7_digest 206 = .ok (.lstore_n 1, 1) := by decide +kernel
theorem dX7_digest_207 : decode cX7_digest 207 = .ok (.aload_n 0, 1) := by decide +kernel
theorem dX7_digest_208 : decode cX7_digest 208 = .ok (.getfield 10, 3) := by decide +kernel
theorem dX7_digest_211 : decode cX7_digest 211 = .ok (.getfield 248, 3) := by decide +kernel
theorem dX7_digest_214 : decode cX7_digest 214 = .ok (.lload_n 1, 1) := by decide +kernel
theorem dX7_digest_215 : decode cX7_digest 215 = .ok (.invokevirtual 305, 3) := by decide +kernel
theorem dX7_digest_218 : decode cX7_digest 218 = .ok (.lstore_n 1, 1) := by decide +kernel
theorem dX7_digest_219 : decode cX7_digest 219 = .ok (.ldc2_w 303, 3) := by decide +kernel
theorem dX7_digest_222 : decode cX7_digest 222 = .ok (.ldc2_w 303, 3) := by decide +kernel
theorem dX7_digest_225 : decode cX7_digest 225 = .ok (.lload_n 1, 1) := by decide +kernel
theorem dX7_digest_226 : decode cX7_digest 226 = .ok (.lmul, 1) := by decide +kernel
theorem dX7_digest_227 : decode cX7_digest 227 = .ok (.aload_n 0, 1) := by decide +kernel
theorem dX7_digest_228 : decode cX7_digest 228 = .ok (.getfield 55, 3) := by decide +kernel
theorem dX7_digest_231 : decode cX7_digest 231 = .ok (.i2l, 1) := by decide +kernel
theorem dX7_digest_232 : decode cX7_digest 232 = .ok (.ladd, 1) := by decide +kernel
theorem dX7_digest_233 : decode cX7_digest 233 = .ok (.lmul, 1) := by decide +kernel
theorem dX7_digest_234 : decode cX7_digest 234 = .ok (.aload_n 0, 1) := by decide +kernel
theorem dX7_digest_235 : decode cX7_digest 235 = .ok (.getfield 59, 3) := by decide +kernel
theorem dX7_digest_238 : decode cX7_digest 238 = .ok (.i2l, 1) := by decide +kernel
theorem dX7_digest_239 : decode cX7_digest 239 = .ok (.ladd, 1) := by decide +kernel
theorem dX7_digest_240 : decode cX7_digest 240 = .ok (.lreturn, 1) := by decide +kernel
theorem dX7_countOf_0 : decode cX7_countOf 0 = .ok (.iload_n 1, 1) := by decide +kernel
theorem dX7_countOf_1 : decode cX7_countOf 1 = .ok (.tableswitch 147 0 9 #[55, 63, 71, 79, 87, 95, 103, 114, 125, 136], 55) := by decide +kernel
theorem dX7_countOf_56 : decode cX7_countOf 56 = .ok (.aload_n 0, 1) := by decide +kernel
theorem dX7_countOf_57 : decode cX7_countOf 57 = .ok (.getfield 10, 3) := by decide +kernel
theorem dX7_countOf_60 : decode cX7_countOf 60 = .ok (.getfield 70, 3) := by decide +kernel
theorem dX7_countOf_63 : decode cX7_countOf 63 = .ok (.ireturn, 1) := by decide +kernel
theorem dX7_countOf_64 : decode cX7_countOf 64 = .ok (.aload_n 0, 1) := by decide +kernel
theorem dX7_countOf_65 : decode cX7_countOf 65 = .ok (.getfield 10, 3) := by decide +kernel
theorem dX7_countOf_68 : decode cX7_countOf 68 = .ok (.getfield 81, 3) := by decide +kernel
theorem dX7_countOf_71 : decode cX7_countOf 71 = .ok (.ireturn, 1) := by decide +kernel
theorem dX7_countOf_72 : decode cX7_countOf 72 = .ok (.aload_n 0, 1) := by decide +kernel
theorem dX7_countOf_73 : decode cX7_countOf 73 = .ok (.getfield 10, 3) := by decide +kernel
theorem dX7_countOf_76 : decode cX7_countOf 76 = .ok (.getfield 162, 3) := by decide +kernel
theorem dX7_countOf_79 : decode cX7_countOf 79 = .ok (.ireturn, 1) := by decide +kernel
theorem dX7_countOf_80 : decode cX7_countOf 80 = .ok (.aload_n 0, 1) := by decide +kernel
theorem dX7_countOf_81 : decode cX7_countOf 81 = .ok (.getfield 10, 3) := by decide +kernel
theorem dX7_countOf_84 : decode cX7_countOf 84 = .ok (.getfield 140, 3) := by decide +kernel
theorem dX7_countOf_87 : decode cX7_countOf 87 = .ok (.ireturn, 1) := by decide +kernel
theorem dX7_countOf_88 : decode cX7_countOf 88 = .ok (.aload_n 0, 1) := by decide +kernel
theorem dX7_countOf_89 : decode cX7_countOf 89 = .ok (.getfield 10, 3) := by decide +kernel
theorem dX7_countOf_92 : decode cX7_countOf 92 = .ok (.invokevirtual 309, 3) := by decide +kernel
theorem dX7_countOf_95 : decode cX7_countOf 95 = .ok (.ireturn, 1) := by decide +kernel
theorem dX7_countOf_96 : decode cX7_countOf 96 = .ok (.aload_n 0, 1) := by decide +kernel
theorem dX7_countOf_97 : decode cX7_countOf 97 = .ok (.getfield 10, 3) := by decide +kernel
theorem dX7_countOf_100 : decode cX7_countOf 100 = .ok (.invokevirtual 146, 3) := by decide +kernel
theorem dX7_countOf_103 : decode cX7_countOf 103 = .ok (.ireturn, 1) := by decide +kernel
theorem dX7_countOf_104 : decode cX7_countOf 104 = .ok (.aload_n 0, 1) := by decide +kernel
theorem dX7_countOf_105 : decode cX7_countOf 105 = .ok (.getfield 10, 3) := by decide +kernel
theorem dX7_countOf_108 : decode cX7_countOf 108 = .ok (.getfield 218, 3) := by decide +kernel
theorem dX7_countOf_111 : decode cX7_countOf 111 = .ok (.getfield 154, 3) := by decide +kernel
theorem dX7_countOf_114 : decode cX7_countOf 114 = .ok (.ireturn, 1) := by decide +kernel
theorem dX7_countOf_115 : decode cX7_countOf 115 = .ok (.aload_n 0, 1) := by decide +kernel
theorem dX7_countOf_116 : decode cX7_countOf 116 = .ok (.getfield 10, 3) := by decide +kernel
theorem dX7_countOf_119 : decode cX7_countOf 119 = .ok (.getfield 245, 3) := by decide +kernel
theorem dX7_countOf_122 : decode cX7_countOf 122 = .ok (.getfield 154, 3) := by decide +kernel
theorem dX7_countOf_125 : decode cX7_countOf 125 = .ok (.ireturn, 1) := by decide +kernel
theorem dX7_countOf_126 : decode cX7_countOf 126 = .ok (.aload_n 0, 1) := by decide +kernel
theorem dX7_countOf_127 : decode cX7_countOf 127 = .ok (.getfield 10, 3) := by decide +kernel
theorem dX7_countOf_130 : decode cX7_countOf 130 = .ok (.getfield 248, 3) := by decide +kernel
theorem dX7_countOf_133 : decode cX7_countOf 133 = .ok (.getfield 154, 3) := by decide +kernel
theorem dX7_countOf_136 : decode cX7_countOf 136 = .ok (.ireturn, 1) := by decide +kernel
theorem dX7_countOf_137 : decode cX7_countOf 137 = .ok (.aload_n 0, 1) := by decide +kernel
theorem dX7_countOf_138 : decode cX7_countOf 138 = .ok (.getfield 10, 3) := by decide +kernel
theorem dX7_countOf_141 : decode cX7_countOf 141 = .ok (.getfield 150, 3) := by decide +kernel
theorem dX7_countOf_144 : decode cX7_countOf 144 = .ok (.getfield 154, 3) := by decide +kernel
theorem dX7_countOf_147 : decode cX7_countOf 147 = .ok (.ireturn, 1) := by decide +kernel
theorem dX7_countOf_148 : decode cX7_countOf 148 = .ok (.aload_n 0, 1) := by decide +kernel
theorem dX7_countOf_149 : decode cX7_countOf 149 = .ok (.getfield 26, 3) := by decide +kernel
theorem dX7_countOf_152 : decode cX7_countOf 152 = .ok (.getfield 87, 3) := by decide +kernel
theorem dX7_countOf_155 : decode cX7_countOf 155 = .ok (.ireturn, 1) := by decide +kernel
theorem dX7_refuse_0 : decode cX7_refuse 0 = .ok (.bipush (-2), 2) := by decide +kernel
theorem dX7_refuse_2 : decode cX7_refuse 2 = .ok (.iload_n 1, 1) := by decide +kernel
theorem dX7_refuse_3 : decode cX7_refuse 3 = .ok (.isub, 1) := by decide +kernel
theorem dX7_refuse_4 : decode cX7_refuse 4 = .ok (.istore_n 2, 1) := by decide +kernel
theorem dX7_refuse_5 : decode cX7_refuse 5 = .ok (.aload_n 0, 1) := by decide +kernel
theorem dX7_refuse_6 : decode cX7_refuse 6 = .ok (.getfield 51, 3) := by decide +kernel
theorem dX7_refuse_9 : decode cX7_refuse 9 = .ok (.iload_n 2, 1) := by decide +kernel
theorem dX7_refuse_10 : decode cX7_refuse 10 = .ok (.aload_n 0, 1) := by decide +kernel
theorem dX7_refuse_11 : decode cX7_refuse 11 = .ok (.getfield 51, 3) := by decide +kernel
theorem dX7_refuse_14 : decode cX7_refuse 14 = .ok (.iload_n 2, 1) := by decide +kernel
theorem dX7_refuse_15 : decode cX7_refuse 15 = .ok (.invokestatic 126, 3) := by decide +kernel
theorem dX7_refuse_18 : decode cX7_refuse 18 = .ok (.iconst 1, 1) := by decide +kernel
theorem dX7_refuse_19 : decode cX7_refuse 19 = .ok (.iadd, 1) := by decide +kernel
theorem dX7_refuse_20 : decode cX7_refuse 20 = .ok (.invokestatic 133, 3) := by decide +kernel
theorem dX7_refuse_23 : decode cX7_refuse 23 = .ok (.iload_n 1, 1) := by decide +kernel
theorem dX7_refuse_24 : decode cX7_refuse 24 = .ok (.ireturn, 1) := by decide +kernel
theorem dX7_keepFraction_0 : decode cX7_keepFraction 0 = .ok (.iconst 1, 1) := by decide +kernel
theorem dX7_keepFraction_1 : decode cX7_keepFraction 1 = .ok (.istore_n 2, 1) := by decide +kernel
theorem dX7_keepFraction_2 : decode cX7_keepFraction 2 = .ok (.iconst 2, 1) := by decide +kernel
theorem dX7_keepFraction_3 : decode cX7_keepFraction 3 = .ok (.istore_n 3, 1) := by decide +kernel
theorem dX7_keepFraction_4 : decode cX7_keepFraction 4 = .ok (.iload_n 3, 1) := by decide +kernel
theorem dX7_keepFraction_5 : decode cX7_keepFraction 5 = .ok (.bipush 10, 2) := by decide +kernel
theorem dX7_keepFraction_7 : decode cX7_keepFraction 7 = .ok (.if_icmp .gt 24, 3) := by decide +kernel
theorem dX7_keepFraction_10 : decode cX7_keepFraction 10 = .ok (.iload_n 1, 1) := by decide +kernel
theorem dX7_keepFraction_11 : decode cX7_keepFraction 11 = .ok (.iload_n 3, 1) := by decide +kernel
theorem dX7_keepFraction_12 : decode cX7_keepFraction 12 = .ok (.irem, 1) := by decide +kernel
theorem dX7_keepFraction_13 : decode cX7_keepFraction 13 = .ok (.ifCond .ne 12, 3) := by decide +kernel
theorem dX7_keepFraction_16 : decode cX7_keepFraction 16 = .ok (.bipush 10, 2) := by decide +kernel
theorem dX7_keepFraction_18 : decode cX7_keepFraction 18 = .ok (.iload_n 3, 1) := by decide +kernel
theorem dX7_keepFraction_19 : decode cX7_keepFraction 19 = .ok (.irem, 1) := by decide +kernel
theorem dX7_keepFraction_20 : decode cX7_keepFraction 20 = .ok (.ifCond .ne 5, 3) := by decide +kernel
theorem dX7_keepFraction_23 : decode cX7_keepFraction 23 = .ok (.iload_n 3, 1) := by decide +kernel
theorem dX7_keepFraction_24 : decode cX7_keepFraction 24 = .ok (.istore_n 2, 1) := by decide +kernel
theorem dX7_keepFraction_25 : decode cX7_keepFraction 25 = .ok (.iinc 3 1, 3) := by decide +kernel
theorem dX7_keepFraction_28 : decode cX7_keepFraction 28 = .ok (.goto (-24), 3) := by decide +kernel
theorem dX7_keepFraction_31 : decode cX7_keepFraction 31 = .ok (.aload_n 0, 1) := by decide +kernel
theorem dX7_keepFraction_32 : decode cX7_keepFraction 32 = .ok (.iload_n 1, 1) := by decide +kernel
theorem dX7_keepFraction_33 : decode cX7_keepFraction 33 = .ok (.iload_n 2, 1) := by decide +kernel
theorem dX7_keepFraction_34 : decode cX7_keepFraction 34 = .ok (.idiv, 1) := by decide +kernel
theorem dX7_keepFraction_35 : decode cX7_keepFraction 35 = .ok (.putfield 55, 3) := by decide +kernel
theorem dX7_keepFraction_38 : decode cX7_keepFraction 38 = .ok (.aload_n 0, 1) := by decide +kernel
theorem dX7_keepFraction_39 : decode cX7_keepFraction 39 = .ok (.bipush 10, 2) := by decide +kernel
theorem dX7_keepFraction_41 : decode cX7_keepFraction 41 = .ok (.iload_n 2, 1) := by decide +kernel
theorem dX7_keepFraction_42 : decode cX7_keepFraction 42 = .ok (.idiv, 1) := by decide +kernel
theorem dX7_keepFraction_43 : decode cX7_keepFraction 43 = .ok (.putfield 59, 3) := by decide +kernel
theorem dX7_keepFraction_46 : decode cX7_keepFraction 46 = .ok (.return_, 1) := by decide +kernel
theorem dX7_within_0 : decode cX7_within 0 = .ok (.iload_n 0, 1) := by decide +kernel
theorem dX7_within_1 : decode cX7_within 1 = .ok (.iload_n 1, 1) := by decide +kernel
theorem dX7_within_2 : decode cX7_within 2 = .ok (.if_icmp .lt 12, 3) := by decide +kernel
theorem dX7_within_5 : decode cX7_within 5 = .ok (.iload_n 0, 1) := by decide +kernel
theorem dX7_within_6 : decode cX7_within 6 = .ok (.iload_n 2, 1) := by decide +kernel
theorem dX7_within_7 : decode cX7_within 7 = .ok (.if_icmp .gt 7, 3) := by decide +kernel
theorem dX7_within_10 : decode cX7_within 10 = .ok (.iconst 1, 1) := by decide +kernel
theorem dX7_within_11 : decode cX7_within 11 = .ok (.goto 4, 3) := by decide +kernel
theorem dX7_within_14 : decode cX7_within 14 = .ok (.iconst 0, 1) := by decide +kernel
theorem dX7_within_15 : decode cX7_within 15 = .ok (.ireturn, 1) := by decide +kernel
theorem dX7_hasBit_0 : decode cX7_hasBit 0 = .ok (.iload_n 0, 1) := by decide +kernel
theorem dX7_hasBit_1 : decode cX7_hasBit 1 = .ok (.iload_n 1, 1) := by decide +kernel
theorem dX7_hasBit_2 : decode cX7_hasBit 2 = .ok (.ishr, 1) := by decide +kernel
theorem dX7_hasBit_3 : decode cX7_hasBit 3 = .ok (.iconst 1, 1) := by decide +kernel
theorem dX7_hasBit_4 : decode cX7_hasBit 4 = .ok (.iand, 1) := by decide +kernel
theorem dX7_hasBit_5 : decode cX7_hasBit 5 = .ok (.iconst 1, 1) := by decide +kernel
theorem dX7_hasBit_6 : decode cX7_hasBit 6 = .ok (.if_icmp .ne 7, 3) := by decide +kernel
theorem dX7_hasBit_9 : decode cX7_hasBit 9 = .ok (.iconst 1, 1) := by decide +kernel
theorem dX7_hasBit_10 : decode cX7_hasBit 10 = .ok (.goto 4, 3) := by decide +kernel
theorem dX7_hasBit_13 : decode cX7_hasBit 13 = .ok (.iconst 0, 1) := by decide +kernel
theorem dX7_hasBit_14 : decode cX7_hasBit 14 = .ok (.ireturn, 1) := by decide +kernel
theorem dX7_lowestBit_0 : decode cX7_lowestBit 0 = .ok (.iconst 0, 1) := by decide +kernel
theorem dX7_lowestBit_1 : decode cX7_lowestBit 1 = .ok (.istore_n 1, 1) := by decide +kernel
theorem dX7_lowestBit_2 : decode cX7_lowestBit 2 = .ok (.iload_n 1, 1) := by decide +kernel
theorem dX7_lowestBit_3 : decode cX7_lowestBit 3 = .ok (.bipush 30, 2) := by decide +kernel
theorem dX7_lowestBit_5 : decode cX7_lowestBit 5 = .ok (.if_icmp .gt 19, 3) := by decide +kernel
theorem dX7_lowestBit_8 : decode cX7_lowestBit 8 = .ok (.iload_n 0, 1) := by decide +kernel
theorem dX7_lowestBit_9 : decode cX7_lowestBit 9 = .ok (.iload_n 1, 1) := by decide +kernel
theorem dX7_lowestBit_10 : decode cX7_lowestBit 10 = .ok (.invokestatic 312, 3) := by decide +kernel
theorem dX7_lowestBit_13 : decode cX7_lowestBit 13 = .ok (.ifCond .eq 5, 3) := by decide +kernel
theorem dX7_lowestBit_16 : decode cX7_lowestBit 16 = .ok (.iload_n 1, 1) := by decide +kernel
theorem dX7_lowestBit_17 : decode cX7_lowestBit 17 = .ok (.ireturn, 1) := by decide +kernel
theorem dX7_lowestBit_18 : decode cX7_lowestBit 18 = .ok (.iinc 1 1, 3) := by decide +kernel
theorem dX7_lowestBit_21 : decode cX7_lowestBit 21 = .ok (.goto (-19), 3) := by decide +kernel
theorem dX7_lowestBit_24 : decode cX7_lowestBit 24 = .ok (.iconst (-1), 1) := by decide +kernel
theorem dX7_lowestBit_25 : decode cX7_lowestBit 25 = .ok (.ireturn, 1) := by decide +kernel
theorem dX7_highestBit_0 : decode cX7_highestBit 0 = .ok (.bipush 30, 2) := by decide +kernel
theorem dX7_highestBit_2 : decode cX7_highestBit 2 = .ok (.istore_n 1, 1) := by decide +kernel
theorem dX7_highestBit_3 : decode cX7_highestBit 3 = .ok (.iload_n 1, 1) := by decide +kernel
theorem dX7_highestBit_4 : decode cX7_highestBit 4 = .ok (.ifCond .lt 19, 3) := by decide +kernel
theorem dX7_highestBit_7 : decode cX7_highestBit 7 = .ok (.iload_n 0, 1) := by decide +kernel
theorem dX7_highestBit_8 : decode cX7_highestBit 8 = .ok (.iload_n 1, 1) := by decide +kernel
theorem dX7_highestBit_9 : decode cX7_highestBit 9 = .ok (.invokestatic 312, 3) := by decide +kernel
theorem dX7_highestBit_12 : decode cX7_highestBit 12 = .ok (.ifCond .eq 5, 3) := by decide +kernel
theorem dX7_highestBit_15 : decode cX7_highestBit 15 = .ok (.iload_n 1, 1) := by decide +kernel
theorem dX7_highestBit_16 : decode cX7_highestBit 16 = .ok (.ireturn, 1) := by decide +kernel
theorem dX7_highestBit_17 : decode cX7_highestBit 17 = .ok (.iinc 1 (-1), 3) := by decide +kernel
theorem dX7_highestBit_20 : decode cX7_highestBit 20 = .ok (.goto (-17), 3) := by decide +kernel
theorem dX7_highestBit_23 : decode cX7_highestBit 23 = .ok (.iconst (-1), 1) := by decide +kernel
theorem dX7_highestBit_24 : decode cX7_highestBit 24 = .ok (.ireturn, 1) := by decide +kernel
theorem dX7_get_0 : decode cX7_get 0 = .ok (.aload_n 0, 1) := by decide +kernel
theorem dX7_get_1 : decode cX7_get 1 = .ok (.ifnull 19, 3) := by decide +kernel
theorem dX7_get_4 : decode cX7_get 4 = .ok (.iload_n 1, 1) := by decide +kernel
theorem dX7_get_5 : decode cX7_get 5 = .ok (.ifCond .lt 15, 3) := by decide +kernel
theorem dX7_get_8 : decode cX7_get 8 = .ok (.iload_n 1, 1) := by decide +kernel
theorem dX7_get_9 : decode cX7_get 9 = .ok (.aload_n 0, 1) := by decide +kernel
theorem dX7_get_10 : decode cX7_get 10 = .ok (.arraylength, 1) := by decide +kernel
theorem dX7_get_11 : decode cX7_get 11 = .ok (.if_icmp .ge 9, 3) := by decide +kernel
theorem dX7_get_14 : decode cX7_get 14 = .ok (.aload_n 0, 1) := by decide +kernel
theorem dX7_get_15 : decode cX7_get 15 = .ok (.iload_n 1, 1) := by decide +kernel
theorem dX7_get_16 : decode cX7_get 16 = .ok (.iaload, 1) := by decide +kernel
theorem dX7_get_17 : decode cX7_get 17 = .ok (.goto 4, 3) := by decide +kernel
theorem dX7_get_20 : decode cX7_get 20 = .ok (.iconst 0, 1) := by decide +kernel
theorem dX7_get_21 : decode cX7_get 21 = .ok (.ireturn, 1) := by decide +kernel
theorem dX7_put_0 : decode cX7_put 0 = .ok (.aload_n 0, 1) := by decide +kernel
theorem dX7_put_1 : decode cX7_put 1 = .ok (.ifnull 17, 3) := by decide +kernel
theorem dX7_put_4 : decode cX7_put 4 = .ok (.iload_n 1, 1) := by decide +kernel
theorem dX7_put_5 : decode cX7_put 5 = .ok (.ifCond .lt 13, 3) := by decide +kernel
theorem dX7_put_8 : decode cX7_put 8 = .ok (.iload_n 1, 1) := by decide +kernel
theorem dX7_put_9 : decode cX7_put 9 = .ok (.aload_n 0, 1) := by decide +kernel
theorem dX7_put_10 : decode cX7_put 10 = .ok (.arraylength, 1) := by decide +kernel
theorem dX7_put_11 : decode cX7_put 11 = .ok (.if_icmp .ge 7, 3) := by decide +kernel
theorem dX7_put_14 : decode cX7_put 14 = .ok (.aload_n 0, 1) := by decide +kernel
theorem dX7_put_15 : decode cX7_put 15 = .ok (.iload_n 1, 1) := by decide +kernel
theorem dX7_put_16 : decode cX7_put 16 = .ok (.iload_n 2, 1) := by decide +kernel
theorem dX7_put_17 : decode cX7_put 17 = .ok (.iastore, 1) := by decide +kernel
theorem dX7_put_18 : decode cX7_put 18 = .ok (.return_, 1) := by decide +kernel
theorem dX7_copyRow_0 : decode cX7_copyRow 0 = .ok (.aload_n 0, 1) := by decide +kernel
theorem dX7_copyRow_1 : decode cX7_copyRow 1 = .ok (.ifnull 21, 3) := by decide +kernel
theorem dX7_copyRow_4 : decode cX7_copyRow 4 = .ok (.aload_n 1, 1) := by decide +kernel
theorem dX7_copyRow_5 : decode cX7_copyRow 5 = .ok (.ifnull 17, 3) := by decide +kernel
theorem dX7_copyRow_8 : decode cX7_copyRow 8 = .ok (.aload_n 0, 1) := by decide +kernel
theorem dX7_copyRow_9 : decode cX7_copyRow 9 = .ok (.iconst 0, 1) := by decide +kernel
theorem dX7_copyRow_10 : decode cX7_copyRow 10 = .ok (.aload_n 1, 1) := by decide +kernel
theorem dX7_copyRow_11 : decode cX7_copyRow 11 = .ok (.iconst 0, 1) := by decide +kernel
theorem dX7_copyRow_12 : decode cX7_copyRow 12 = .ok (.aload_n 0, 1) := by decide +kernel
theorem dX7_copyRow_13 : decode cX7_copyRow 13 = .ok (.arraylength, 1) := by decide +kernel
theorem dX7_copyRow_14 : decode cX7_copyRow 14 = .ok (.aload_n 1, 1) := by decide +kernel
theorem dX7_copyRow_15 : decode cX7_copyRow 15 = .ok (.arraylength, 1) := by decide +kernel
theorem dX7_copyRow_16 : decode cX7_copyRow 16 = .ok (.invokestatic 316, 3) := by decide +kernel
theorem dX7_copyRow_19 : decode cX7_copyRow 19 = .ok (.invokestatic 321, 3) := by decide +kernel
theorem dX7_copyRow_22 : decode cX7_copyRow 22 = .ok (.return_, 1) := by decide +kernel
theorem dX8_init_0 : decode cX8_init 0 = .ok (.aload_n 0, 1) := by decide +kernel
theorem dX8_init_1 : decode cX8_init 1 = .ok (.invokespecial 1, 3) := by decide +kernel
theorem dX8_init_4 : decode cX8_init 4 = .ok (.aload_n 0, 1) := by decide +kernel
theorem dX8_init_5 : decode cX8_init 5 = .ok (.sipush 636, 3) := by decide +kernel
theorem dX8_init_8 : decode cX8_init 8 = .ok (.newarray .int, 2) := by decide +kernel
theorem dX8_init_10 : decode cX8_init 10 = .ok (.putfield 7, 3) := by decide +kernel
theorem dX8_init_13 : decode cX8_init 13 = .ok (.aload_n 0, 1) := by decide +kernel
theorem dX8_init_14 : decode cX8_init 14 = .ok (.iconst 2, 1) := by decide +kernel
theorem dX8_init_15 : decode cX8_init 15 = .ok (.newarray .boolean, 2) := by decide +kernel
theorem dX8_init_17 : decode cX8_init 17 = .ok (.putfield 13, 3) := by decide +kernel
theorem dX8_init_20 : decode cX8_init 20 = .ok (.aload_n 0, 1) := by decide +kernel
theorem dX8_init_21 : decode cX8_init 21 = .ok (.iconst 3, 1) := by decide +kernel
theorem dX8_init_22 : decode cX8_init 22 = .ok (.newarray .int, 2) := by decide +kernel
theorem dX8_init_24 : decode cX8_init 24 = .ok (.putfield 17, 3) := by decide +kernel
theorem dX8_init_27 : decode cX8_init 27 = .ok (.aload_n 0, 1) := by decide +kernel
theorem dX8_init_28 : decode cX8_init 28 = .ok (.lconst 1, 1) := by decide +kernel
theorem dX8_init_29 : decode cX8_init 29 = .ok (.putfield 20, 3) := by decide +kernel
theorem dX8_init_32 : decode cX8_init 32 = .ok (.aload_n 0, 1) := by decide +kernel
theorem dX8_init_33 : decode cX8_init 33 = .ok (.sipush 150, 3) := by decide +kernel
theorem dX8_init_36 : decode cX8_init 36 = .ok (.newarray .int, 2) := by decide +kernel
theorem dX8_init_38 : decode cX8_init 38 = .ok (.putfield 24, 3) := by decide +kernel
theorem dX8_init_41 : decode cX8_init 41 = .ok (.aload_n 0, 1) := by decide +kernel
theorem dX8_init_42 : decode cX8_init 42 = .ok (.bipush 48, 2) := by decide +kernel
theorem dX8_init_44 : decode cX8_init 44 = .ok (.newarray .int, 2) := by decide +kernel
theorem dX8_init_46 : decode cX8_init 46 = .ok (.dup, 1) := by decide +kernel
theorem dX8_init_47 : decode cX8_init 47 = .ok (.iconst 0, 1) := by decide +kernel
theorem dX8_init_48 : decode cX8_init 48 = .ok (.bipush 117, 2) := by decide +kernel
theorem dX8_init_50 : decode cX8_init 50 = .ok (.iastore, 1) := by decide +kernel
theorem dX8_init_51 : decode cX8_init 51 = .ok (.dup, 1) := by decide +kernel
theorem dX8_init_52 : decode cX8_init 52 = .ok (.iconst 1, 1) := by decide +kernel
theorem dX8_init_53 : decode cX8_init 53 = .ok (.bipush 112, 2) := by decide +kernel
theorem dX8_init_55 : decode cX8_init 55 = .ok (.iastore, 1) := by decide +kernel
theorem dX8_init_56 : decode cX8_init 56 = .ok (.dup, 1) := by decide +kernel
theorem dX8_init_57 : decode cX8_init 57 = .ok (.iconst 2, 1) := by decide +kernel
theorem dX8_init_58 : decode cX8_init 58 = .ok (.bipush 108, 2) := by decide +kernel
theorem dX8_init_60 : decode cX8_init 60 = .ok (.iastore, 1) := by decide +kernel
theorem dX8_init_61 : decode cX8_init 61 = .ok (.dup, 1) := by decide +kernel
theorem dX8_init_62 : decode cX8_init 62 = .ok (.iconst 3, 1) := by decide +kernel
theorem dX8_init_63 : decode cX8_init 63 = .ok (.bipush 97, 2) := by decide +kernel
theorem dX8_init_65 : decode cX8_init 65 = .ok (.iastore, 1) := by decide +kernel
theorem dX8_init_66 : decode cX8_init 66 = .ok (.dup, 1) := by decide +kernel
theorem dX8_init_67 : decode cX8_init 67 = .ok (.iconst 4, 1) := by decide +kernel
theorem dX8_init_68 : decode cX8_init 68 = .ok (.bipush 110, 2) := by decide +kernel
theorem dX8_init_70 : decode cX8_init 70 = .ok (.iastore, 1) := by decide +kernel
theorem dX8_init_71 : decode cX8_init 71 = .ok (.dup, 1) := by decide +kernel
theorem dX8_init_72 : decode cX8_init 72 = .ok (.iconst 5, 1) := by decide +kernel
theorem dX8_init_73 : decode cX8_init 73 = .ok (.bipush 100, 2) := by decide +kernel
theorem dX8_init_75 : decode cX8_init 75 = .ok (.iastore, 1) := by decide +kernel
theorem dX8_init_76 : decode cX8_init 76 = .ok (.dup, 1) := by decide +kernel
theorem dX8_init_77 : decode cX8_init 77 = .ok (.bipush 6, 2) := by decide +kernel
theorem dX8_init_79 : decode cX8_init 79 = .ok (.bipush 115, 2) := by decide +kernel
theorem dX8_init_81 : decode cX8_init 81 = .ok (.iastore, 1) := by decide +kernel
theorem dX8_init_82 : decode cX8_init 82 = .ok (.dup, 1) := by decide +kernel
theorem dX8_init_83 : decode cX8_init 83 = .ok (.bipush 7, 2) := by decide +kernel
theorem dX8_init_85 : decode cX8_init 85 = .ok (.iconst 0, 1) := by decide +kernel
theorem dX8_init_86 : decode cX8_init 86 = .ok (.iastore, 1) := by decide +kernel
theorem dX8_init_87 : decode cX8_init 87 = .ok (.dup, 1) := by decide +kernel
theorem dX8_init_88 : decode cX8_init 88 = .ok (.bipush 8, 2) := by decide +kernel
theorem dX8_init_90 : decode cX8_init 90 = .ok (.bipush 103, 2) := by decide +kernel
theorem dX8_init_92 : decode cX8_init 92 = .ok (.iastore, 1) := by decide +kernel
theorem dX8_init_93 : decode cX8_init 93 = .ok (.dup, 1) := by decide +kernel
theorem dX8_init_94 : decode cX8_init 94 = .ok (.bipush 9, 2) := by decide +kernel
theorem dX8_init_96 : decode cX8_init 96 = .ok (.bipush 117, 2) := by decide +kernel
theorem dX8_init_98 : decode cX8_init 98 = .ok (.iastore, 1) := by decide +kernel
theorem dX8_init_99 : decode cX8_init 99 = .ok (.dup, 1) := by decide +kernel
theorem dX8_init_100 : decode cX8_init 100 = .ok (.bipush 10, 2) := by decide +kernel
theorem dX8_init_102 : decode cX8_init 102 = .ok (.bipush 101, 2) := by decide +kernel
theorem dX8_init_104 : decode cX8_init 104 = .ok (.iastore, 1) := by decide +kernel
theorem dX8_init_105 : decode cX8_init 105 = .ok (.dup, 1) := by decide +kernel
theorem dX8_init_106 : decode cX8_init 106 = .ok (.bipush 11, 2) := by decide +kernel
theorem dX8_init_108 : decode cX8_init 108 = .ok (.bipush 115, 2) := by decide +kernel
theorem dX8_init_110 : decode cX8_init 110 = .ok (.iastore, 1) := by decide +kernel
theorem dX8_init_111 : decode cX8_init 111 = .ok (.dup, 1) := by decide +kernel
theorem dX8_init_112 : decode cX8_init 112 = .ok (.bipush 12, 2) := by decide +kernel
theorem dX8_init_114 : decode cX8_init 114 = .ok (.bipush 116, 2) := by decide +kernel
theorem dX8_init_116 : decode cX8_init 116 = .ok (.iastore, 1) := by decide +kernel
theorem dX8_init_117 : decode cX8_init 117 = .ok (.dup, 1) := by decide +kernel
theorem dX8_init_118 : decode cX8_init 118 = .ok (.bipush 13, 2) := by decide +kernel
theorem dX8_init_120 : decode cX8_init 120 = .ok (.iconst 0, 1) := by decide +kernel
theorem dX8_init_121 : decode cX8_init 121 = .ok (.iastore, 1) := by decide +kernel
theorem dX8_init_122 : decode cX8_init 122 = .ok (.dup, 1) := by decide +kernel
theorem dX8_init_123 : decode cX8_init 123 = .ok (.bipush 14, 2) := by decide +kernel
theorem dX8_init_125 : decode cX8_init 125 = .ok (.iconst 0, 1) := by decide +kernel
theorem dX8_init_126 : decode cX8_init 126 = .ok (.iastore, 1) := by decide +kernel
theorem dX8_init_127 : decode cX8_init 127 = .ok (.dup, 1) := by decide +kernel
theorem dX8_init_128 : decode cX8_init 128 = .ok (.bipush 15, 2) := by decide +kernel
theorem dX8_init_130 : decode cX8_init 130 = .ok (.iconst 0, 1) := by decide +kernel
theorem dX8_init_131 : decode cX8_init 131 = .ok (.iastore, 1) := by decide +kernel
theorem dX8_init_132 : decode cX8_init 132 = .ok (.dup, 1) := by decide +kernel
theorem dX8_init_133 : decode cX8_init 133 = .ok (.bipush 16, 2) := by decide +kernel
theorem dX8_init_135 : decode cX8_init 135 = .ok (.bipush 104, 2) := by decide +kernel
theorem dX8_init_137 : decode cX8_init 137 = .ok (.iastore, 1) := by decide +kernel
theorem dX8_init_138 : decode cX8_init 138 = .ok (.dup, 1) := by decide +kernel
theorem dX8_init_139 : decode cX8_init 139 = .ok (.bipush 17, 2) := by decide +kernel
theorem dX8_init_141 : decode cX8_init 141 = .ok (.bipush 111, 2) := by decide +kernel
theorem dX8_init_143 : decode cX8_init 143 = .ok (.iastore, 1) := by decide +kernel
theorem dX8_init_144 : decode cX8_init 144 = .ok (.dup, 1) := by decide +kernel
theorem dX8_init_145 : decode cX8_init 145 = .ok (.bipush 18, 2) := by decide +kernel
theorem dX8_init_147 : decode cX8_init 147 = .ok (.bipush 117, 2) := by decide +kernel
theorem dX8_init_149 : decode cX8_init 149 = .ok (.iastore, 1) := by decide +kernel
theorem dX8_init_150 : decode cX8_init 150 = .ok (.dup, 1) := by decide +kernel
theorem dX8_init_151 : decode cX8_init 151 = .ok (.bipush 19, 2) := by decide +kernel
theorem dX8_init_153 : decode cX8_init 153 = .ok (.bipush 115, 2) := by decide +kernel
theorem dX8_init_155 : decode cX8_init 155 = .ok (.iastore, 1) := by decide +kernel
theorem dX8_init_156 : decode cX8_init 156 = .ok (.dup, 1) := by decide +kernel
theorem dX8_init_157 : decode cX8_init 157 = .ok (.bipush 20, 2) := by decide +kernel
theorem dX8_init_159 : decode cX8_init 159 = .ok (.bipush 101, 2) := by decide +kernel
theorem dX8_init_161 : decode cX8_init 161 = .ok (.iastore, 1) := by decide +kernel
theorem dX8_init_162 : decode cX8_init 162 = .ok (.dup, 1) := by decide +kernel
theorem dX8_init_163 : decode cX8_init 163 = .ok (.bipush 21, 2) := by decide +kernel
theorem dX8_init_165 : decode cX8_init 165 = .ok (.iconst 0, 1) := by decide +kernel
theorem dX8_init_166 : decode cX8_init 166 = .ok (.iastore, 1) := by decide +kernel
theorem dX8_init_167 : decode cX8_init 167 = .ok (.dup, 1) := by decide +kernel
theorem dX8_init_168 : decode cX8_init 168 = .ok (.bipush 22, 2) := by decide +kernel
theorem dX8_init_170 : decode cX8_init 170 = .ok (.iconst 0, 1) := by decide +kernel
theorem dX8_init_171 : decode cX8_init 171 = .ok (.iastore, 1) := by decide +kernel
theorem dX8_init_172 : decode cX8_init 172 = .ok (.dup, 1) := by decide +kernel
theorem dX8_init_173 : decode cX8_init 173 = .ok (.bipush 23, 2) := by decide +kernel
theorem dX8_init_175 : decode cX8_init 175 = .ok (.iconst 0, 1) := by decide +kernel
theorem dX8_init_176 : decode cX8_init 176 = .ok (.iastore, 1) := by decide +kernel
theorem dX8_init_177 : decode cX8_init 177 = .ok (.dup, 1) := by decide +kernel
theorem dX8_init_178 : decode cX8_init 178 = .ok (.bipush 24, 2) := by decide +kernel
theorem dX8_init_180 : decode cX8_init 180 = .ok (.bipush 99, 2) := by decide +kernel
theorem dX8_init_182 : decode cX8_init 182 = .ok (.iastore, 1) := by decide +kernel
theorem dX8_init_183 : decode cX8_init 183 = .ok (.dup, 1) := by decide +kernel
theorem dX8_init_184 : decode cX8_init 184 = .ok (.bipush 25, 2) := by decide +kernel
theorem dX8_init_186 : decode cX8_init 186 = .ok (.bipush 97, 2) := by decide +kernel
theorem dX8_init_188 : decode cX8_init 188 = .ok (.iastore, 1) := by decide +kernel
theorem dX8_init_189 : decode cX8_init 189 = .ok (.dup, 1) := by decide +kernel
theorem dX8_init_190 : decode cX8_init 190 = .ok (.bipush 26, 2) := by decide +kernel
theorem dX8_init_192 : decode cX8_init 192 = .ok (.bipush 108, 2) := by decide +kernel
theorem dX8_init_194 : decode cX8_init 194 = .ok (.iastore, 1) := by decide +kernel
theorem dX8_init_195 : decode cX8_init 195 = .ok (.dup, 1) := by decide +kernel
theorem dX8_init_196 : decode cX8_init 196 = .ok (.bipush 27, 2) := by decide +kernel
theorem dX8_init_198 : decode cX8_init 198 = .ok (.bipush 108, 2) := by decide +kernel
theorem dX8_init_200 : decode cX8_init 200 = .ok (.iastore, 1) := by decide +kernel
theorem dX8_init_201 : decode cX8_init 201 = .ok (.dup, 1) := by decide +kernel
theorem dX8_init_202 : decode cX8_init 202 = .ok (.bipush 28, 2) := by decide +kernel
theorem dX8_init_204 : decode cX8_init 204 = .ok (.iconst 0, 1) := by decide +kernel
theorem dX8_init_205 : decode cX8_init 205 = .ok (.iastore, 1) := by decide +kernel
theorem dX8_init_206 : decode cX8_init 206 = .ok (.dup, 1) := by decide +kernel
theorem dX8_init_207 : decode cX8_init 207 = .ok (.bipush 29, 2) := by decide +kernel
theorem dX8_init_209 : decode cX8_init 209 = .ok (.iconst 0, 1) := by decide +kernel
theorem dX8_init_210 : decode cX8_init 210 = .ok (.iastore, 1) := by decide +kernel
theorem dX8_init_211 : decode cX8_init 211 = .ok (.dup, 1) := by decide +kernel
theorem dX8_init_212 : decode cX8_init 212 = .ok (.bipush 30, 2) := by decide +kernel
theorem dX8_init_214 : decode cX8_init 214 = .ok (.iconst 0, 1) := by decide +kernel
theorem dX8_init_215 : decode cX8_init 215 = .ok (.iastore, 1) := by decide +kernel
theorem dX8_init_216 : decode cX8_init 216 = .ok (.dup, 1) := by decide +kernel
theorem dX8_init_217 : decode cX8_init 217 = .ok (.bipush 31, 2) := by decide +kernel
theorem dX8_init_219 : decode cX8_init 219 = .ok (.iconst 0, 1) := by decide +kernel
theorem dX8_init_220 : decode cX8_init 220 = .ok (.iastore, 1) := by decide +kernel
theorem dX8_init_221 : decode cX8_init 221 = .ok (.dup, 1) := by decide +kernel
theorem dX8_init_222 : decode cX8_init 222 = .ok (.bipush 32, 2) := by decide +kernel
theorem dX8_init_224 : decode cX8_init 224 = .ok (.bipush 104, 2) := by decide +kernel
theorem dX8_init_226 : decode cX8_init 226 = .ok (.iastore, 1) := by decide +kernel
theorem dX8_init_227 : decode cX8_init 227 = .ok (.dup, 1) := by decide +kernel
theorem dX8_init_228 : decode cX8_init 228 = .ok (.bipush 33, 2) := by decide +kernel
theorem dX8_init_230 : decode cX8_init 230 = .ok (.bipush 111, 2) := by decide +kernel
theorem dX8_init_232 : decode cX8_init 232 = .ok (.iastore, 1) := by decide +kernel
theorem dX8_init_233 : decode cX8_init 233 = .ok (.dup, 1) := by decide +kernel
theorem dX8_init_234 : decode cX8_init 234 = .ok (.bipush 34, 2) := by decide +kernel
theorem dX8_init_236 : decode cX8_init 236 = .ok (.bipush 109, 2) := by decide +kernel
theorem dX8_init_238 : decode cX8_init 238 = .ok (.iastore, 1) := by decide +kernel
theorem dX8_init_239 : decode cX8_init 239 = .ok (.dup, 1) := by decide +kernel
theorem dX8_init_240 : decode cX8_init 240 = .ok (.bipush 35, 2) := by decide +kernel
theorem dX8_init_242 : decode cX8_init 242 = .ok (.bipush 101, 2) := by decide +kernel
theorem dX8_init_244 : decode cX8_init 244 = .ok (.iastore, 1) := by decide +kernel
theorem dX8_init_245 : decode cX8_init 245 = .ok (.dup, 1) := by decide +kernel
theorem dX8_init_246 : decode cX8_init 246 = .ok (.bipush 36, 2) := by decide +kernel
theorem dX8_init_248 : decode cX8_init 248 = .ok (.iconst 0, 1) := by decide +kernel
theorem dX8_init_249 : decode cX8_init 249 = .ok (.iastore, 1) := by decide +kernel
theorem dX8_init_250 : decode cX8_init 250 = .ok (.dup, 1) := by decide +kernel
theorem dX8_init_251 : decode cX8_init 251 = .ok (.bipush 37, 2) := by decide +kernel
theorem dX8_init_253 : decode cX8_init 253 = .ok (.iconst 0, 1) := by decide +kernel
theorem dX8_init_254 : decode cX8_init 254 = .ok (.iastore, 1) := by decide +kernel
theorem dX8_init_255 : decode cX8_init 255 = .ok (.dup, 1) := by decide +kernel
theorem dX8_init_256 : decode cX8_init 256 = .ok (.bipush 38, 2) := by decide +kernel
theorem dX8_init_258 : decode cX8_init 258 = .ok (.iconst 0, 1) := by decide +kernel
theorem dX8_init_259 : decode cX8_init 259 = .ok (.iastore, 1) := by decide +kernel
theorem dX8_init_260 : decode cX8_init 260 = .ok (.dup, 1) := by decide +kernel
theorem dX8_init_261 : decode cX8_init 261 = .ok (.bipush 39, 2) := by decide +kernel
theorem dX8_init_263 : decode cX8_init 263 = .ok (.iconst 0, 1) := by decide +kernel
theorem dX8_init_264 : decode cX8_init 264 = .ok (.iastore, 1) := by decide +kernel
theorem dX8_init_265 : decode cX8_init 265 = .ok (.dup, 1) := by decide +kernel
theorem dX8_init_266 : decode cX8_init 266 = .ok (.bipush 40, 2) := by decide +kernel
theorem dX8_init_268 : decode cX8_init 268 = .ok (.bipush 101, 2) := by decide +kernel
theorem dX8_init_270 : decode cX8_init 270 = .ok (.iastore, 1) := by decide +kernel
theorem dX8_init_271 : decode cX8_init 271 = .ok (.dup, 1) := by decide +kernel
theorem dX8_init_272 : decode cX8_init 272 = .ok (.bipush 41, 2) := by decide +kernel
theorem dX8_init_274 : decode cX8_init 274 = .ok (.bipush 118, 2) := by decide +kernel
theorem dX8_init_276 : decode cX8_init 276 = .ok (.iastore, 1) := by decide +kernel
theorem dX8_init_277 : decode cX8_init 277 = .ok (.dup, 1) := by decide +kernel
theorem dX8_init_278 : decode cX8_init 278 = .ok (.bipush 42, 2) := by decide +kernel
theorem dX8_init_280 : decode cX8_init 280 = .ok (.bipush 101, 2) := by decide +kernel
theorem dX8_init_282 : decode cX8_init 282 = .ok (.iastore, 1) := by decide +kernel
theorem dX8_init_283 : decode cX8_init 283 = .ok (.dup, 1) := by decide +kernel
theorem dX8_init_284 : decode cX8_init 284 = .ok (.bipush 43, 2) := by decide +kernel
theorem dX8_init_286 : decode cX8_init 286 = .ok (.bipush 110, 2) := by decide +kernel
theorem dX8_init_288 : decode cX8_init 288 = .ok (.iastore, 1) := by decide +kernel
theorem dX8_init_289 : decode cX8_init 289 = .ok (.dup, 1) := by decide +kernel
theorem dX8_init_290 : decode cX8_init 290 = .ok (.bipush 44, 2) := by decide +kernel
theorem dX8_init_292 : decode cX8_init 292 = .ok (.bipush 105, 2) := by decide +kernel
theorem dX8_init_294 : decode cX8_init 294 = .ok (.iastore, 1) := by decide +kernel
theorem dX8_init_295 : decode cX8_init 295 = .ok (.dup, 1) := by decide +kernel
theorem dX8_init_296 : decode cX8_init 296 = .ok (.bipush 45, 2) := by decide +kernel
theorem dX8_init_298 : decode cX8_init 298 = .ok (.bipush 110, 2) := by decide +kernel
theorem dX8_init_300 : decode cX8_init 300 = .ok (.iastore, 1) := by decide +kernel
theorem dX8_init_301 : decode cX8_init 301 = .ok (.dup, 1) := by decide +kernel
theorem dX8_init_302 : decode cX8_init 302 = .ok (.bipush 46, 2) := by decide +kernel
theorem dX8_init_304 : decode cX8_init 304 = .ok (.bipush 103, 2) := by decide +kernel
theorem dX8_init_306 : decode cX8_init 306 = .ok (.iastore, 1) := by decide +kernel
theorem dX8_init_307 : decode cX8_init 307 = .ok (.dup, 1) := by decide +kernel
theorem dX8_init_308 : decode cX8_init 308 = .ok (.bipush 47, 2) := by decide +kernel
theorem dX8_init_310 : decode cX8_init 310 = .ok (.bipush 115, 2) := by decide +kernel
theorem dX8_init_312 : decode cX8_init 312 = .ok (.iastore, 1) := by decide +kernel
theorem dX8_init_313 : decode cX8_init 313 = .ok (.putfield 27, 3) := by decide +kernel
theorem dX8_init_316 : decode cX8_init 316 = .ok (.aload_n 0, 1) := by decide +kernel
theorem dX8_init_317 : decode cX8_init 317 = .ok (.bipush 6, 2) := by decide +kernel
theorem dX8_init_319 : decode cX8_init 319 = .ok (.newarray .int, 2) := by decide +kernel
theorem dX8_init_321 : decode cX8_init 321 = .ok (.putfield 30, 3) := by decide +kernel
theorem dX8_init_324 : decode cX8_init 324 = .ok (.aload_n 0, 1) := by decide +kernel
theorem dX8_init_325 : decode cX8_init 325 = .ok (.bipush 6, 2) := by decide +kernel
theorem dX8_init_327 : decode cX8_init 327 = .ok (.newarray .int, 2) := by decide +kernel
theorem dX8_init_329 : decode cX8_init 329 = .ok (.putfield 33, 3) := by decide +kernel
theorem dX8_init_332 : decode cX8_init 332 = .ok (.aload_n 0, 1) := by decide +kernel
theorem dX8_init_333 : decode cX8_init 333 = .ok (.bipush 6, 2) := by decide +kernel
theorem dX8_init_335 : decode cX8_init 335 = .ok (.newarray .int, 2) := by decide +kernel
theorem dX8_init_337 : decode cX8_init 337 = .ok (.putfield 36, 3) := by decide +kernel
theorem dX8_init_340 : decode cX8_init 340 = .ok (.aload_n 0, 1) := by decide +kernel
theorem dX8_init_341 : decode cX8_init 341 = .ok (.bipush 10, 2) := by decide +kernel
theorem dX8_init_343 : decode cX8_init 343 = .ok (.newarray .int, 2) := by decide +kernel
theorem dX8_init_345 : decode cX8_init 345 = .ok (.putfield 39, 3) := by decide +kernel
theorem dX8_init_348 : decode cX8_init 348 = .ok (.aload_n 0, 1) := by decide +kernel
theorem dX8_init_349 : decode cX8_init 349 = .ok (.bipush 10, 2) := by decide +kernel
theorem dX8_init_351 : decode cX8_init 351 = .ok (.newarray .int, 2) := by decide +kernel
theorem dX8_init_353 : decode cX8_init 353 = .ok (.putfield 42, 3) := by decide +kernel
theorem dX8_init_356 : decode cX8_init 356 = .ok (.return_, 1) := by decide +kernel
theorem dX8_in_0 : decode cX8_in 0 = .ok (.iload_n 0, 1) := by decide +kernel
theorem dX8_in_1 : decode cX8_in 1 = .ok (.iload_n 1, 1) := by decide +kernel
theorem dX8_in_2 : decode cX8_in 2 = .ok (.if_icmp .lt 12, 3) := by decide +kernel
theorem dX8_in_5 : decode cX8_in 5 = .ok (.iload_n 0, 1) := by decide +kernel
theorem dX8_in_6 : decode cX8_in 6 = .ok (.iload_n 2, 1) := by decide +kernel
theorem dX8_in_7 : decode cX8_in 7 = .ok (.if_icmp .gt 7, 3) := by decide +kernel
theorem dX8_in_10 : decode cX8_in 10 = .ok (.iconst 1, 1) := by decide +kernel
theorem dX8_in_11 : decode cX8_in 11 = .ok (.goto 4, 3) := by decide +kernel
theorem dX8_in_14 : decode cX8_in 14 = .ok (.iconst 0, 1) := by decide +kernel
theorem dX8_in_15 : decode cX8_in 15 = .ok (.ireturn, 1) := by decide +kernel
theorem dX8_has_0 : decode cX8_has 0 = .ok (.iload_n 0, 1) := by decide +kernel
theorem dX8_has_1 : decode cX8_has 1 = .ok (.iload_n 1, 1) := by decide +kernel
theorem dX8_has_2 : decode cX8_has 2 = .ok (.ishr, 1) := by decide +kernel
theorem dX8_has_3 : decode cX8_has 3 = .ok (.iconst 1, 1) := by decide +kernel
theorem dX8_has_4 : decode cX8_has 4 = .ok (.iand, 1) := by decide +kernel
theorem dX8_has_5 : decode cX8_has 5 = .ok (.iconst 1, 1) := by decide +kernel
theorem dX8_has_6 : decode cX8_has 6 = .ok (.if_icmp .ne 7, 3) := by decide +kernel
theorem dX8_has_9 : decode cX8_has 9 = .ok (.iconst 1, 1) := by decide +kernel
theorem dX8_has_10 : decode cX8_has 10 = .ok (.goto 4, 3) := by decide +kernel
theorem dX8_has_13 : decode cX8_has 13 = .ok (.iconst 0, 1) := by decide +kernel
theorem dX8_has_14 : decode cX8_has 14 = .ok (.ireturn, 1) := by decide +kernel
theorem dX8_bits_0 : decode cX8_bits 0 = .ok (.iconst 0, 1) := by decide +kernel
theorem dX8_bits_1 : decode cX8_bits 1 = .ok (.istore_n 1, 1) := by decide +kernel
theorem dX8_bits_2 : decode cX8_bits 2 = .ok (.iconst 0, 1) := by decide +kernel
theorem dX8_bits_3 : decode cX8_bits 3 = .ok (.istore_n 2, 1) := by decide +kernel
theorem dX8_bits_4 : decode cX8_bits 4 = .ok (.iload_n 2, 1) := by decide +kernel
theorem dX8_bits_5 : decode cX8_bits 5 = .ok (.bipush 6, 2) := by decide +kernel
theorem dX8_bits_7 : decode cX8_bits 7 = .ok (.if_icmp .ge 17, 3) := by decide +kernel
theorem dX8_bits_10 : decode cX8_bits 10 = .ok (.iload_n 1, 1) := by decide +kernel
theorem dX8_bits_11 : decode cX8_bits 11 = .ok (.iload_n 0, 1) := by decide +kernel
theorem dX8_bits_12 : decode cX8_bits 12 = .ok (.iload_n 2, 1) := by decide +kernel
theorem dX8_bits_13 : decode cX8_bits 13 = .ok (.ishr, 1) := by decide +kernel
theorem dX8_bits_14 : decode cX8_bits 14 = .ok (.iconst 1, 1) := by decide +kernel
theorem dX8_bits_15 : decode cX8_bits 15 = .ok (.iand, 1) := by decide +kernel
theorem dX8_bits_16 : decode cX8_bits 16 = .ok (.iadd, 1) := by decide +kernel
theorem dX8_bits_17 : decode cX8_bits 17 = .ok (.istore_n 1, 1) := by decide +kernel
theorem dX8_bits_18 : decode cX8_bits 18 = .ok (.iinc 2 1, 3) := by decide +kernel
theorem dX8_bits_21 : decode cX8_bits 21 = .ok (.goto (-17), 3) := by decide +kernel
theorem dX8_bits_24 : decode cX8_bits 24 = .ok (.iload_n 1, 1) := by decide +kernel
theorem dX8_bits_25 : decode cX8_bits 25 = .ok (.ireturn, 1) := by decide +kernel
theorem dX8_refuse_0 : decode cX8_refuse 0 = .ok (.aload_n 0, 1) := by decide +kernel
theorem dX8_refuse_1 : decode cX8_refuse 1 = .ok (.getfield 17, 3) := by decide +kernel
theorem dX8_refuse_4 : decode cX8_refuse 4 = .ok (.iload_n 1, 1) := by decide +kernel
theorem dX8_refuse_5 : decode cX8_refuse 5 = .ok (.bipush (-3), 2) := by decide +kernel
theorem dX8_refuse_7 : decode cX8_refuse 7 = .ok (.if_icmp .ne 7, 3) := by decide +kernel
theorem dX8_refuse_10 : decode cX8_refuse 10 = .ok (.iconst 1, 1) := by decide +kernel
theorem dX8_refuse_11 : decode cX8_refuse 11 = .ok (.goto 14, 3) := by decide +kernel
theorem dX8_refuse_14 : decode cX8_refuse 14 = .ok (.iload_n 1, 1) := by decide +kernel
theorem dX8_refuse_15 : decode cX8_refuse 15 = .ok (.bipush (-4), 2) := by decide +kernel
theorem dX8_refuse_17 : decode cX8_refuse 17 = .ok (.if_icmp .ne 7, 3) := by decide +kernel
theorem dX8_refuse_20 : decode cX8_refuse 20 = .ok (.iconst 2, 1) := by decide +kernel
theorem dX8_refuse_21 : decode cX8_refuse 21 = .ok (.goto 4, 3) := by decide +kernel
theorem dX8_refuse_24 : decode cX8_refuse 24 = .ok (.iconst 0, 1) := by decide +kernel
theorem dX8_refuse_25 : decode cX8_refuse 25 = .ok (.dup2, 1) := by decide +kernel
theorem dX8_refuse_26 : decode cX8_refuse 26 = .ok (.iaload, 1) := by decide +kernel
theorem dX8_refuse_27 : decode cX8_refuse 27 = .ok (.iconst 1, 1) := by decide +kernel
theorem dX8_refuse_28 : decode cX8_refuse 28 = .ok (.iadd, 1) := by decide +kernel
theorem dX8_refuse_29 : decode cX8_refuse 29 = .ok (.iastore, 1) := by decide +kernel
theorem dX8_refuse_30 : decode cX8_refuse 30 = .ok (.iload_n 1, 1) := by decide +kernel
theorem dX8_refuse_31 : decode cX8_refuse 31 = .ok (.ireturn, 1) := by decide +kernel
theorem dX8_badAs_0 : decode cX8_badAs 0 = .ok (.aload_n 0, 1) := by decide +kernel
theorem dX8_badAs_1 : decode cX8_badAs 1 = .ok (.bipush (-2), 2) := by decide +kernel
theorem dX8_badAs_3 : decode cX8_badAs 3 = .ok (.invokevirtual 45, 3) := by decide +kernel
theorem dX8_badAs_6 : decode cX8_badAs 6 = .ok (.pop, 1) := by decide +kernel
theorem dX8_badAs_7 : decode cX8_badAs 7 = .ok (.iload_n 1, 1) := by decide +kernel
theorem dX8_badAs_8 : decode cX8_badAs 8 = .ok (.ireturn, 1) := by decide +kernel
theorem dX8_layUplands_0 : decode cX8_layUplands 0 = .ok (.iconst 0, 1) := by decide +kernel
theorem dX8_layUplands_1 : decode cX8_layUplands 1 = .ok (.istore_n 2, 1) := by decide +kernel
theorem dX8_layUplands_2 : decode cX8_layUplands 2 = .ok (.iload_n 2, 1) := by decide +kernel
theorem dX8_layUplands_3 : decode cX8_layUplands 3 = .ok (.sipush 208, 3) := by decide +kernel
theorem dX8_layUplands_6 : decode cX8_layUplands 6 = .ok (.if_icmp .ge 16, 3) := by decide +kernel
theorem dX8_layUplands_9 : decode cX8_layUplands 9 = .ok (.aload_n 0, 1) := by decide +kernel
theorem dX8_layUplands_10 : decode cX8_layUplands 10 = .ok (.getfield 7, 3) := by decide +kernel
theorem dX8_layUplands_13 : decode cX8_layUplands 13 = .ok (.iload_n 2, 1) := by decide +kernel
theorem dX8_layUplands_14 : decode cX8_layUplands 14 = .ok (.iconst 0, 1) := by decide +kernel
theorem dX8_layUplands_15 : decode cX8_layUplands 15 = .ok (.iastore, 1) := by decide +kernel
theorem dX8_layUplands_16 : decode cX8_layUplands 16 = .ok (.iinc 2 1, 3) := by decide +kernel
theorem dX8_layUplands_19 : decode cX8_layUplands 19 = .ok (.goto (-17), 3) := by decide +kernel
theorem dX8_layUplands_22 : decode cX8_layUplands 22 = .ok (.aload_n 0, 1) := by decide +kernel
theorem dX8_layUplands_23 : decode cX8_layUplands 23 = .ok (.getfield 7, 3) := by decide +kernel
theorem dX8_layUplands_26 : decode cX8_layUplands 26 = .ok (.bipush 10, 2) := by decide +kernel
theorem dX8_layUplands_28 : decode cX8_layUplands 28 = .ok (.iload_n 1, 1) := by decide +kernel
theorem dX8_layUplands_29 : decode cX8_layUplands 29 = .ok (.iastore, 1) := by decide +kernel
theorem dX8_layUplands_30 : decode cX8_layUplands 30 = .ok (.return_, 1) := by decide +kernel
theorem dX8_uplands_0 : decode cX8_uplands 0 = .ok (.iload_n 1, 1) := by decide +kernel
theorem dX8_uplands_1 : decode cX8_uplands 1 = .ok (.iconst 0, 1) := by decide +kernel
theorem dX8_uplands_2 : decode cX8_uplands 2 = .ok (.iconst 4, 1) := by decide +kernel
theorem dX8_uplands_3 : decode cX8_uplands 3 = .ok (.invokestatic 49, 3) := by decide +kernel
theorem dX8_uplands_6 : decode cX8_uplands 6 = .ok (.ifCond .ne 10, 3) := by decide +kernel
theorem dX8_uplands_9 : decode cX8_uplands 9 = .ok (.aload_n 0, 1) := by decide +kernel
theorem dX8_uplands_10 : decode cX8_uplands 10 = .ok (.bipush (-2), 2) := by decide +kernel
theorem dX8_uplands_12 : decode cX8_uplands 12 = .ok (.invokevirtual 45, 3) := by decide +kernel
theorem dX8_uplands_15 : decode cX8_uplands 15 = .ok (.ireturn, 1) := by decide +kernel
theorem dX8_uplands_16 : decode cX8_uplands 16 = .ok (.aload_n 0, 1) := by decide +kernel
theorem dX8_uplands_17 : decode cX8_uplands 17 = .ok (.getfield 7, 3) := by decide +kernel
theorem dX8_uplands_20 : decode cX8_uplands 20 = .ok (.bipush 12, 2) := by decide +kernel
theorem dX8_uplands_22 : decode cX8_uplands 22 = .ok (.iaload, 1) := by decide +kernel
theorem dX8_uplands_23 : decode cX8_uplands 23 = .ok (.istore_n 2, 1) := by decide +kernel
theorem dX8_uplands_24 : decode cX8_uplands 24 = .ok (.aload_n 0, 1) := by decide +kernel
theorem dX8_uplands_25 : decode cX8_uplands 25 = .ok (.iload_n 1, 1) := by decide +kernel
theorem dX8_uplands_26 : decode cX8_uplands 26 = .ok (.invokevirtual 53, 3) := by decide +kernel
theorem dX8_uplands_29 : decode cX8_uplands 29 = .ok (.iload_n 2, 1) := by decide +kernel
theorem dX8_uplands_30 : decode cX8_uplands 30 = .ok (.ireturn, 1) := by decide +kernel
theorem dX8_addGuest_0 : decode cX8_addGuest 0 = .ok (.aload_n 0, 1) := by decide +kernel
theorem dX8_addGuest_1 : decode cX8_addGuest 1 = .ok (.getfield 7, 3) := by decide +kernel
theorem dX8_addGuest_4 : decode cX8_addGuest 4 = .ok (.bipush 12, 2) := by decide +kernel
theorem dX8_addGuest_6 : decode cX8_addGuest 6 = .ok (.iaload, 1) := by decide +kernel
theorem dX8_addGuest_7 : decode cX8_addGuest 7 = .ok (.istore_n 3, 1) := by decide +kernel
theorem dX8_addGuest_8 : decode cX8_addGuest 8 = .ok (.aload_n 0, 1) := by decide +kernel
theorem dX8_addGuest_9 : decode cX8_addGuest 9 = .ok (.getfield 7, 3) := by decide +kernel
theorem dX8_addGuest_12 : decode cX8_addGuest 12 = .ok (.bipush 13, 2) := by decide +kernel
theorem dX8_addGuest_14 : decode cX8_addGuest 14 = .ok (.iload_n 3, 1) := by decide +kernel
theorem dX8_addGuest_15 : decode cX8_addGuest 15 = .ok (.iadd, 1) := by decide +kernel
theorem dX8_addGuest_16 : decode cX8_addGuest 16 = .ok (.iload_n 1, 1) := by decide +kernel
theorem dX8_addGuest_17 : decode cX8_addGuest 17 = .ok (.iastore, 1) := by decide +kernel
theorem dX8_addGuest_18 : decode cX8_addGuest 18 = .ok (.aload_n 0, 1) := by decide +kernel
theorem dX8_addGuest_19 : decode cX8_addGuest 19 = .ok (.getfield 7, 3) := by decide +kernel
theorem dX8_addGuest_22 : decode cX8_addGuest 22 = .ok (.bipush 19, 2) := by decide +kernel
theorem dX8_addGuest_24 : decode cX8_addGuest 24 = .ok (.iload_n 3, 1) := by decide +kernel
theorem dX8_addGuest_25 : decode cX8_addGuest 25 = .ok (.iadd, 1) := by decide +kernel
theorem dX8_addGuest_26 : decode cX8_addGuest 26 = .ok (.iload_n 2, 1) := by decide +kernel
theorem dX8_addGuest_27 : decode cX8_addGuest 27 = .ok (.iastore, 1) := by decide +kernel
theorem dX8_addGuest_28 : decode cX8_addGuest 28 = .ok (.aload_n 0, 1) := by decide +kernel
theorem dX8_addGuest_29 : decode cX8_addGuest 29 = .ok (.getfield 7, 3) := by decide +kernel
theorem dX8_addGuest_32 : decode cX8_addGuest 32 = .ok (.iconst 0, 1) := by decide +kernel
theorem dX8_addGuest_33 : decode cX8_addGuest 33 = .ok (.iload_n 3, 1) := by decide +kernel
theorem dX8_addGuest_34 : decode cX8_addGuest 34 = .ok (.iadd, 1) := by decide +kernel
theorem dX8_addGuest_35 : decode cX8_addGuest 35 = .ok (.iconst (-1), 1) := by decide +kernel
theorem dX8_addGuest_36 : decode cX8_addGuest 36 = .ok (.iastore, 1) := by decide +kernel
theorem dX8_addGuest_37 : decode cX8_addGuest 37 = .ok (.aload_n 0, 1) := by decide +kernel
theorem dX8_addGuest_38 : decode cX8_addGuest 38 = .ok (.getfield 7, 3) := by decide +kernel
theorem dX8_addGuest_41 : decode cX8_addGuest 41 = .ok (.bipush 12, 2) := by decide +kernel
theorem dX8_addGuest_43 : decode cX8_addGuest 43 = .ok (.dup2, 1) := by decide +kernel
theorem dX8_addGuest_44 : decode cX8_addGuest 44 = .ok (.iaload, 1) := by decide +kernel
theorem dX8_addGuest_45 : decode cX8_addGuest 45 = .ok (.iconst 1, 1) := by decide +kernel
theorem dX8_addGuest_46 : decode cX8_addGuest 46 = .ok (.iadd, 1) := by decide +kernel
theorem dX8_addGuest_47 : decode cX8_addGuest 47 = .ok (.iastore, 1) := by decide +kernel
theorem dX8_addGuest_48 : decode cX8_addGuest 48 = .ok (.aload_n 0, 1) := by decide +kernel
theorem dX8_addGuest_49 : decode cX8_addGuest 49 = .ok (.getfield 7, 3) := by decide +kernel
theorem dX8_addGuest_52 : decode cX8_addGuest 52 = .ok (.bipush 111, 2) := by decide +kernel
theorem dX8_addGuest_54 : decode cX8_addGuest 54 = .ok (.iconst 0, 1) := by decide +kernel
theorem dX8_addGuest_55 : decode cX8_addGuest 55 = .ok (.iastore, 1) := by decide +kernel
theorem dX8_addGuest_56 : decode cX8_addGuest 56 = .ok (.return_, 1) := by decide +kernel
theorem dX8_guest_0 : decode cX8_guest 0 = .ok (.iload_n 1, 1) := by decide +kernel
theorem dX8_guest_1 : decode cX8_guest 1 = .ok (.iconst 0, 1) := by decide +kernel
theorem dX8_guest_2 : decode cX8_guest 2 = .ok (.iconst 5, 1) := by decide +kernel
theorem dX8_guest_3 : decode cX8_guest 3 = .ok (.invokestatic 49, 3) := by decide +kernel
theorem dX8_guest_6 : decode cX8_guest 6 = .ok (.ifCond .eq 13, 3) := by decide +kernel
theorem dX8_guest_9 : decode cX8_guest 9 = .ok (.iload_n 2, 1) := by decide +kernel
theorem dX8_guest_10 : decode cX8_guest 10 = .ok (.iconst 1, 1) := by decide +kernel
theorem dX8_guest_11 : decode cX8_guest 11 = .ok (.bipush 30, 2) := by decide +kernel
theorem dX8_guest_13 : decode cX8_guest 13 = .ok (.invokestatic 49, 3) := by decide +kernel
theorem dX8_guest_16 : decode cX8_guest 16 = .ok (.ifCond .ne 10, 3) := by decide +kernel
theorem dX8_guest_19 : decode cX8_guest 19 = .ok (.aload_n 0, 1) := by decide +kernel
theorem dX8_guest_20 : decode cX8_guest 20 = .ok (.bipush (-2), 2) := by decide +kernel
theorem dX8_guest_22 : decode cX8_guest 22 = .ok (.invokevirtual 45, 3) := by decide +kernel
theorem dX8_guest_25 : decode cX8_guest 25 = .ok (.ireturn, 1) := by decide +kernel
theorem dX8_guest_26 : decode cX8_guest 26 = .ok (.aload_n 0, 1) := by decide +kernel
theorem dX8_guest_27 : decode cX8_guest 27 = .ok (.getfield 7, 3) := by decide +kernel
theorem dX8_guest_30 : decode cX8_guest 30 = .ok (.bipush 12, 2) := by decide +kernel
theorem dX8_guest_32 : decode cX8_guest 32 = .ok (.iaload, 1) := by decide +kernel
theorem dX8_guest_33 : decode cX8_guest 33 = .ok (.bipush 6, 2) := by decide +kernel
theorem dX8_guest_35 : decode cX8_guest 35 = .ok (.if_icmp .ne 10, 3) := by decide +kernel
theorem dX8_guest_38 : decode cX8_guest 38 = .ok (.aload_n 0, 1) := by decide +kernel
theorem dX8_guest_39 : decode cX8_guest 39 = .ok (.bipush (-4), 2) := by decide +kernel
theorem dX8_guest_41 : decode cX8_guest 41 = .ok (.invokevirtual 45, 3) := by decide +kernel
theorem dX8_guest_44 : decode cX8_guest 44 = .ok (.ireturn, 1) := by decide +kernel
theorem dX8_guest_45 : decode cX8_guest 45 = .ok (.aload_n 0, 1) := by decide +kernel
theorem dX8_guest_46 : decode cX8_guest 46 = .ok (.iload_n 1, 1) := by decide +kernel
theorem dX8_guest_47 : decode cX8_guest 47 = .ok (.iload_n 2, 1) := by decide +kernel
theorem dX8_guest_48 : decode cX8_guest 48 = .ok (.invokevirtual 57, 3) := by decide +kernel
theorem dX8_guest_51 : decode cX8_guest 51 = .ok (.aload_n 0, 1) := by decide +kernel
theorem dX8_guest_52 : decode cX8_guest 52 = .ok (.getfield 7, 3) := by decide +kernel
theorem dX8_guest_55 : decode cX8_guest 55 = .ok (.bipush 12, 2) := by decide +kernel
theorem dX8_guest_57 : decode cX8_guest 57 = .ok (.iaload, 1) := by decide +kernel
theorem dX8_guest_58 : decode cX8_guest 58 = .ok (.iconst 1, 1) := by decide +kernel
theorem dX8_guest_59 : decode cX8_guest 59 = .ok (.isub, 1) := by decide +kernel
theorem dX8_guest_60 : decode cX8_guest 60 = .ok (.ireturn, 1) := by decide +kernel
theorem dX8_addHouse_0 : decode cX8_addHouse 0 = .ok (.aload_n 0, 1) := by decide +kernel
theorem dX8_addHouse_1 : decode cX8_addHouse 1 = .ok (.getfield 7, 3) := by decide +kernel
theorem dX8_addHouse_4 : decode cX8_addHouse 4 = .ok (.bipush 25, 2) := by decide +kernel
theorem dX8_addHouse_6 : decode cX8_addHouse 6 = .ok (.iaload, 1) := by decide +kernel
theorem dX8_addHouse_7 : decode cX8_addHouse 7 = .ok (.istore_n 3, 1) := by decide +kernel
theorem dX8_addHouse_8 : decode cX8_addHouse 8 = .ok (.aload_n 0, 1) := by decide +kernel
theorem dX8_addHouse_9 : decode cX8_addHouse 9 = .ok (.getfield 7, 3) := by decide +kernel
theorem dX8_addHouse_12 : decode cX8_addHouse 12 = .ok (.bipush 26, 2) := by decide +kernel
theorem dX8_addHouse_14 : decode cX8_addHouse 14 = .ok (.iload_n 3, 1) := by decide +kernel
theorem dX8_addHouse_15 : decode cX8_addHouse 15 = .ok (.iadd, 1) := by decide +kernel
theorem dX8_addHouse_16 : decode cX8_addHouse 16 = .ok (.iload_n 1, 1) := by decide +kernel
theorem dX8_addHouse_17 : decode cX8_addHouse 17 = .ok (.iastore, 1) := by decide +kernel
theorem dX8_addHouse_18 : decode cX8_addHouse 18 = .ok (.aload_n 0, 1) := by decide +kernel
theorem dX8_addHouse_19 : decode cX8_addHouse 19 = .ok (.getfield 7, 3) := by decide +kernel
theorem dX8_addHouse_22 : decode cX8_addHouse 22 = .ok (.bipush 30, 2) := by decide +kernel
theorem dX8_addHouse_24 : decode cX8_addHouse 24 = .ok (.iload_n 3, 1) := by decide +kernel
theorem dX8_addHouse_25 : decode cX8_addHouse 25 = .ok (.iadd, 1) := by decide +kernel
theorem dX8_addHouse_26 : decode cX8_addHouse 26 = .ok (.iload_n 2, 1) := by decide +kernel
theorem dX8_addHouse_27 : decode cX8_addHouse 27 = .ok (.iastore, 1) := by decide +kernel
theorem dX8_addHouse_28 : decode cX8_addHouse 28 = .ok (.aload_n 0, 1) := by decide +kernel
theorem dX8_addHouse_29 : decode cX8_addHouse 29 = .ok (.getfield 7, 3) := by decide +kernel
theorem dX8_addHouse_32 : decode cX8_addHouse 32 = .ok (.bipush 25, 2) := by decide +kernel
theorem dX8_addHouse_34 : decode cX8_addHouse 34 = .ok (.dup2, 1) := by decide +kernel
theorem dX8_addHouse_35 : decode cX8_addHouse 35 = .ok (.iaload, 1) := by decide +kernel
theorem dX8_addHouse_36 : decode cX8_addHouse 36 = .ok (.iconst 1, 1) := by decide +kernel
theorem dX8_addHouse_37 : decode cX8_addHouse 37 = .ok (.iadd, 1) := by decide +kernel
theorem dX8_addHouse_38 : decode cX8_addHouse 38 = .ok (.iastore, 1) := by decide +kernel
theorem dX8_addHouse_39 : decode cX8_addHouse 39 = .ok (.aload_n 0, 1) := by decide +kernel
theorem dX8_addHouse_40 : decode cX8_addHouse 40 = .ok (.getfield 7, 3) := by decide +kernel
theorem dX8_addHouse_43 : decode cX8_addHouse 43 = .ok (.bipush 111, 2) := by decide +kernel
theorem dX8_addHouse_45 : decode cX8_addHouse 45 = .ok (.iconst 0, 1) := by decide +kernel
theorem dX8_addHouse_46 : decode cX8_addHouse 46 = .ok (.iastore, 1) := by decide +kernel
theorem dX8_addHouse_47 : decode cX8_addHouse 47 = .ok (.return_, 1) := by decide +kernel
theorem dX8_house_0 : decode cX8_house 0 = .ok (.iload_n 1, 1) := by decide +kernel
theorem dX8_house_1 : decode cX8_house 1 = .ok (.iconst 0, 1) := by decide +kernel
theorem dX8_house_2 : decode cX8_house 2 = .ok (.iconst 5, 1) := by decide +kernel
theorem dX8_house_3 : decode cX8_house 3 = .ok (.invokestatic 49, 3) := by decide +kernel
theorem dX8_house_6 : decode cX8_house 6 = .ok (.ifCond .eq 13, 3) := by decide +kernel
theorem dX8_house_9 : decode cX8_house 9 = .ok (.iload_n 2, 1) := by decide +kernel
theorem dX8_house_10 : decode cX8_house 10 = .ok (.iconst 1, 1) := by decide +kernel
theorem dX8_house_11 : decode cX8_house 11 = .ok (.bipush 30, 2) := by decide +kernel
theorem dX8_house_13 : decode cX8_house 13 = .ok (.invokestatic 49, 3) := by decide +kernel
theorem dX8_house_16 : decode cX8_house 16 = .ok (.ifCond .ne 10, 3) := by decide +kernel
theorem dX8_house_19 : decode cX8_house 19 = .ok (.aload_n 0, 1) := by decide +kernel
theorem dX8_house_20 : decode cX8_house 20 = .ok (.bipush (-2), 2) := by decide +kernel
theorem dX8_house_22 : decode cX8_house 22 = .ok (.invokevirtual 45, 3) := by decide +kernel
theorem dX8_house_25 : decode cX8_house 25 = .ok (.ireturn, 1) := by decide +kernel
theorem dX8_house_26 : decode cX8_house 26 = .ok (.aload_n 0, 1) := by decide +kernel
theorem dX8_house_27 : decode cX8_house 27 = .ok (.getfield 7, 3) := by decide +kernel
theorem dX8_house_30 : decode cX8_house 30 = .ok (.bipush 25, 2) := by decide +kernel
theorem dX8_house_32 : decode cX8_house 32 = .ok (.iaload, 1) := by decide +kernel
theorem dX8_house_33 : decode cX8_house 33 = .ok (.iconst 4, 1) := by decide +kernel
theorem dX8_house_34 : decode cX8_house 34 = .ok (.if_icmp .ne 10, 3) := by decide +kernel
theorem dX8_house_37 : decode cX8_house 37 = .ok (.aload_n 0, 1) := by decide +kernel
theorem dX8_house_38 : decode cX8_house 38 = .ok (.bipush (-4), 2) := by decide +kernel
theorem dX8_house_40 : decode cX8_house 40 = .ok (.invokevirtual 45, 3) := by decide +kernel
theorem dX8_house_43 : decode cX8_house 43 = .ok (.ireturn, 1) := by decide +kernel
theorem dX8_house_44 : decode cX8_house 44 = .ok (.aload_n 0, 1) := by decide +kernel
theorem dX8_house_45 : decode cX8_house 45 = .ok (.iload_n 1, 1) := by decide +kernel
theorem dX8_house_46 : decode cX8_house 46 = .ok (.iload_n 2, 1) := by decide +kernel
theorem dX8_house_47 : decode cX8_house 47 = .ok (.invokevirtual 61, 3) := by decide +kernel
theorem dX8_house_50 : decode cX8_house 50 = .ok (.aload_n 0, 1) := by decide +kernel
theorem dX8_house_51 : decode cX8_house 51 = .ok (.getfield 7, 3) := by decide +kernel
theorem dX8_house_54 : decode cX8_house 54 = .ok (.bipush 25, 2) := by decide +kernel
theorem dX8_house_56 : decode cX8_house 56 = .ok (.iaload, 1) := by decide +kernel
theorem dX8_house_57 : decode cX8_house 57 = .ok (.iconst 1, 1) := by decide +kernel
theorem dX8_house_58 : decode cX8_house 58 = .ok (.isub, 1) := by decide +kernel
theorem dX8_house_59 : decode cX8_house 59 = .ok (.ireturn, 1) := by decide +kernel
theorem dX8_type_0 : decode cX8_type 0 = .ok (.iload_n 1, 1) := by decide +kernel
theorem dX8_type_1 : decode cX8_type 1 = .ok (.iconst 0, 1) := by decide +kernel
theorem dX8_type_2 : decode cX8_type 2 = .ok (.bipush 127, 2) := by decide +kernel
theorem dX8_type_4 : decode cX8_type 4 = .ok (.invokestatic 49, 3) := by decide +kernel
theorem dX8_type_7 : decode cX8_type 7 = .ok (.ifCond .ne 10, 3) := by decide +kernel
theorem dX8_type_10 : decode cX8_type 10 = .ok (.aload_n 0, 1) := by decide +kernel
theorem dX8_type_11 : decode cX8_type 11 = .ok (.bipush (-2), 2) := by decide +kernel
theorem dX8_type_13 : decode cX8_type 13 = .ok (.invokevirtual 45, 3) := by decide +kernel
theorem dX8_type_16 : decode cX8_type 16 = .ok (.ireturn, 1) := by decide +kernel
theorem dX8_type_17 : decode cX8_type 17 = .ok (.aload_n 0, 1) := by decide +kernel
theorem dX8_type_18 : decode cX8_type 18 = .ok (.getfield 64, 3) := by decide +kernel
theorem dX8_type_21 : decode cX8_type 21 = .ok (.sipush 150, 3) := by decide +kernel
theorem dX8_type_24 : decode cX8_type 24 = .ok (.if_icmp .ne 10, 3) := by decide +kernel
theorem dX8_type_27 : decode cX8_type 27 = .ok (.aload_n 0, 1) := by decide +kernel
theorem dX8_type_28 : decode cX8_type 28 = .ok (.bipush (-4), 2) := by decide +kernel
theorem dX8_type_30 : decode cX8_type 30 = .ok (.invokevirtual 45, 3) := by decide +kernel
theorem dX8_type_33 : decode cX8_type 33 = .ok (.ireturn, 1) := by decide +kernel
theorem dX8_type_34 : decode cX8_type 34 = .ok (.aload_n 0, 1) := by decide +kernel
theorem dX8_type_35 : decode cX8_type 35 = .ok (.getfield 24, 3) := by decide +kernel
theorem dX8_type_38 : decode cX8_type 38 = .ok (.aload_n 0, 1) := by decide +kernel
theorem dX8_type_39 : decode cX8_type 39 = .ok (.getfield 64, 3) := by decide +kernel
theorem dX8_type_42 : decode cX8_type 42 = .ok (.iload_n 1, 1) := by decide +kernel
theorem dX8_type_43 : decode cX8_type 43 = .ok (.iastore, 1) := by decide +kernel
theorem dX8_type_44 : decode cX8_type 44 = .ok (.aload_n 0, 1) := by decide +kernel
theorem dX8_type_45 : decode cX8_type 45 = .ok (.dup, 1) := by decide +kernel
theorem dX8_type_46 : decode cX8_type 46 = .ok (.getfield 64, 3) := by decide +kernel
theorem dX8_type_49 : decode cX8_type 49 = .ok (.iconst 1, 1) := by decide +kernel
theorem dX8_type_50 : decode cX8_type 50 = .ok (.iadd, 1) := by decide +kernel
theorem dX8_type_51 : decode cX8_type 51 = .ok (.putfield 64, 3) := by decide +kernel
theorem dX8_type_54 : decode cX8_type 54 = .ok (.aload_n 0, 1) := by decide +kernel
theorem dX8_type_55 : decode cX8_type 55 = .ok (.getfield 64, 3) := by decide +kernel
theorem dX8_type_58 : decode cX8_type 58 = .ok (.ireturn, 1) := by decide +kernel
theorem dX8_clear_0 : decode cX8_clear 0 = .ok (.aload_n 0, 1) := by decide +kernel
theorem dX8_clear_1 : decode cX8_clear 1 = .ok (.getfield 64, 3) := by decide +kernel
theorem dX8_clear_4 : decode cX8_clear 4 = .ok (.istore_n 1, 1) := by decide +kernel
theorem dX8_clear_5 : decode cX8_clear 5 = .ok (.aload_n 0, 1) := by decide +kernel
theorem dX8_clear_6 : decode cX8_clear 6 = .ok (.iconst 0, 1) := by decide +kernel
theorem dX8_clear_7 : decode cX8_clear 7 = .ok (.putfield 64, 3) := by decide +kernel
theorem dX8_clear_10 : decode cX8_clear 10 = .ok (.iload_n 1, 1) := by decide +kernel
theorem dX8_clear_11 : decode cX8_clear 11 = .ok (.ireturn, 1) := by decide +kernel
theorem dX8_isLetter_0 : decode cX8_isLetter 0 = .ok (.iload_n 1, 1) := by decide +kernel
theorem dX8_isLetter_1 : decode cX8_isLetter 1 = .ok (.aload_n 0, 1) := by decide +kernel
theorem dX8_isLetter_2 : decode cX8_isLetter 2 = .ok (.getfield 64, 3) := by decide +kernel
theorem dX8_isLetter_5 : decode cX8_isLetter 5 = .ok (.if_icmp .ge 23, 3) := by decide +kernel
theorem dX8_isLetter_8 : decode cX8_isLetter 8 = .ok (.aload_n 0, 1) := by decide +kernel
theorem dX8_isLetter_9 : decode cX8_isLetter 9 = .ok (.getfield 24, 3) := by decide +kernel
theorem dX8_isLetter_12 : decode cX8_isLetter 12 = .ok (.iload_n 1, 1) := by decide +kernel
theorem dX8_isLetter_13 : decode cX8_isLetter 13 = .ok (.iaload, 1) := by decide +kernel
theorem dX8_isLetter_14 : decode cX8_isLetter 14 = .ok (.bipush 97, 2) := by decide +kernel
theorem dX8_isLetter_16 : decode cX8_isLetter 16 = .ok (.bipush 122, 2) := by decide +kernel
theorem dX8_isLetter_18 : decode cX8_isLetter 18 = .ok (.invokestatic 49, 3) := by decide +kernel
theorem dX8_isLetter_21 : decode cX8_isLetter 21 = .ok (.ifCond .eq 7, 3) := by decide +kernel
theorem dX8_isLetter_24 : decode cX8_isLetter 24 = .ok (.iconst 1, 1) := by decide +kernel
theorem dX8_isLetter_25 : decode cX8_isLetter 25 = .ok (.goto 4, 3) := by decide +kernel
theorem dX8_isLetter_28 : decode cX8_isLetter 28 = .ok (.iconst 0, 1) := by decide +kernel
theorem dX8_isLetter_29 : decode cX8_isLetter 29 = .ok (.ireturn, 1) := by decide +kernel
theorem dX8_isFigure_0 : decode cX8_isFigure 0 = .ok (.iload_n 1, 1) := by decide +kernel
theorem dX8_isFigure_1 : decode cX8_isFigure 1 = .ok (.aload_n 0, 1) := by decide +kernel
theorem dX8_isFigure_2 : decode cX8_isFigure 2 = .ok (.getfield 64, 3) := by decide +kernel
theorem dX8_isFigure_5 : decode cX8_isFigure 5 = .ok (.if_icmp .ge 23, 3) := by decide +kernel
theorem dX8_isFigure_8 : decode cX8_isFigure 8 = .ok (.aload_n 0, 1) := by decide +kernel
theorem dX8_isFigure_9 : decode cX8_isFigure 9 = .ok (.getfield 24, 3) := by decide +kernel
theorem dX8_isFigure_12 : decode cX8_isFigure 12 = .ok (.iload_n 1, 1) := by decide +kernel
theorem dX8_isFigure_13 : decode cX8_isFigure 13 = .ok (.iaload, 1) := by decide +kernel
theorem dX8_isFigure_14 : decode cX8_isFigure 14 = .ok (.bipush 48, 2) := by decide +kernel
theorem dX8_isFigure_16 : decode cX8_isFigure 16 = .ok (.bipush 57, 2) := by decide +kernel
theorem dX8_isFigure_18 : decode cX8_isFigure 18 = .ok (.invokestatic 49, 3) := by decide +kernel
theorem dX8_isFigure_21 : decode cX8_isFigure 21 = .ok (.ifCond .eq 7, 3) := by decide +kernel
theorem dX8_isFigure_24 : decode cX8_isFigure 24 = .ok (.iconst 1, 1) := by decide +kernel
theorem dX8_isFigure_25 : decode cX8_isFigure 25 = .ok (.goto 4, 3) := by decide +kernel
theorem dX8_isFigure_28 : decode cX8_isFigure 28 = .ok (.iconst 0, 1) := by decide +kernel
theorem dX8_isFigure_29 : decode cX8_isFigure 29 = .ok (.ireturn, 1) := by decide +kernel
theorem dX8_next_0 : decode cX8_next 0 = .ok (.aload_n 0, 1) := by decide +kernel
theorem dX8_next_1 : decode cX8_next 1 = .ok (.aload_n 0, 1) := by decide +kernel
theorem dX8_next_2 : decode cX8_next 2 = .ok (.getfield 68, 3) := by decide +kernel
theorem dX8_next_5 : decode cX8_next 5 = .ok (.putfield 71, 3) := by decide +kernel
theorem dX8_next_8 : decode cX8_next 8 = .ok (.aload_n 0, 1) := by decide +kernel
theorem dX8_next_9 : decode cX8_next 9 = .ok (.getfield 71, 3) := by decide +kernel
theorem dX8_next_12 : decode cX8_next 12 = .ok (.aload_n 0, 1) := by decide +kernel
theorem dX8_next_13 : decode cX8_next 13 = .ok (.getfield 64, 3) := by decide +kernel
theorem dX8_next_16 : decode cX8_next 16 = .ok (.if_icmp .ge 30, 3) := by decide +kernel
theorem dX8_next_19 : decode cX8_next 19 = .ok (.aload_n 0, 1) := by decide +kernel
theorem dX8_next_20 : decode cX8_next 20 = .ok (.getfield 24, 3) := by decide +kernel
theorem dX8_next_23 : decode cX8_next 23 = .ok (.aload_n 0, 1) := by decide +kernel
theorem dX8_next_24 : decode cX8_next 24 = .ok (.getfield 71, 3) := by decide +kernel
theorem dX8_next_27 : decode cX8_next 27 = .ok (.iaload, 1) := by decide +kernel
theorem dX8_next_28 : decode cX8_next 28 = .ok (.bipush 32, 2) := by decide +kernel
theorem dX8_next_30 : decode cX8_next 30 = .ok (.if_icmp .ne 16, 3) := by decide +kernel
theorem dX8_next_33 : decode cX8_next 33 = .ok (.aload_n 0, 1) := by decide +kernel
theorem dX8_next_34 : decode cX8_next 34 = .ok (.dup, 1) := by decide +kernel
theorem dX8_next_35 : decode cX8_next 35 = .ok (.getfield 71, 3) := by decide +kernel
theorem dX8_next_38 : decode cX8_next 38 = .ok (.iconst 1, 1) := by decide +kernel
theorem dX8_next_39 : decode cX8_next 39 = .ok (.iadd, 1) := by decide +kernel
theorem dX8_next_40 : decode cX8_next 40 = .ok (.putfield 71, 3) := by decide +kernel
theorem dX8_next_43 : decode cX8_next 43 = .ok (.goto (-35), 3) := by decide +kernel
theorem dX8_next_46 : decode cX8_next 46 = .ok (.aload_n 0, 1) := by decide +kernel
theorem dX8_next_47 : decode cX8_next 47 = .ok (.aload_n 0, 1) := by decide +kernel
theorem dX8_next_48 : decode cX8_next 48 = .ok (.getfield 71, 3) := by decide +kernel
theorem dX8_next_51 : decode cX8_next 51 = .ok (.aload_n 0, 1) := by decide +kernel
theorem dX8_next_52 : decode cX8_next 52 = .ok (.getfield 64, 3) := by decide +kernel
theorem dX8_next_55 : decode cX8_next 55 = .ok (.if_icmp .ge 12, 3) := by decide +kernel
theorem dX8_next_58 : decode cX8_next 58 = .ok (.aload_n 0, 1) := by decide +kernel
theorem dX8_next_59 : decode cX8_next 59 = .ok (.getfield 71, 3) := by decide +kernel
theorem dX8_next_62 : decode cX8_next 62 = .ok (.iconst 1, 1) := by decide +kernel
theorem dX8_next_63 : decode cX8_next 63 = .ok (.iadd, 1) := by decide +kernel
theorem dX8_next_64 : decode cX8_next 64 = .ok (.goto 7, 3) := by decide +kernel
theorem dX8_next_67 : decode cX8_next 67 = .ok (.aload_n 0, 1) := by decide +kernel
theorem dX8_next_68 : decode cX8_next 68 = .ok (.getfield 71, 3) := by decide +kernel
theorem dX8_next_71 : decode cX8_next 71 = .ok (.putfield 68, 3) := by decide +kernel
theorem dX8_next_74 : decode cX8_next 74 = .ok (.aload_n 0, 1) := by decide +kernel
theorem dX8_next_75 : decode cX8_next 75 = .ok (.aload_n 0, 1) := by decide +kernel
theorem dX8_next_76 : decode cX8_next 76 = .ok (.getfield 71, 3) := by decide +kernel
theorem dX8_next_79 : decode cX8_next 79 = .ok (.invokevirtual 74, 3) := by decide +kernel
theorem dX8_next_82 : decode cX8_next 82 = .ok (.ifCond .eq 27, 3) := by decide +kernel
theorem dX8_next_85 : decode cX8_next 85 = .ok (.aload_n 0, 1) := by decide +kernel
theorem dX8_next_86 : decode cX8_next 86 = .ok (.aload_n 0, 1) := by decide +kernel
theorem dX8_next_87 : decode cX8_next 87 = .ok (.getfield 68, 3) := by decide +kernel
theorem dX8_next_90 : decode cX8_next 90 = .ok (.invokevirtual 74, 3) := by decide +kernel
theorem dX8_next_93 : decode cX8_next 93 = .ok (.ifCond .eq 16, 3) := by decide +kernel
theorem dX8_next_96 : decode cX8_next 96 = .ok (.aload_n 0, 1) := by decide +kernel
theorem dX8_next_97 : decode cX8_next 97 = .ok (.dup, 1) := by decide +kernel
theorem dX8_next_98 : decode cX8_next 98 = .ok (.getfield 68, 3) := by decide +kernel
theorem dX8_next_101 : decode cX8_next 101 = .ok (.iconst 1, 1) := by decide +kernel
theorem dX8_next_102 : decode cX8_next 102 = .ok (.iadd, 1) := by decide +kernel
theorem dX8_next_103 : decode cX8_next 103 = .ok (.putfield 68, 3) := by decide +kernel
theorem dX8_next_106 : decode cX8_next 106 = .ok (.goto (-32), 3) := by decide +kernel
theorem dX8_next_109 : decode cX8_next 109 = .ok (.aload_n 0, 1) := by decide +kernel
theorem dX8_next_110 : decode cX8_next 110 = .ok (.aload_n 0, 1) := by decide +kernel
theorem dX8_next_111 : decode cX8_next 111 = .ok (.getfield 71, 3) := by decide +kernel
theorem dX8_next_114 : decode cX8_next 114 = .ok (.invokevirtual 78, 3) := by decide +kernel
theorem dX8_next_117 : decode cX8_next 117 = .ok (.ifCond .eq 27, 3) := by decide +kernel
theorem dX8_next_120 : decode cX8_next 120 = .ok (.aload_n 0, 1) := by decide +kernel
theorem dX8_next_121 : decode cX8_next 121 = .ok (.aload_n 0, 1) := by decide +kernel
theorem dX8_next_122 : decode cX8_next 122 = .ok (.getfield 68, 3) := by decide +kernel
theorem dX8_next_125 : decode cX8_next 125 = .ok (.invokevirtual 78, 3) := by decide +kernel
theorem dX8_next_128 : decode cX8_next 128 = .ok (.ifCond .eq 16, 3) := by decide +kernel
theorem dX8_next_131 : decode cX8_next 131 = .ok (.aload_n 0, 1) := by decide +kernel
theorem dX8_next_132 : decode cX8_next 132 = .ok (.dup, 1) := by decide +kernel
theorem dX8_next_133 : decode cX8_next 133 = .ok (.getfield 68, 3) := by decide +kernel
theorem dX8_next_136 : decode cX8_next 136 = .ok (.iconst 1, 1) := by decide +kernel
theorem dX8_next_137 : decode cX8_next 137 = .ok (.iadd, 1) := by decide +kernel
theorem dX8_next_138 : decode cX8_next 138 = .ok (.putfield 68, 3) := by decide +kernel
theorem dX8_next_141 : decode cX8_next 141 = .ok (.goto (-32), 3) := by decide +kernel
theorem dX8_next_144 : decode cX8_next 144 = .ok (.return_, 1) := by decide +kernel
theorem dX8_isWord_0 : decode cX8_isWord 0 = .ok (.aload_n 0, 1) := by decide +kernel
theorem dX8_isWord_1 : decode cX8_isWord 1 = .ok (.getfield 68, 3) := by decide +kernel
theorem dX8_isWord_4 : decode cX8_isWord 4 = .ok (.aload_n 0, 1) := by decide +kernel
theorem dX8_isWord_5 : decode cX8_isWord 5 = .ok (.getfield 71, 3) := by decide +kernel
theorem dX8_isWord_8 : decode cX8_isWord 8 = .ok (.isub, 1) := by decide +kernel
theorem dX8_isWord_9 : decode cX8_isWord 9 = .ok (.bipush 8, 2) := by decide +kernel
theorem dX8_isWord_11 : decode cX8_isWord 11 = .ok (.if_icmp .gt 7, 3) := by decide +kernel
theorem dX8_isWord_14 : decode cX8_isWord 14 = .ok (.iconst 1, 1) := by decide +kernel
theorem dX8_isWord_15 : decode cX8_isWord 15 = .ok (.goto 4, 3) := by decide +kernel
theorem dX8_isWord_18 : decode cX8_isWord 18 = .ok (.iconst 0, 1) := by decide +kernel
theorem dX8_isWord_19 : decode cX8_isWord 19 = .ok (.istore_n 2, 1) := by decide +kernel
theorem dX8_isWord_20 : decode cX8_isWord 20 = .ok (.iconst 0, 1) := by decide +kernel
theorem dX8_isWord_21 : decode cX8_isWord 21 = .ok (.istore_n 3, 1) := by decide +kernel
theorem dX8_isWord_22 : decode cX8_isWord 22 = .ok (.iload_n 3, 1) := by decide +kernel
theorem dX8_isWord_23 : decode cX8_isWord 23 = .ok (.bipush 8, 2) := by decide +kernel
theorem dX8_isWord_25 : decode cX8_isWord 25 = .ok (.if_icmp .ge 65, 3) := by decide +kernel
theorem dX8_isWord_28 : decode cX8_isWord 28 = .ok (.iload_n 2, 1) := by decide +kernel
theorem dX8_isWord_29 : decode cX8_isWord 29 = .ok (.ifCond .eq 61, 3) := by decide +kernel
theorem dX8_isWord_32 : decode cX8_isWord 32 = .ok (.aload_n 0, 1) := by decide +kernel
theorem dX8_isWord_33 : decode cX8_isWord 33 = .ok (.getfield 71, 3) := by decide +kernel
theorem dX8_isWord_36 : decode cX8_isWord 36 = .ok (.iload_n 3, 1) := by decide +kernel
theorem dX8_isWord_37 : decode cX8_isWord 37 = .ok (.iadd, 1) := by decide +kernel
theorem dX8_isWord_38 : decode cX8_isWord 38 = .ok (.aload_n 0, 1) := by decide +kernel
theorem dX8_isWord_39 : decode cX8_isWord 39 = .ok (.getfield 68, 3) := by decide +kernel
theorem dX8_isWord_42 : decode cX8_isWord 42 = .ok (.if_icmp .ge 17, 3) := by decide +kernel
theorem dX8_isWord_45 : decode cX8_isWord 45 = .ok (.aload_n 0, 1) := by decide +kernel
theorem dX8_isWord_46 : decode cX8_isWord 46 = .ok (.getfield 24, 3) := by decide +kernel
theorem dX8_isWord_49 : decode cX8_isWord 49 = .ok (.aload_n 0, 1) := by decide +kernel
theorem dX8_isWord_50 : decode cX8_isWord 50 = .ok (.getfield 71, 3) := by decide +kernel
theorem dX8_isWord_53 : decode cX8_isWord 53 = .ok (.iload_n 3, 1) := by decide +kernel
theorem dX8_isWord_54 : decode cX8_isWord 54 = .ok (.iadd, 1) := by decide +kernel
theorem dX8_isWord_55 : decode cX8_isWord 55 = .ok (.iaload, 1) := by decide +kernel
theorem dX8_isWord_56 : decode cX8_isWord 56 = .ok (.goto 4, 3) := by decide +kernel
theorem dX8_isWord_59 : decode cX8_isWord 59 = .ok (.iconst 0, 1) := by decide +kernel
theorem dX8_isWord_60 : decode cX8_isWord 60 = .ok (.istore 4, 2) := by decide +kernel
theorem dX8_isWord_62 : decode cX8_isWord 62 = .ok (.iload 4, 2) := by decide +kernel
theorem dX8_isWord_64 : decode cX8_isWord 64 = .ok (.aload_n 0, 1) := by decide +kernel
theorem dX8_isWord_65 : decode cX8_isWord 65 = .ok (.getfield 27, 3) := by decide +kernel
theorem dX8_isWord_68 : decode cX8_isWord 68 = .ok (.bipush 8, 2) := by decide +kernel
theorem dX8_isWord_70 : decode cX8_isWord 70 = .ok (.iload_n 1, 1) := by decide +kernel
theorem dX8_isWord_71 : decode cX8_isWord 71 = .ok (.imul, 1) := by decide +kernel
theorem dX8_isWord_72 : decode cX8_isWord 72 = .ok (.iload_n 3, 1) := by decide +kernel
theorem dX8_isWord_73 : decode cX8_isWord 73 = .ok (.iadd, 1) := by decide +kernel
theorem dX8_isWord_74 : decode cX8_isWord 74 = .ok (.iaload, 1) := by decide +kernel
theorem dX8_isWord_75 : decode cX8_isWord 75 = .ok (.if_icmp .ne 7, 3) := by decide +kernel
theorem dX8_isWord_78 : decode cX8_isWord 78 = .ok (.iconst 1, 1) := by decide +kernel
theorem dX8_isWord_79 : decode cX8_isWord 79 = .ok (.goto 4, 3) := by decide +kernel
theorem dX8_isWord_82 : decode cX8_isWord 82 = .ok (.iconst 0, 1) := by decide +kernel
theorem dX8_isWord_83 : decode cX8_isWord 83 = .ok (.istore_n 2, 1) := by decide +kernel
theorem dX8_isWord_84 : decode cX8_isWord 84 = .ok (.iinc 3 1, 3) := by decide +kernel
theorem dX8_isWord_87 : decode cX8_isWord 87 = .ok (.goto (-65), 3) := by decide +kernel
theorem dX8_isWord_90 : decode cX8_isWord 90 = .ok (.iload_n 2, 1) := by decide +kernel
theorem dX8_isWord_91 : decode cX8_isWord 91 = .ok (.ireturn, 1) := by decide +kernel
theorem dX8_wordHere_0 : decode cX8_wordHere 0 = .ok (.iconst 0, 1) := by decide +kernel
theorem dX8_wordHere_1 : decode cX8_wordHere 1 = .ok (.istore_n 1, 1) := by decide +kernel
theorem dX8_wordHere_2 : decode cX8_wordHere 2 = .ok (.iload_n 1, 1) := by decide +kernel
theorem dX8_wordHere_3 : decode cX8_wordHere 3 = .ok (.bipush 6, 2) := by decide +kernel
theorem dX8_wordHere_5 : decode cX8_wordHere 5 = .ok (.if_icmp .ge 30, 3) := by decide +kernel
theorem dX8_wordHere_8 : decode cX8_wordHere 8 = .ok (.aload_n 0, 1) := by decide +kernel
theorem dX8_wordHere_9 : decode cX8_wordHere 9 = .ok (.aload_n 0, 1) := by decide +kernel
theorem dX8_wordHere_10 : decode cX8_wordHere 10 = .ok (.getfield 71, 3) := by decide +kernel
theorem dX8_wordHere_13 : decode cX8_wordHere 13 = .ok (.invokevirtual 74, 3) := by decide +kernel
theorem dX8_wordHere_16 : decode cX8_wordHere 16 = .ok (.ifCond .eq 13, 3) := by decide +kernel
theorem dX8_wordHere_19 : decode cX8_wordHere 19 = .ok (.aload_n 0, 1) := by decide +kernel
theorem dX8_wordHere_20 : decode cX8_wordHere 20 = .ok (.iload_n 1, 1) := by decide +kernel
theorem dX8_wordHere_21 : decode cX8_wordHere 21 = .ok (.invokevirtual 81, 3) := by decide +kernel
theorem dX8_wordHere_24 : decode cX8_wordHere 24 = .ok (.ifCond .eq 5, 3) := by decide +kernel
theorem dX8_wordHere_27 : decode cX8_wordHere 27 = .ok (.iload_n 1, 1) := by decide +kernel
theorem dX8_wordHere_28 : decode cX8_wordHere 28 = .ok (.ireturn, 1) := by decide +kernel
theorem dX8_wordHere_29 : decode cX8_wordHere 29 = .ok (.iinc 1 1, 3) := by decide +kernel
theorem dX8_wordHere_32 : decode cX8_wordHere 32 = .ok (.goto (-30), 3) := by decide +kernel
theorem dX8_wordHere_35 : decode cX8_wordHere 35 = .ok (.iconst (-1), 1) := by decide +kernel
theorem dX8_wordHere_36 : decode cX8_wordHere 36 = .ok (.ireturn, 1) := by decide +kernel
theorem dX8_number_0 : decode cX8_number 0 = .ok (.aload_n 0, 1) := by decide +kernel
theorem dX8_number_1 : decode cX8_number 1 = .ok (.invokevirtual 84, 3) := by decide +kernel
theorem dX8_number_4 : decode cX8_number 4 = .ok (.aload_n 0, 1) := by decide +kernel
theorem dX8_number_5 : decode cX8_number 5 = .ok (.aload_n 0, 1) := by decide +kernel
theorem dX8_number_6 : decode cX8_number 6 = .ok (.getfield 71, 3) := by decide +kernel
theorem dX8_number_9 : decode cX8_number 9 = .ok (.invokevirtual 78, 3) := by decide +kernel
theorem dX8_number_12 : decode cX8_number 12 = .ok (.ifCond .eq 16, 3) := by decide +kernel
theorem dX8_number_15 : decode cX8_number 15 = .ok (.aload_n 0, 1) := by decide +kernel
theorem dX8_number_16 : decode cX8_number 16 = .ok (.getfield 68, 3) := by decide +kernel
theorem dX8_number_19 : decode cX8_number 19 = .ok (.aload_n 0, 1) := by decide +kernel
theorem dX8_number_20 : decode cX8_number 20 = .ok (.getfield 71, 3) := by decide +kernel
theorem dX8_number_23 : decode cX8_number 23 = .ok (.isub, 1) := by decide +kernel
theorem dX8_number_24 : decode cX8_number 24 = .ok (.iconst 2, 1) := by decide +kernel
theorem dX8_number_25 : decode cX8_number 25 = .ok (.if_icmp .le 5, 3) := by decide +kernel
theorem dX8_number_28 : decode cX8_number 28 = .ok (.iconst (-1), 1) := by decide +kernel
theorem dX8_number_29 : decode cX8_number 29 = .ok (.ireturn, 1) := by decide +kernel
theorem dX8_number_30 : decode cX8_number 30 = .ok (.aload_n 0, 1) := by decide +kernel
theorem dX8_number_31 : decode cX8_number 31 = .ok (.getfield 24, 3) := by decide +kernel
theorem dX8_number_34 : decode cX8_number 34 = .ok (.aload_n 0, 1) := by decide +kernel
theorem dX8_number_35 : decode cX8_number 35 = .ok (.getfield 71, 3) := by decide +kernel
theorem dX8_number_38 : decode cX8_number 38 = .ok (.iaload, 1) := by decide +kernel
theorem dX8_number_39 : decode cX8_number 39 = .ok (.bipush 48, 2) := by decide +kernel
theorem dX8_number_41 : decode cX8_number 41 = .ok (.isub, 1) := by decide +kernel
theorem dX8_number_42 : decode cX8_number 42 = .ok (.istore_n 3, 1) := by decide +kernel
theorem dX8_number_43 : decode cX8_number 43 = .ok (.aload_n 0, 1) := by decide +kernel
theorem dX8_number_44 : decode cX8_number 44 = .ok (.getfield 68, 3) := by decide +kernel
theorem dX8_number_47 : decode cX8_number 47 = .ok (.aload_n 0, 1) := by decide +kernel
theorem dX8_number_48 : decode cX8_number 48 = .ok (.getfield 71, 3) := by decide +kernel
theorem dX8_number_51 : decode cX8_number 51 = .ok (.isub, 1) := by decide +kernel
theorem dX8_number_52 : decode cX8_number 52 = .ok (.iconst 2, 1) := by decide +kernel
theorem dX8_number_53 : decode cX8_number 53 = .ok (.if_icmp .ne 25, 3) := by decide +kernel
theorem dX8_number_56 : decode cX8_number 56 = .ok (.bipush 10, 2) := by decide +kernel
theorem dX8_number_58 : decode cX8_number 58 = .ok (.iload_n 3, 1) := by decide +kernel
theorem dX8_number_59 : decode cX8_number 59 = .ok (.imul, 1) := by decide +kernel
theorem dX8_number_60 : decode cX8_number 60 = .ok (.aload_n 0, 1) := by decide +kernel
theorem dX8_number_61 : decode cX8_number 61 = .ok (.getfield 24, 3) := by decide +kernel
theorem dX8_number_64 : decode cX8_number 64 = .ok (.aload_n 0, 1) := by decide +kernel
theorem dX8_number_65 : decode cX8_number 65 = .ok (.getfield 71, 3) := by decide +kernel
theorem dX8_number_68 : decode cX8_number 68 = .ok (.iconst 1, 1) := by decide +kernel
theorem dX8_number_69 : decode cX8_number 69 = .ok (.iadd, 1) := by decide +kernel
theorem dX8_number_70 : decode cX8_number 70 = .ok (.iaload, 1) := by decide +kernel
theorem dX8_number_71 : decode cX8_number 71 = .ok (.iadd, 1) := by decide +kernel
theorem dX8_number_72 : decode cX8_number 72 = .ok (.bipush 48, 2) := by decide +kernel
theorem dX8_number_74 : decode cX8_number 74 = .ok (.isub, 1) := by decide +kernel
theorem dX8_number_75 : decode cX8_number 75 = .ok (.goto 4, 3) := by decide +kernel
theorem dX8_number_78 : decode cX8_number 78 = .ok (.iload_n 3, 1) := by decide +kernel
theorem dX8_number_79 : decode cX8_number 79 = .ok (.istore_n 3, 1) := by decide +kernel
theorem dX8_number_80 : decode cX8_number 80 = .ok (.iload_n 3, 1) := by decide +kernel
theorem dX8_number_81 : decode cX8_number 81 = .ok (.iload_n 1, 1) := by decide +kernel
theorem dX8_number_82 : decode cX8_number 82 = .ok (.iload_n 2, 1) := by decide +kernel
theorem dX8_number_83 : decode cX8_number 83 = .ok (.invokestatic 49, 3) := by decide +kernel
theorem dX8_number_86 : decode cX8_number 86 = .ok (.ifCond .eq 7, 3) := by decide +kernel
theorem dX8_number_89 : decode cX8_number 89 = .ok (.iload_n 3, 1) := by decide +kernel
theorem dX8_number_90 : decode cX8_number 90 = .ok (.goto 4, 3) := by decide +kernel
theorem dX8_number_93 : decode cX8_number 93 = .ok (.iconst (-1), 1) := by decide +kernel
theorem dX8_number_94 : decode cX8_number 94 = .ok (.ireturn, 1) := by decide +kernel
theorem dX8_readsUplands_0 : decode cX8_readsUplands 0 = .ok (.aload_n 0, 1) := by decide +kernel
theorem dX8_readsUplands_1 : decode cX8_readsUplands 1 = .ok (.iconst 0, 1) := by decide +kernel
theorem dX8_readsUplands_2 : decode cX8_readsUplands 2 = .ok (.iconst 4, 1) := by decide +kernel
theorem dX8_readsUplands_3 : decode cX8_readsUplands 3 = .ok (.invokevirtual 87, 3) := by decide +kernel
theorem dX8_readsUplands_6 : decode cX8_readsUplands 6 = .ok (.istore_n 1, 1) := by decide +kernel
theorem dX8_readsUplands_7 : decode cX8_readsUplands 7 = .ok (.iload_n 1, 1) := by decide +kernel
theorem dX8_readsUplands_8 : decode cX8_readsUplands 8 = .ok (.iconst (-1), 1) := by decide +kernel
theorem dX8_readsUplands_9 : decode cX8_readsUplands 9 = .ok (.if_icmp .eq 15, 3) := by decide +kernel
theorem dX8_readsUplands_12 : decode cX8_readsUplands 12 = .ok (.aload_n 0, 1) := by decide +kernel
theorem dX8_readsUplands_13 : decode cX8_readsUplands 13 = .ok (.getfield 91, 3) := by decide +kernel
theorem dX8_readsUplands_16 : decode cX8_readsUplands 16 = .ok (.ifCond .eq 8, 3) := by decide +kernel
theorem dX8_readsUplands_19 : decode cX8_readsUplands 19 = .ok (.aload_n 0, 1) := by decide +kernel
theorem dX8_readsUplands_20 : decode cX8_readsUplands 20 = .ok (.iload_n 1, 1) := by decide +kernel
theorem dX8_readsUplands_21 : decode cX8_readsUplands 21 = .ok (.invokevirtual 53, 3) := by decide +kernel
theorem dX8_readsUplands_24 : decode cX8_readsUplands 24 = .ok (.iload_n 1, 1) := by decide +kernel
theorem dX8_readsUplands_25 : decode cX8_readsUplands 25 = .ok (.iconst (-1), 1) := by decide +kernel
theorem dX8_readsUplands_26 : decode cX8_readsUplands 26 = .ok (.if_icmp .eq 7, 3) := by decide +kernel
theorem dX8_readsUplands_29 : decode cX8_readsUplands 29 = .ok (.iconst 1, 1) := by decide +kernel
theorem dX8_readsUplands_30 : decode cX8_readsUplands 30 = .ok (.goto 4, 3) := by decide +kernel
theorem dX8_readsUplands_33 : decode cX8_readsUplands 33 = .ok (.iconst 0, 1) := by decide +kernel
theorem dX8_readsUplands_34 : decode cX8_readsUplands 34 = .ok (.ireturn, 1) := by decide +kernel
theorem dX8_readsGuest_0 : decode cX8_readsGuest 0 = .ok (.aload_n 0, 1) := by decide +kernel
theorem dX8_readsGuest_1 : decode cX8_readsGuest 1 = .ok (.getfield 95, 3) := by decide +kernel
theorem dX8_readsGuest_4 : decode cX8_readsGuest 4 = .ok (.bipush 6, 2) := by decide +kernel
theorem dX8_readsGuest_6 : decode cX8_readsGuest 6 = .ok (.if_icmp .ne 5, 3) := by decide +kernel
theorem dX8_readsGuest_9 : decode cX8_readsGuest 9 = .ok (.iconst 0, 1) := by decide +kernel
theorem dX8_readsGuest_10 : decode cX8_readsGuest 10 = .ok (.ireturn, 1) := by decide +kernel
theorem dX8_readsGuest_11 : decode cX8_readsGuest 11 = .ok (.aload_n 0, 1) := by decide +kernel
theorem dX8_readsGuest_12 : decode cX8_readsGuest 12 = .ok (.iconst 0, 1) := by decide +kernel
theorem dX8_readsGuest_13 : decode cX8_readsGuest 13 = .ok (.iconst 5, 1) := by decide +kernel
theorem dX8_readsGuest_14 : decode cX8_readsGuest 14 = .ok (.invokevirtual 87, 3) := by decide +kernel
theorem dX8_readsGuest_17 : decode cX8_readsGuest 17 = .ok (.istore_n 1, 1) := by decide +kernel
theorem dX8_readsGuest_18 : decode cX8_readsGuest 18 = .ok (.iload_n 1, 1) := by decide +kernel
theorem dX8_readsGuest_19 : decode cX8_readsGuest 19 = .ok (.iconst (-1), 1) := by decide +kernel
theorem dX8_readsGuest_20 : decode cX8_readsGuest 20 = .ok (.if_icmp .ne 7, 3) := by decide +kernel
theorem dX8_readsGuest_23 : decode cX8_readsGuest 23 = .ok (.iconst (-1), 1) := by decide +kernel
theorem dX8_readsGuest_24 : decode cX8_readsGuest 24 = .ok (.goto 10, 3) := by decide +kernel
theorem dX8_readsGuest_27 : decode cX8_readsGuest 27 = .ok (.aload_n 0, 1) := by decide +kernel
theorem dX8_readsGuest_28 : decode cX8_readsGuest 28 = .ok (.iconst 1, 1) := by decide +kernel
theorem dX8_readsGuest_29 : decode cX8_readsGuest 29 = .ok (.bipush 30, 2) := by decide +kernel
theorem dX8_readsGuest_31 : decode cX8_readsGuest 31 = .ok (.invokevirtual 87, 3) := by decide +kernel
theorem dX8_readsGuest_34 : decode cX8_readsGuest 34 = .ok (.istore_n 2, 1) := by decide +kernel
theorem dX8_readsGuest_35 : decode cX8_readsGuest 35 = .ok (.iload_n 2, 1) := by decide +kernel
theorem dX8_readsGuest_36 : decode cX8_readsGuest 36 = .ok (.iconst (-1), 1) := by decide +kernel
theorem dX8_readsGuest_37 : decode cX8_readsGuest 37 = .ok (.if_icmp .ne 5, 3) := by decide +kernel
theorem dX8_readsGuest_40 : decode cX8_readsGuest 40 = .ok (.iconst 0, 1) := by decide +kernel
theorem dX8_readsGuest_41 : decode cX8_readsGuest 41 = .ok (.ireturn, 1) := by decide +kernel
theorem dX8_readsGuest_42 : decode cX8_readsGuest 42 = .ok (.aload_n 0, 1) := by decide +kernel
theorem dX8_readsGuest_43 : decode cX8_readsGuest 43 = .ok (.dup, 1) := by decide +kernel
theorem dX8_readsGuest_44 : decode cX8_readsGuest 44 = .ok (.getfield 95, 3) := by decide +kernel
theorem dX8_readsGuest_47 : decode cX8_readsGuest 47 = .ok (.iconst 1, 1) := by decide +kernel
theorem dX8_readsGuest_48 : decode cX8_readsGuest 48 = .ok (.iadd, 1) := by decide +kernel
theorem dX8_readsGuest_49 : decode cX8_readsGuest 49 = .ok (.putfield 95, 3) := by decide +kernel
theorem dX8_readsGuest_52 : decode cX8_readsGuest 52 = .ok (.aload_n 0, 1) := by decide +kernel
theorem dX8_readsGuest_53 : decode cX8_readsGuest 53 = .ok (.getfield 91, 3) := by decide +kernel
theorem dX8_readsGuest_56 : decode cX8_readsGuest 56 = .ok (.ifCond .eq 9, 3) := by decide +kernel
theorem dX8_readsGuest_59 : decode cX8_readsGuest 59 = .ok (.aload_n 0, 1) := by decide +kernel
theorem dX8_readsGuest_60 : decode cX8_readsGuest 60 = .ok (.iload_n 1, 1) := by decide +kernel
theorem dX8_readsGuest_61 : decode cX8_readsGuest 61 = .ok (.iload_n 2, 1) := by decide +kernel
theorem dX8_readsGuest_62 : decode cX8_readsGuest 62 = .ok (.invokevirtual 57, 3) := by decide +kernel
theorem dX8_readsGuest_65 : decode cX8_readsGuest 65 = .ok (.iconst 1, 1) := by decide +kernel
theorem dX8_readsGuest_66 : decode cX8_readsGuest 66 = .ok (.ireturn, 1) := by decide +kernel
theorem dX8_readsHouse_0 : decode cX8_readsHouse 0 = .ok (.aload_n 0, 1) := by decide +kernel
theorem dX8_readsHouse_1 : decode cX8_readsHouse 1 = .ok (.getfield 98, 3) := by decide +kernel
theorem dX8_readsHouse_4 : decode cX8_readsHouse 4 = .ok (.iconst 4, 1) := by decide +kernel
theorem dX8_readsHouse_5 : decode cX8_readsHouse 5 = .ok (.if_icmp .ne 5, 3) := by decide +kernel
theorem dX8_readsHouse_8 : decode cX8_readsHouse 8 = .ok (.iconst 0, 1) := by decide +kernel
theorem dX8_readsHouse_9 : decode cX8_readsHouse 9 = .ok (.ireturn, 1) := by decide +kernel
theorem dX8_readsHouse_10 : decode cX8_readsHouse 10 = .ok (.aload_n 0, 1) := by decide +kernel
theorem dX8_readsHouse_11 : decode cX8_readsHouse 11 = .ok (.iconst 0, 1) := by decide +kernel
theorem dX8_readsHouse_12 : decode cX8_readsHouse 12 = .ok (.iconst 5, 1) := by decide +kernel
theorem dX8_readsHouse_13 : decode cX8_readsHouse 13 = .ok (.invokevirtual 87, 3) := by decide +kernel
theorem dX8_readsHouse_16 : decode cX8_readsHouse 16 = .ok (.istore_n 1, 1) := by decide +kernel
theorem dX8_readsHouse_17 : decode cX8_readsHouse 17 = .ok (.iload_n 1, 1) := by decide +kernel
theorem dX8_readsHouse_18 : decode cX8_readsHouse 18 = .ok (.iconst (-1), 1) := by decide +kernel
theorem dX8_readsHouse_19 : decode cX8_readsHouse 19 = .ok (.if_icmp .ne 7, 3) := by decide +kernel
theorem dX8_readsHouse_22 : decode cX8_readsHouse 22 = .ok (.iconst (-1), 1) := by decide +kernel
theorem dX8_readsHouse_23 : decode cX8_readsHouse 23 = .ok (.goto 10, 3) := by decide +kernel
theorem dX8_readsHouse_26 : decode cX8_readsHouse 26 = .ok (.aload_n 0, 1) := by decide +kernel
theorem dX8_readsHouse_27 : decode cX8_readsHouse 27 = .ok (.iconst 1, 1) := by decide +kernel
theorem dX8_readsHouse_28 : decode cX8_readsHouse 28 = .ok (.bipush 30, 2) := by decide +kernel
theorem dX8_readsHouse_30 : decode cX8_readsHouse 30 = .ok (.invokevirtual 87, 3) := by decide +kernel
theorem dX8_readsHouse_33 : decode cX8_readsHouse 33 = .ok (.istore_n 2, 1) := by decide +kernel
theorem dX8_readsHouse_34 : decode cX8_readsHouse 34 = .ok (.iload_n 2, 1) := by decide +kernel
theorem dX8_readsHouse_35 : decode cX8_readsHouse 35 = .ok (.iconst (-1), 1) := by decide +kernel
theorem dX8_readsHouse_36 : decode cX8_readsHouse 36 = .ok (.if_icmp .ne 5, 3) := by decide +kernel
theorem dX8_readsHouse_39 : decode cX8_readsHouse 39 = .ok (.iconst 0, 1) := by decide +kernel
theorem dX8_readsHouse_40 : decode cX8_readsHouse 40 = .ok (.ireturn, 1) := by decide +kernel
theorem dX8_readsHouse_41 : decode cX8_readsHouse 41 = .ok (.aload_n 0, 1) := by decide +kernel
theorem dX8_readsHouse_42 : decode cX8_readsHouse 42 = .ok (.dup, 1) := by decide +kernel
theorem dX8_readsHouse_43 : decode cX8_readsHouse 43 = .ok (.getfield 98, 3) := by decide +kernel
theorem dX8_readsHouse_46 : decode cX8_readsHouse 46 = .ok (.iconst 1, 1) := by decide +kernel
theorem dX8_readsHouse_47 : decode cX8_readsHouse 47 = .ok (.iadd, 1) := by decide +kernel
theorem dX8_readsHouse_48 : decode cX8_readsHouse 48 = .ok (.putfield 98, 3) := by decide +kernel
theorem dX8_readsHouse_51 : decode cX8_readsHouse 51 = .ok (.aload_n 0, 1) := by decide +kernel
theorem dX8_readsHouse_52 : decode cX8_readsHouse 52 = .ok (.getfield 91, 3) := by decide +kernel
theorem dX8_readsHouse_55 : decode cX8_readsHouse 55 = .ok (.ifCond .eq 9, 3) := by decide +kernel
theorem dX8_readsHouse_58 : decode cX8_readsHouse 58 = .ok (.aload_n 0, 1) := by decide +kernel
theorem dX8_readsHouse_59 : decode cX8_readsHouse 59 = .ok (.iload_n 1, 1) := by decide +kernel
theorem dX8_readsHouse_60 : decode cX8_readsHouse 60 = .ok (.iload_n 2, 1) := by decide +kernel
theorem dX8_readsHouse_61 : decode cX8_readsHouse 61 = .ok (.invokevirtual 61, 3) := by decide +kernel
theorem dX8_readsHouse_64 : decode cX8_readsHouse 64 = .ok (.iconst 1, 1) := by decide +kernel
theorem dX8_readsHouse_65 : decode cX8_readsHouse 65 = .ok (.ireturn, 1) := by decide +kernel
theorem dX8_readsGoing_0 : decode cX8_readsGoing 0 = .ok (.aload_n 0, 1) := by decide +kernel
theorem dX8_readsGoing_1 : decode cX8_readsGoing 1 = .ok (.iconst 0, 1) := by decide +kernel
theorem dX8_readsGoing_2 : decode cX8_readsGoing 2 = .ok (.aload_n 0, 1) := by decide +kernel
theorem dX8_readsGoing_3 : decode cX8_readsGoing 3 = .ok (.getfield 95, 3) := by decide +kernel
theorem dX8_readsGoing_6 : decode cX8_readsGoing 6 = .ok (.iconst 1, 1) := by decide +kernel
theorem dX8_readsGoing_7 : decode cX8_readsGoing 7 = .ok (.isub, 1) := by decide +kernel
theorem dX8_readsGoing_8 : decode cX8_readsGoing 8 = .ok (.invokevirtual 87, 3) := by decide +kernel
theorem dX8_readsGoing_11 : decode cX8_readsGoing 11 = .ok (.istore_n 2, 1) := by decide +kernel
theorem dX8_readsGoing_12 : decode cX8_readsGoing 12 = .ok (.iload_n 2, 1) := by decide +kernel
theorem dX8_readsGoing_13 : decode cX8_readsGoing 13 = .ok (.iconst (-1), 1) := by decide +kernel
theorem dX8_readsGoing_14 : decode cX8_readsGoing 14 = .ok (.if_icmp .ne 7, 3) := by decide +kernel
theorem dX8_readsGoing_17 : decode cX8_readsGoing 17 = .ok (.iconst (-1), 1) := by decide +kernel
theorem dX8_readsGoing_18 : decode cX8_readsGoing 18 = .ok (.goto 22, 3) := by decide +kernel
theorem dX8_readsGoing_21 : decode cX8_readsGoing 21 = .ok (.iload_n 1, 1) := by decide +kernel
theorem dX8_readsGoing_22 : decode cX8_readsGoing 22 = .ok (.ifCond .eq 7, 3) := by decide +kernel
theorem dX8_readsGoing_25 : decode cX8_readsGoing 25 = .ok (.iconst 0, 1) := by decide +kernel
theorem dX8_readsGoing_26 : decode cX8_readsGoing 26 = .ok (.goto 14, 3) := by decide +kernel
theorem dX8_readsGoing_29 : decode cX8_readsGoing 29 = .ok (.aload_n 0, 1) := by decide +kernel
theorem dX8_readsGoing_30 : decode cX8_readsGoing 30 = .ok (.iconst 0, 1) := by decide +kernel
theorem dX8_readsGoing_31 : decode cX8_readsGoing 31 = .ok (.aload_n 0, 1) := by decide +kernel
theorem dX8_readsGoing_32 : decode cX8_readsGoing 32 = .ok (.getfield 98, 3) := by decide +kernel
theorem dX8_readsGoing_35 : decode cX8_readsGoing 35 = .ok (.iconst 1, 1) := by decide +kernel
theorem dX8_readsGoing_36 : decode cX8_readsGoing 36 = .ok (.isub, 1) := by decide +kernel
theorem dX8_readsGoing_37 : decode cX8_readsGoing 37 = .ok (.invokevirtual 87, 3) := by decide +kernel
theorem dX8_readsGoing_40 : decode cX8_readsGoing 40 = .ok (.istore_n 3, 1) := by decide +kernel
theorem dX8_readsGoing_41 : decode cX8_readsGoing 41 = .ok (.iload_n 3, 1) := by decide +kernel
theorem dX8_readsGoing_42 : decode cX8_readsGoing 42 = .ok (.iconst (-1), 1) := by decide +kernel
theorem dX8_readsGoing_43 : decode cX8_readsGoing 43 = .ok (.if_icmp .eq 27, 3) := by decide +kernel
theorem dX8_readsGoing_46 : decode cX8_readsGoing 46 = .ok (.aload_n 0, 1) := by decide +kernel
theorem dX8_readsGoing_47 : decode cX8_readsGoing 47 = .ok (.getfield 91, 3) := by decide +kernel
theorem dX8_readsGoing_50 : decode cX8_readsGoing 50 = .ok (.ifCond .eq 20, 3) := by decide +kernel
theorem dX8_readsGoing_53 : decode cX8_readsGoing 53 = .ok (.aload_n 0, 1) := by decide +kernel
theorem dX8_readsGoing_54 : decode cX8_readsGoing 54 = .ok (.getfield 7, 3) := by decide +kernel
theorem dX8_readsGoing_57 : decode cX8_readsGoing 57 = .ok (.iconst 0, 1) := by decide +kernel
theorem dX8_readsGoing_58 : decode cX8_readsGoing 58 = .ok (.iload_n 2, 1) := by decide +kernel
theorem dX8_readsGoing_59 : decode cX8_readsGoing 59 = .ok (.iadd, 1) := by decide +kernel
theorem dX8_readsGoing_60 : decode cX8_readsGoing 60 = .ok (.iload_n 1, 1) := by decide +kernel
theorem dX8_readsGoing_61 : decode cX8_readsGoing 61 = .ok (.ifCond .eq 7, 3) := by decide +kernel
theorem dX8_readsGoing_64 : decode cX8_readsGoing 64 = .ok (.iconst (-1), 1) := by decide +kernel
theorem dX8_readsGoing_65 : decode cX8_readsGoing 65 = .ok (.goto 4, 3) := by decide +kernel
theorem dX8_readsGoing_68 : decode cX8_readsGoing 68 = .ok (.iload_n 3, 1) := by decide +kernel
theorem dX8_readsGoing_69 : decode cX8_readsGoing 69 = .ok (.iastore, 1) := by decide +kernel
theorem dX8_readsGoing_70 : decode cX8_readsGoing 70 = .ok (.iload_n 3, 1) := by decide +kernel
theorem dX8_readsGoing_71 : decode cX8_readsGoing 71 = .ok (.iconst (-1), 1) := by decide +kernel
theorem dX8_readsGoing_72 : decode cX8_readsGoing 72 = .ok (.if_icmp .eq 7, 3) := by decide +kernel
theorem dX8_readsGoing_75 : decode cX8_readsGoing 75 = .ok (.iconst 1, 1) := by decide +kernel
theorem dX8_readsGoing_76 : decode cX8_readsGoing 76 = .ok (.goto 4, 3) := by decide +kernel
theorem dX8_readsGoing_79 : decode cX8_readsGoing 79 = .ok (.iconst 0, 1) := by decide +kernel
theorem dX8_readsGoing_80 : decode cX8_readsGoing 80 = .ok (.ireturn, 1) := by decide +kernel
theorem dX8_readsItem_0 : decode cX8_readsItem 0 = .ok (.iload_n 1, 1) := by decide +kernel
theorem dX8_readsItem_1 : decode cX8_readsItem 1 = .ok (.tableswitch 62 0 4 #[35, 40, 45, 50, 56], 35) := by decide +kernel
theorem dX8_readsItem_36 : decode cX8_readsItem 36 = .ok (.aload_n 0, 1) := by decide +kernel
theorem dX8_readsItem_37 : decode cX8_readsItem 37 = .ok (.invokevirtual 101, 3) := by decide +kernel
theorem dX8_readsItem_40 : decode cX8_readsItem 40 = .ok (.ireturn, 1) := by decide +kernel
theorem dX8_readsItem_41 : decode cX8_readsItem 41 = .ok (.aload_n 0, 1) := by decide +kernel
theorem dX8_readsItem_42 : decode cX8_readsItem 42 = .ok (.invokevirtual 105, 3) := by decide +kernel
theorem dX8_readsItem_45 : decode cX8_readsItem 45 = .ok (.ireturn, 1) := by decide +kernel
theorem dX8_readsItem_46 : decode cX8_readsItem 46 = .ok (.aload_n 0, 1) := by decide +kernel
theorem dX8_readsItem_47 : decode cX8_readsItem 47 = .ok (.invokevirtual 108, 3) := by decide +kernel
theorem dX8_readsItem_50 : decode cX8_readsItem 50 = .ok (.ireturn, 1) := by decide +kernel
theorem dX8_readsItem_51 : decode cX8_readsItem 51 = .ok (.aload_n 0, 1) := by decide +kernel
theorem dX8_readsItem_52 : decode cX8_readsItem 52 = .ok (.iconst 0, 1) := by decide +kernel
theorem dX8_readsItem_53 : decode cX8_readsItem 53 = .ok (.invokevirtual 111, 3) := by decide +kernel
theorem dX8_readsItem_56 : decode cX8_readsItem 56 = .ok (.ireturn, 1) := by decide +kernel
theorem dX8_readsItem_57 : decode cX8_readsItem 57 = .ok (.aload_n 0, 1) := by decide +kernel
theorem dX8_readsItem_58 : decode cX8_readsItem 58 = .ok (.iconst 1, 1) := by decide +kernel
theorem dX8_readsItem_59 : decode cX8_readsItem 59 = .ok (.invokevirtual 111, 3) := by decide +kernel
theorem dX8_readsItem_62 : decode cX8_readsItem 62 = .ok (.ireturn, 1) := by decide +kernel
theorem dX8_readsItem_63 : decode cX8_readsItem 63 = .ok (.aload_n 0, 1) := by decide +kernel
theorem dX8_readsItem_64 : decode cX8_readsItem 64 = .ok (.iconst 1, 1) := by decide +kernel
theorem dX8_readsItem_65 : decode cX8_readsItem 65 = .ok (.bipush 99, 2) := by decide +kernel
theorem dX8_readsItem_67 : decode cX8_readsItem 67 = .ok (.invokevirtual 87, 3) := by decide +kernel
theorem dX8_readsItem_70 : decode cX8_readsItem 70 = .ok (.istore_n 2, 1) := by decide +kernel
theorem dX8_readsItem_71 : decode cX8_readsItem 71 = .ok (.aload_n 0, 1) := by decide +kernel
theorem dX8_readsItem_72 : decode cX8_readsItem 72 = .ok (.getfield 91, 3) := by decide +kernel
theorem dX8_readsItem_75 : decode cX8_readsItem 75 = .ok (.ifCond .eq 13, 3) := by decide +kernel
theorem dX8_readsItem_78 : decode cX8_readsItem 78 = .ok (.iload_n 2, 1) := by decide +kernel
theorem dX8_readsItem_79 : decode cX8_readsItem 79 = .ok (.iconst (-1), 1) := by decide +kernel
theorem dX8_readsItem_80 : decode cX8_readsItem 80 = .ok (.if_icmp .eq 8, 3) := by decide +kernel
theorem dX8_readsItem_83 : decode cX8_readsItem 83 = .ok (.aload_n 0, 1) := by decide +kernel
theorem dX8_readsItem_84 : decode cX8_readsItem 84 = .ok (.iload_n 2, 1) := by decide +kernel
theorem dX8_readsItem_85 : decode cX8_readsItem 85 = .ok (.invokevirtual 115, 3) := by decide +kernel
theorem dX8_readsItem_88 : decode cX8_readsItem 88 = .ok (.iload_n 2, 1) := by decide +kernel
theorem dX8_readsItem_89 : decode cX8_readsItem 89 = .ok (.iconst (-1), 1) := by decide +kernel
theorem dX8_readsItem_90 : decode cX8_readsItem 90 = .ok (.if_icmp .eq 7, 3) := by decide +kernel
theorem dX8_readsItem_93 : decode cX8_readsItem 93 = .ok (.iconst 1, 1) := by decide +kernel
theorem dX8_readsItem_94 : decode cX8_readsItem 94 = .ok (.goto 4, 3) := by decide +kernel
theorem dX8_readsItem_97 : decode cX8_readsItem 97 = .ok (.iconst 0, 1) := by decide +kernel
theorem dX8_readsItem_98 : decode cX8_readsItem 98 = .ok (.ireturn, 1) := by decide +kernel
theorem dX8_readItems_0 : decode cX8_readItems 0 = .ok (.aload_n 0, 1) := by decide +kernel
theorem dX8_readItems_1 : decode cX8_readItems 1 = .ok (.iload_n 1, 1) := by decide +kernel
theorem dX8_readItems_2 : decode cX8_readItems 2 = .ok (.putfield 91, 3) := by decide +kernel
theorem dX8_readItems_5 : decode cX8_readItems 5 = .ok (.aload_n 0, 1) := by decide +kernel
theorem dX8_readItems_6 : decode cX8_readItems 6 = .ok (.iconst 0, 1) := by decide +kernel
theorem dX8_readItems_7 : decode cX8_readItems 7 = .ok (.putfield 68, 3) := by decide +kernel
theorem dX8_readItems_10 : decode cX8_readItems 10 = .ok (.aload_n 0, 1) := by decide +kernel
theorem dX8_readItems_11 : decode cX8_readItems 11 = .ok (.iconst 0, 1) := by decide +kernel
theorem dX8_readItems_12 : decode cX8_readItems 12 = .ok (.putfield 95, 3) := by decide +kernel
theorem dX8_readItems_15 : decode cX8_readItems 15 = .ok (.aload_n 0, 1) := by decide +kernel
theorem dX8_readItems_16 : decode cX8_readItems 16 = .ok (.iconst 0, 1) := by decide +kernel
theorem dX8_readItems_17 : decode cX8_readItems 17 = .ok (.putfield 98, 3) := by decide +kernel
theorem dX8_readItems_20 : decode cX8_readItems 20 = .ok (.iconst 0, 1) := by decide +kernel
theorem dX8_readItems_21 : decode cX8_readItems 21 = .ok (.istore_n 2, 1) := by decide +kernel
theorem dX8_readItems_22 : decode cX8_readItems 22 = .ok (.aload_n 0, 1) := by decide +kernel
theorem dX8_readItems_23 : decode cX8_readItems 23 = .ok (.invokevirtual 84, 3) := by decide +kernel
theorem dX8_readItems_26 : decode cX8_readItems 26 = .ok (.iload_n 2, 1) := by decide +kernel
theorem dX8_readItems_27 : decode cX8_readItems 27 = .ok (.ifCond .eq 14, 3) := by decide +kernel
theorem dX8_readItems_30 : decode cX8_readItems 30 = .ok (.aload_n 0, 1) := by decide +kernel
theorem dX8_readItems_31 : decode cX8_readItems 31 = .ok (.getfield 71, 3) := by decide +kernel
theorem dX8_readItems_34 : decode cX8_readItems 34 = .ok (.aload_n 0, 1) := by decide +kernel
theorem dX8_readItems_35 : decode cX8_readItems 35 = .ok (.getfield 64, 3) := by decide +kernel
theorem dX8_readItems_38 : decode cX8_readItems 38 = .ok (.if_icmp .ge 85, 3) := by decide +kernel
theorem dX8_readItems_41 : decode cX8_readItems 41 = .ok (.aload_n 0, 1) := by decide +kernel
theorem dX8_readItems_42 : decode cX8_readItems 42 = .ok (.invokevirtual 118, 3) := by decide +kernel
theorem dX8_readItems_45 : decode cX8_readItems 45 = .ok (.istore_n 3, 1) := by decide +kernel
theorem dX8_readItems_46 : decode cX8_readItems 46 = .ok (.iload_n 3, 1) := by decide +kernel
theorem dX8_readItems_47 : decode cX8_readItems 47 = .ok (.iconst (-1), 1) := by decide +kernel
theorem dX8_readItems_48 : decode cX8_readItems 48 = .ok (.if_icmp .eq 32, 3) := by decide +kernel
theorem dX8_readItems_51 : decode cX8_readItems 51 = .ok (.iload_n 3, 1) := by decide +kernel
theorem dX8_readItems_52 : decode cX8_readItems 52 = .ok (.ifCond .ne 7, 3) := by decide +kernel
theorem dX8_readItems_55 : decode cX8_readItems 55 = .ok (.iconst 1, 1) := by decide +kernel
theorem dX8_readItems_56 : decode cX8_readItems 56 = .ok (.goto 4, 3) := by decide +kernel
theorem dX8_readItems_59 : decode cX8_readItems 59 = .ok (.iconst 0, 1) := by decide +kernel
theorem dX8_readItems_60 : decode cX8_readItems 60 = .ok (.iload_n 2, 1) := by decide +kernel
theorem dX8_readItems_61 : decode cX8_readItems 61 = .ok (.ifCond .ne 7, 3) := by decide +kernel
theorem dX8_readItems_64 : decode cX8_readItems 64 = .ok (.iconst 1, 1) := by decide +kernel
theorem dX8_readItems_65 : decode cX8_readItems 65 = .ok (.goto 4, 3) := by decide +kernel
theorem dX8_readItems_68 : decode cX8_readItems 68 = .ok (.iconst 0, 1) := by decide +kernel
theorem dX8_readItems_69 : decode cX8_readItems 69 = .ok (.if_icmp .ne 11, 3) := by decide +kernel
theorem dX8_readItems_72 : decode cX8_readItems 72 = .ok (.aload_n 0, 1) := by decide +kernel
theorem dX8_readItems_73 : decode cX8_readItems 73 = .ok (.iload_n 3, 1) := by decide +kernel
theorem dX8_readItems_74 : decode cX8_readItems 74 = .ok (.invokevirtual 122, 3) := by decide +kernel
theorem dX8_readItems_77 : decode cX8_readItems 77 = .ok (.ifCond .ne 5, 3) := by decide +kernel
theorem dX8_readItems_80 : decode cX8_readItems 80 = .ok (.iconst (-1), 1) := by decide +kernel
theorem dX8_readItems_81 : decode cX8_readItems 81 = .ok (.ireturn, 1) := by decide +kernel
theorem dX8_readItems_82 : decode cX8_readItems 82 = .ok (.aload_n 0, 1) := by decide +kernel
theorem dX8_readItems_83 : decode cX8_readItems 83 = .ok (.invokevirtual 84, 3) := by decide +kernel
theorem dX8_readItems_86 : decode cX8_readItems 86 = .ok (.aload_n 0, 1) := by decide +kernel
theorem dX8_readItems_87 : decode cX8_readItems 87 = .ok (.getfield 71, 3) := by decide +kernel
theorem dX8_readItems_90 : decode cX8_readItems 90 = .ok (.aload_n 0, 1) := by decide +kernel
theorem dX8_readItems_91 : decode cX8_readItems 91 = .ok (.getfield 64, 3) := by decide +kernel
theorem dX8_readItems_94 : decode cX8_readItems 94 = .ok (.if_icmp .eq 17, 3) := by decide +kernel
theorem dX8_readItems_97 : decode cX8_readItems 97 = .ok (.aload_n 0, 1) := by decide +kernel
theorem dX8_readItems_98 : decode cX8_readItems 98 = .ok (.getfield 24, 3) := by decide +kernel
theorem dX8_readItems_101 : decode cX8_readItems 101 = .ok (.aload_n 0, 1) := by decide +kernel
theorem dX8_readItems_102 : decode cX8_readItems 102 = .ok (.getfield 71, 3) := by decide +kernel
theorem dX8_readItems_105 : decode cX8_readItems 105 = .ok (.iaload, 1) := by decide +kernel
theorem dX8_readItems_106 : decode cX8_readItems 106 = .ok (.bipush 59, 2) := by decide +kernel
theorem dX8_readItems_108 : decode cX8_readItems 108 = .ok (.if_icmp .eq 5, 3) := by decide +kernel
theorem dX8_readItems_111 : decode cX8_readItems 111 = .ok (.iconst (-1), 1) := by decide +kernel
theorem dX8_readItems_112 : decode cX8_readItems 112 = .ok (.ireturn, 1) := by decide +kernel
theorem dX8_readItems_113 : decode cX8_readItems 113 = .ok (.iinc 2 1, 3) := by decide +kernel
theorem dX8_readItems_116 : decode cX8_readItems 116 = .ok (.aload_n 0, 1) := by decide +kernel
theorem dX8_readItems_117 : decode cX8_readItems 117 = .ok (.invokevirtual 84, 3) := by decide +kernel
theorem dX8_readItems_120 : decode cX8_readItems 120 = .ok (.goto (-94), 3) := by decide +kernel
theorem dX8_readItems_123 : decode cX8_readItems 123 = .ok (.iload_n 2, 1) := by decide +kernel
theorem dX8_readItems_124 : decode cX8_readItems 124 = .ok (.ireturn, 1) := by decide +kernel
theorem dX8_read_0 : decode cX8_read 0 = .ok (.aload_n 0, 1) := by decide +kernel
theorem dX8_read_1 : decode cX8_read 1 = .ok (.iconst 0, 1) := by decide +kernel
theorem dX8_read_2 : decode cX8_read 2 = .ok (.invokevirtual 125, 3) := by decide +kernel
theorem dX8_read_5 : decode cX8_read 5 = .ok (.istore_n 1, 1) := by decide +kernel
theorem dX8_read_6 : decode cX8_read 6 = .ok (.iload_n 1, 1) := by decide +kernel
theorem dX8_read_7 : decode cX8_read 7 = .ok (.iconst (-1), 1) := by decide +kernel
theorem dX8_read_8 : decode cX8_read 8 = .ok (.if_icmp .ne 11, 3) := by decide +kernel
theorem dX8_read_11 : decode cX8_read 11 = .ok (.bipush (-10), 2) := by decide +kernel
theorem dX8_read_13 : decode cX8_read 13 = .ok (.aload_n 0, 1) := by decide +kernel
theorem dX8_read_14 : decode cX8_read 14 = .ok (.getfield 71, 3) := by decide +kernel
theorem dX8_read_17 : decode cX8_read 17 = .ok (.isub, 1) := by decide +kernel
theorem dX8_read_18 : decode cX8_read 18 = .ok (.ireturn, 1) := by decide +kernel
theorem dX8_read_19 : decode cX8_read 19 = .ok (.aload_n 0, 1) := by decide +kernel
theorem dX8_read_20 : decode cX8_read 20 = .ok (.iconst 1, 1) := by decide +kernel
theorem dX8_read_21 : decode cX8_read 21 = .ok (.invokevirtual 125, 3) := by decide +kernel
theorem dX8_read_24 : decode cX8_read 24 = .ok (.pop, 1) := by decide +kernel
theorem dX8_read_25 : decode cX8_read 25 = .ok (.aload_n 0, 1) := by decide +kernel
theorem dX8_read_26 : decode cX8_read 26 = .ok (.getfield 7, 3) := by decide +kernel
theorem dX8_read_29 : decode cX8_read 29 = .ok (.bipush 111, 2) := by decide +kernel
theorem dX8_read_31 : decode cX8_read 31 = .ok (.iconst 0, 1) := by decide +kernel
theorem dX8_read_32 : decode cX8_read 32 = .ok (.iastore, 1) := by decide +kernel
theorem dX8_read_33 : decode cX8_read 33 = .ok (.iload_n 1, 1) := by decide +kernel
theorem dX8_read_34 : decode cX8_read 34 = .ok (.ireturn, 1) := by decide +kernel
theorem dX8_greatBy_0 : decode cX8_greatBy 0 = .ok (.iload_n 1, 1) := by decide +kernel
theorem dX8_greatBy_1 : decode cX8_greatBy 1 = .ok (.iconst 2, 1) := by decide +kernel
theorem dX8_greatBy_2 : decode cX8_greatBy 2 = .ok (.iload_n 2, 1) := by decide +kernel
theorem dX8_greatBy_3 : decode cX8_greatBy 3 = .ok (.imul, 1) := by decide +kernel
theorem dX8_greatBy_4 : decode cX8_greatBy 4 = .ok (.isub, 1) := by decide +kernel
theorem dX8_greatBy_5 : decode cX8_greatBy 5 = .ok (.iconst 1, 1) := by decide +kernel
theorem dX8_greatBy_6 : decode cX8_greatBy 6 = .ok (.if_icmp .ge 7, 3) := by decide +kernel
theorem dX8_greatBy_9 : decode cX8_greatBy 9 = .ok (.iconst 1, 1) := by decide +kernel
theorem dX8_greatBy_10 : decode cX8_greatBy 10 = .ok (.goto 8, 3) := by decide +kernel
theorem dX8_greatBy_13 : decode cX8_greatBy 13 = .ok (.iload_n 1, 1) := by decide +kernel
theorem dX8_greatBy_14 : decode cX8_greatBy 14 = .ok (.iconst 2, 1) := by decide +kernel
theorem dX8_greatBy_15 : decode cX8_greatBy 15 = .ok (.iload_n 2, 1) := by decide +kernel
theorem dX8_greatBy_16 : decode cX8_greatBy 16 = .ok (.imul, 1) := by decide +kernel
theorem dX8_greatBy_17 : decode cX8_greatBy 17 = .ok (.isub, 1) := by decide +kernel
theorem dX8_greatBy_18 : decode cX8_greatBy 18 = .ok (.istore_n 3, 1) := by decide +kernel
theorem dX8_greatBy_19 : decode cX8_greatBy 19 = .ok (.iload_n 0, 1) := by decide +kernel
theorem dX8_greatBy_20 : decode cX8_greatBy 20 = .ok (.tableswitch 76 1 5 #[36, 38, 44, 57, 61], 36) := by decide +kernel
theorem dX8_greatBy_56 : decode cX8_greatBy 56 = .ok (.iload_n 3, 1) := by decide +kernel
theorem dX8_greatBy_57 : decode cX8_greatBy 57 = .ok (.ireturn, 1) := by decide +kernel
theorem dX8_greatBy_58 : decode cX8_greatBy 58 = .ok (.iload_n 1, 1) := by decide +kernel
theorem dX8_greatBy_59 : decode cX8_greatBy 59 = .ok (.iconst 1, 1) := by decide +kernel
theorem dX8_greatBy_60 : decode cX8_greatBy 60 = .ok (.iadd, 1) := by decide +kernel
theorem dX8_greatBy_61 : decode cX8_greatBy 61 = .ok (.iconst 2, 1) := by decide +kernel
theorem dX8_greatBy_62 : decode cX8_greatBy 62 = .ok (.idiv, 1) := by decide +kernel
theorem dX8_greatBy_63 : decode cX8_greatBy 63 = .ok (.ireturn, 1) := by decide +kernel
theorem dX8_greatBy_64 : decode cX8_greatBy 64 = .ok (.iload_n 2, 1) := by decide +kernel
theorem dX8_greatBy_65 : decode cX8_greatBy 65 = .ok (.iconst 2, 1) := by decide +kernel
theorem dX8_greatBy_66 : decode cX8_greatBy 66 = .ok (.irem, 1) := by decide +kernel
theorem dX8_greatBy_67 : decode cX8_greatBy 67 = .ok (.iconst 1, 1) := by decide +kernel
theorem dX8_greatBy_68 : decode cX8_greatBy 68 = .ok (.if_icmp .ne 7, 3) := by decide +kernel
theorem dX8_greatBy_71 : decode cX8_greatBy 71 = .ok (.iconst 0, 1) := by decide +kernel
theorem dX8_greatBy_72 : decode cX8_greatBy 72 = .ok (.goto 4, 3) := by decide +kernel
theorem dX8_greatBy_75 : decode cX8_greatBy 75 = .ok (.iload_n 3, 1) := by decide +kernel
theorem dX8_greatBy_76 : decode cX8_greatBy 76 = .ok (.ireturn, 1) := by decide +kernel
theorem dX8_greatBy_77 : decode cX8_greatBy 77 = .ok (.iload_n 1, 1) := by decide +kernel
theorem dX8_greatBy_78 : decode cX8_greatBy 78 = .ok (.iload_n 2, 1) := by decide +kernel
theorem dX8_greatBy_79 : decode cX8_greatBy 79 = .ok (.iadd, 1) := by decide +kernel
theorem dX8_greatBy_80 : decode cX8_greatBy 80 = .ok (.ireturn, 1) := by decide +kernel
theorem dX8_greatBy_81 : decode cX8_greatBy 81 = .ok (.iload_n 2, 1) := by decide +kernel
theorem dX8_greatBy_82 : decode cX8_greatBy 82 = .ok (.iconst 1, 1) := by decide +kernel
theorem dX8_greatBy_83 : decode cX8_greatBy 83 = .ok (.if_icmp .le 7, 3) := by decide +kernel
theorem dX8_greatBy_86 : decode cX8_greatBy 86 = .ok (.iconst 1, 1) := by decide +kernel
theorem dX8_greatBy_87 : decode cX8_greatBy 87 = .ok (.goto 8, 3) := by decide +kernel
theorem dX8_greatBy_90 : decode cX8_greatBy 90 = .ok (.iload_n 1, 1) := by decide +kernel
theorem dX8_greatBy_91 : decode cX8_greatBy 91 = .ok (.iconst 1, 1) := by decide +kernel
theorem dX8_greatBy_92 : decode cX8_greatBy 92 = .ok (.iadd, 1) := by decide +kernel
theorem dX8_greatBy_93 : decode cX8_greatBy 93 = .ok (.iconst 2, 1) := by decide +kernel
theorem dX8_greatBy_94 : decode cX8_greatBy 94 = .ok (.idiv, 1) := by decide +kernel
theorem dX8_greatBy_95 : decode cX8_greatBy 95 = .ok (.ireturn, 1) := by decide +kernel
theorem dX8_greatBy_96 : decode cX8_greatBy 96 = .ok (.iload_n 1, 1) := by decide +kernel
theorem dX8_greatBy_97 : decode cX8_greatBy 97 = .ok (.ireturn, 1) := by decide +kernel
theorem dX8_atLeastOne_0 : decode cX8_atLeastOne 0 = .ok (.iload_n 0, 1) := by decide +kernel
theorem dX8_atLeastOne_1 : decode cX8_atLeastOne 1 = .ok (.iconst 1, 1) := by decide +kernel
theorem dX8_atLeastOne_2 : decode cX8_atLeastOne 2 = .ok (.if_icmp .ge 7, 3) := by decide +kernel
theorem dX8_atLeastOne_5 : decode cX8_atLeastOne 5 = .ok (.iconst 1, 1) := by decide +kernel
theorem dX8_atLeastOne_6 : decode cX8_atLeastOne 6 = .ok (.goto 4, 3) := by decide +kernel
theorem dX8_atLeastOne_9 : decode cX8_atLeastOne 9 = .ok (.iload_n 0, 1) := by decide +kernel
theorem dX8_atLeastOne_10 : decode cX8_atLeastOne 10 = .ok (.ireturn, 1) := by decide +kernel
theorem dX8_needBy_0 : decode cX8_needBy 0 = .ok (.iload_n 1, 1) := by decide +kernel
theorem dX8_needBy_1 : decode cX8_needBy 1 = .ok (.iconst 3, 1) := by decide +kernel
theorem dX8_needBy_2 : decode cX8_needBy 2 = .ok (.isub, 1) := by decide +kernel
theorem dX8_needBy_3 : decode cX8_needBy 3 = .ok (.invokestatic 129, 3) := by decide +kernel
theorem dX8_needBy_6 : decode cX8_needBy 6 = .ok (.istore_n 3, 1) := by decide +kernel
theorem dX8_needBy_7 : decode cX8_needBy 7 = .ok (.iload_n 3, 1) := by decide +kernel
theorem dX8_needBy_8 : decode cX8_needBy 8 = .ok (.iload_n 2, 1) := by decide +kernel
theorem dX8_needBy_9 : decode cX8_needBy 9 = .ok (.isub, 1) := by decide +kernel
theorem dX8_needBy_10 : decode cX8_needBy 10 = .ok (.invokestatic 129, 3) := by decide +kernel
theorem dX8_needBy_13 : decode cX8_needBy 13 = .ok (.istore 4, 2) := by decide +kernel
theorem dX8_needBy_15 : decode cX8_needBy 15 = .ok (.iload_n 0, 1) := by decide +kernel
theorem dX8_needBy_16 : decode cX8_needBy 16 = .ok (.tableswitch 58 1 5 #[36, 38, 42, 45, 51], 36) := by decide +kernel
theorem dX8_needBy_52 : decode cX8_needBy 52 = .ok (.iload_n 3, 1) := by decide +kernel
theorem dX8_needBy_53 : decode cX8_needBy 53 = .ok (.ireturn, 1) := by decide +kernel
theorem dX8_needBy_54 : decode cX8_needBy 54 = .ok (.iload_n 1, 1) := by decide +kernel
theorem dX8_needBy_55 : decode cX8_needBy 55 = .ok (.iconst 4, 1) := by decide +kernel
theorem dX8_needBy_56 : decode cX8_needBy 56 = .ok (.iadd, 1) := by decide +kernel
theorem dX8_needBy_57 : decode cX8_needBy 57 = .ok (.ireturn, 1) := by decide +kernel
theorem dX8_needBy_58 : decode cX8_needBy 58 = .ok (.iload 4, 2) := by decide +kernel
theorem dX8_needBy_60 : decode cX8_needBy 60 = .ok (.ireturn, 1) := by decide +kernel
theorem dX8_needBy_61 : decode cX8_needBy 61 = .ok (.iconst 2, 1) := by decide +kernel
theorem dX8_needBy_62 : decode cX8_needBy 62 = .ok (.iload_n 1, 1) := by decide +kernel
theorem dX8_needBy_63 : decode cX8_needBy 63 = .ok (.iconst 4, 1) := by decide +kernel
theorem dX8_needBy_64 : decode cX8_needBy 64 = .ok (.iadd, 1) := by decide +kernel
theorem dX8_needBy_65 : decode cX8_needBy 65 = .ok (.imul, 1) := by decide +kernel
theorem dX8_needBy_66 : decode cX8_needBy 66 = .ok (.ireturn, 1) := by decide +kernel
theorem dX8_needBy_67 : decode cX8_needBy 67 = .ok (.iload 4, 2) := by decide +kernel
theorem dX8_needBy_69 : decode cX8_needBy 69 = .ok (.iconst 1, 1) := by decide +kernel
theorem dX8_needBy_70 : decode cX8_needBy 70 = .ok (.iadd, 1) := by decide +kernel
theorem dX8_needBy_71 : decode cX8_needBy 71 = .ok (.iconst 2, 1) := by decide +kernel
theorem dX8_needBy_72 : decode cX8_needBy 72 = .ok (.idiv, 1) := by decide +kernel
theorem dX8_needBy_73 : decode cX8_needBy 73 = .ok (.ireturn, 1) := by decide +kernel
theorem dX8_needBy_74 : decode cX8_needBy 74 = .ok (.iload_n 1, 1) := by decide +kernel
theorem dX8_needBy_75 : decode cX8_needBy 75 = .ok (.ireturn, 1) := by decide +kernel
theorem dX8_staysBy_0 : decode cX8_staysBy 0 = .ok (.iconst 0, 1) := by decide +kernel
theorem dX8_staysBy_1 : decode cX8_staysBy 1 = .ok (.istore_n 3, 1) := by decide +kernel
theorem dX8_staysBy_2 : decode cX8_staysBy 2 = .ok (.iconst 0, 1) := by decide +kernel
theorem dX8_staysBy_3 : decode cX8_staysBy 3 = .ok (.istore 4, 2) := by decide +kernel
theorem dX8_staysBy_5 : decode cX8_staysBy 5 = .ok (.iload 4, 2) := by decide +kernel
theorem dX8_staysBy_7 : decode cX8_staysBy 7 = .ok (.iconst 5, 1) := by decide +kernel
theorem dX8_staysBy_8 : decode cX8_staysBy 8 = .ok (.if_icmp .ge 31, 3) := by decide +kernel
theorem dX8_staysBy_11 : decode cX8_staysBy 11 = .ok (.iload_n 3, 1) := by decide +kernel
theorem dX8_staysBy_12 : decode cX8_staysBy 12 = .ok (.iload_n 0, 1) := by decide +kernel
theorem dX8_staysBy_13 : decode cX8_staysBy 13 = .ok (.iload_n 1, 1) := by decide +kernel
theorem dX8_staysBy_14 : decode cX8_staysBy 14 = .ok (.iload 4, 2) := by decide +kernel
theorem dX8_staysBy_16 : decode cX8_staysBy 16 = .ok (.invokestatic 132, 3) := by decide +kernel
theorem dX8_staysBy_19 : decode cX8_staysBy 19 = .ok (.iload_n 2, 1) := by decide +kernel
theorem dX8_staysBy_20 : decode cX8_staysBy 20 = .ok (.if_icmp .lt 10, 3) := by decide +kernel
theorem dX8_staysBy_23 : decode cX8_staysBy 23 = .ok (.iconst 1, 1) := by decide +kernel
theorem dX8_staysBy_24 : decode cX8_staysBy 24 = .ok (.iload 4, 2) := by decide +kernel
theorem dX8_staysBy_26 : decode cX8_staysBy 26 = .ok (.ishl, 1) := by decide +kernel
theorem dX8_staysBy_27 : decode cX8_staysBy 27 = .ok (.goto 4, 3) := by decide +kernel
theorem dX8_staysBy_30 : decode cX8_staysBy 30 = .ok (.iconst 0, 1) := by decide +kernel
theorem dX8_staysBy_31 : decode cX8_staysBy 31 = .ok (.ior, 1) := by decide +kernel
theorem dX8_staysBy_32 : decode cX8_staysBy 32 = .ok (.istore_n 3, 1) := by decide +kernel
theorem dX8_staysBy_33 : decode cX8_staysBy 33 = .ok (.iinc 4 1, 3) := by decide +kernel
theorem dX8_staysBy_36 : decode cX8_staysBy 36 = .ok (.goto (-31), 3) := by decide +kernel
theorem dX8_staysBy_39 : decode cX8_staysBy 39 = .ok (.iload_n 3, 1) := by decide +kernel
theorem dX8_staysBy_40 : decode cX8_staysBy 40 = .ok (.ireturn, 1) := by decide +kernel
theorem dX8_needOf_0 : decode cX8_needOf 0 = .ok (.aload_n 0, 1) := by decide +kernel
theorem dX8_needOf_1 : decode cX8_needOf 1 = .ok (.getfield 7, 3) := by decide +kernel
theorem dX8_needOf_4 : decode cX8_needOf 4 = .ok (.bipush 26, 2) := by decide +kernel
theorem dX8_needOf_6 : decode cX8_needOf 6 = .ok (.iload_n 1, 1) := by decide +kernel
theorem dX8_needOf_7 : decode cX8_needOf 7 = .ok (.iadd, 1) := by decide +kernel
theorem dX8_needOf_8 : decode cX8_needOf 8 = .ok (.iaload, 1) := by decide +kernel
theorem dX8_needOf_9 : decode cX8_needOf 9 = .ok (.aload_n 0, 1) := by decide +kernel
theorem dX8_needOf_10 : decode cX8_needOf 10 = .ok (.getfield 7, 3) := by decide +kernel
theorem dX8_needOf_13 : decode cX8_needOf 13 = .ok (.bipush 30, 2) := by decide +kernel
theorem dX8_needOf_15 : decode cX8_needOf 15 = .ok (.iload_n 1, 1) := by decide +kernel
theorem dX8_needOf_16 : decode cX8_needOf 16 = .ok (.iadd, 1) := by decide +kernel
theorem dX8_needOf_17 : decode cX8_needOf 17 = .ok (.iaload, 1) := by decide +kernel
theorem dX8_needOf_18 : decode cX8_needOf 18 = .ok (.iload_n 2, 1) := by decide +kernel
theorem dX8_needOf_19 : decode cX8_needOf 19 = .ok (.invokestatic 136, 3) := by decide +kernel
theorem dX8_needOf_22 : decode cX8_needOf 22 = .ok (.ireturn, 1) := by decide +kernel
theorem dX8_staysOf_0 : decode cX8_staysOf 0 = .ok (.aload_n 0, 1) := by decide +kernel
theorem dX8_staysOf_1 : decode cX8_staysOf 1 = .ok (.getfield 7, 3) := by decide +kernel
theorem dX8_staysOf_4 : decode cX8_staysOf 4 = .ok (.bipush 13, 2) := by decide +kernel
theorem dX8_staysOf_6 : decode cX8_staysOf 6 = .ok (.iload_n 1, 1) := by decide +kernel
theorem dX8_staysOf_7 : decode cX8_staysOf 7 = .ok (.iadd, 1) := by decide +kernel
theorem dX8_staysOf_8 : decode cX8_staysOf 8 = .ok (.iaload, 1) := by decide +kernel
theorem dX8_staysOf_9 : decode cX8_staysOf 9 = .ok (.aload_n 0, 1) := by decide +kernel
theorem dX8_staysOf_10 : decode cX8_staysOf 10 = .ok (.getfield 7, 3) := by decide +kernel
theorem dX8_staysOf_13 : decode cX8_staysOf 13 = .ok (.bipush 19, 2) := by decide +kernel
theorem dX8_staysOf_15 : decode cX8_staysOf 15 = .ok (.iload_n 1, 1) := by decide +kernel
theorem dX8_staysOf_16 : decode cX8_staysOf 16 = .ok (.iadd, 1) := by decide +kernel
theorem dX8_staysOf_17 : decode cX8_staysOf 17 = .ok (.iaload, 1) := by decide +kernel
theorem dX8_staysOf_18 : decode cX8_staysOf 18 = .ok (.aload_n 0, 1) := by decide +kernel
theorem dX8_staysOf_19 : decode cX8_staysOf 19 = .ok (.iload_n 2, 1) := by decide +kernel
theorem dX8_staysOf_20 : decode cX8_staysOf 20 = .ok (.iload_n 3, 1) := by decide +kernel
theorem dX8_staysOf_21 : decode cX8_staysOf 21 = .ok (.invokevirtual 139, 3) := by decide +kernel
theorem dX8_staysOf_24 : decode cX8_staysOf 24 = .ok (.invokestatic 142, 3) := by decide +kernel
theorem dX8_staysOf_27 : decode cX8_staysOf 27 = .ok (.ireturn, 1) := by decide +kernel
theorem dX8_companyIn_0 : decode cX8_companyIn 0 = .ok (.iconst 0, 1) := by decide +kernel
theorem dX8_companyIn_1 : decode cX8_companyIn 1 = .ok (.istore 4, 2) := by decide +kernel
theorem dX8_companyIn_3 : decode cX8_companyIn 3 = .ok (.iconst 0, 1) := by decide +kernel
theorem dX8_companyIn_4 : decode cX8_companyIn 4 = .ok (.istore 5, 2) := by decide +kernel
theorem dX8_companyIn_6 : decode cX8_companyIn 6 = .ok (.iconst 0, 1) := by decide +kernel
theorem dX8_companyIn_7 : decode cX8_companyIn 7 = .ok (.istore 6, 2) := by decide +kernel
theorem dX8_companyIn_9 : decode cX8_companyIn 9 = .ok (.iload 6, 2) := by decide +kernel
theorem dX8_companyIn_11 : decode cX8_companyIn 11 = .ok (.aload_n 0, 1) := by decide +kernel
theorem dX8_companyIn_12 : decode cX8_companyIn 12 = .ok (.getfield 7, 3) := by decide +kernel
theorem dX8_companyIn_15 : decode cX8_companyIn 15 = .ok (.bipush 12, 2) := by decide +kernel
theorem dX8_companyIn_17 : decode cX8_companyIn 17 = .ok (.iaload, 1) := by decide +kernel
theorem dX8_companyIn_18 : decode cX8_companyIn 18 = .ok (.if_icmp .ge 71, 3) := by decide +kernel
theorem dX8_companyIn_21 : decode cX8_companyIn 21 = .ok (.aload_n 0, 1) := by decide +kernel
theorem dX8_companyIn_22 : decode cX8_companyIn 22 = .ok (.getfield 7, 3) := by decide +kernel
theorem dX8_companyIn_25 : decode cX8_companyIn 25 = .ok (.iload_n 1, 1) := by decide +kernel
theorem dX8_companyIn_26 : decode cX8_companyIn 26 = .ok (.iconst 0, 1) := by decide +kernel
theorem dX8_companyIn_27 : decode cX8_companyIn 27 = .ok (.iadd, 1) := by decide +kernel
theorem dX8_companyIn_28 : decode cX8_companyIn 28 = .ok (.iload 6, 2) := by decide +kernel
theorem dX8_companyIn_30 : decode cX8_companyIn 30 = .ok (.iadd, 1) := by decide +kernel
theorem dX8_companyIn_31 : decode cX8_companyIn 31 = .ok (.iaload, 1) := by decide +kernel
theorem dX8_companyIn_32 : decode cX8_companyIn 32 = .ok (.iload_n 2, 1) := by decide +kernel
theorem dX8_companyIn_33 : decode cX8_companyIn 33 = .ok (.if_icmp .ne 25, 3) := by decide +kernel
theorem dX8_companyIn_36 : decode cX8_companyIn 36 = .ok (.aload_n 0, 1) := by decide +kernel
theorem dX8_companyIn_37 : decode cX8_companyIn 37 = .ok (.iload 6, 2) := by decide +kernel
theorem dX8_companyIn_39 : decode cX8_companyIn 39 = .ok (.iload_n 2, 1) := by decide +kernel
theorem dX8_companyIn_40 : decode cX8_companyIn 40 = .ok (.aload_n 0, 1) := by decide +kernel
theorem dX8_companyIn_41 : decode cX8_companyIn 41 = .ok (.getfield 7, 3) := by decide +kernel
theorem dX8_companyIn_44 : decode cX8_companyIn 44 = .ok (.iload_n 1, 1) := by decide +kernel
theorem dX8_companyIn_45 : decode cX8_companyIn 45 = .ok (.bipush 10, 2) := by decide +kernel
theorem dX8_companyIn_47 : decode cX8_companyIn 47 = .ok (.iadd, 1) := by decide +kernel
theorem dX8_companyIn_48 : decode cX8_companyIn 48 = .ok (.iaload, 1) := by decide +kernel
theorem dX8_companyIn_49 : decode cX8_companyIn 49 = .ok (.invokevirtual 145, 3) := by decide +kernel
theorem dX8_companyIn_52 : decode cX8_companyIn 52 = .ok (.invokestatic 148, 3) := by decide +kernel
theorem dX8_companyIn_55 : decode cX8_companyIn 55 = .ok (.goto 4, 3) := by decide +kernel
theorem dX8_companyIn_58 : decode cX8_companyIn 58 = .ok (.iconst 0, 1) := by decide +kernel
theorem dX8_companyIn_59 : decode cX8_companyIn 59 = .ok (.istore 7, 2) := by decide +kernel
theorem dX8_companyIn_61 : decode cX8_companyIn 61 = .ok (.iload 4, 2) := by decide +kernel
theorem dX8_companyIn_63 : decode cX8_companyIn 63 = .ok (.iload 7, 2) := by decide +kernel
theorem dX8_companyIn_65 : decode cX8_companyIn 65 = .ok (.iadd, 1) := by decide +kernel
theorem dX8_companyIn_66 : decode cX8_companyIn 66 = .ok (.istore 4, 2) := by decide +kernel
theorem dX8_companyIn_68 : decode cX8_companyIn 68 = .ok (.iload 5, 2) := by decide +kernel
theorem dX8_companyIn_70 : decode cX8_companyIn 70 = .ok (.iload 7, 2) := by decide +kernel
theorem dX8_companyIn_72 : decode cX8_companyIn 72 = .ok (.ifCond .le 7, 3) := by decide +kernel
theorem dX8_companyIn_75 : decode cX8_companyIn 75 = .ok (.iconst 1, 1) := by decide +kernel
theorem dX8_companyIn_76 : decode cX8_companyIn 76 = .ok (.goto 4, 3) := by decide +kernel
theorem dX8_companyIn_79 : decode cX8_companyIn 79 = .ok (.iconst 0, 1) := by decide +kernel
theorem dX8_companyIn_80 : decode cX8_companyIn 80 = .ok (.iadd, 1) := by decide +kernel
theorem dX8_companyIn_81 : decode cX8_companyIn 81 = .ok (.istore 5, 2) := by decide +kernel
theorem dX8_companyIn_83 : decode cX8_companyIn 83 = .ok (.iinc 6 1, 3) := by decide +kernel
theorem dX8_companyIn_86 : decode cX8_companyIn 86 = .ok (.goto (-77), 3) := by decide +kernel
theorem dX8_companyIn_89 : decode cX8_companyIn 89 = .ok (.iload_n 3, 1) := by decide +kernel
theorem dX8_companyIn_90 : decode cX8_companyIn 90 = .ok (.ifCond .ne 8, 3) := by decide +kernel
theorem dX8_companyIn_93 : decode cX8_companyIn 93 = .ok (.iload 4, 2) := by decide +kernel
theorem dX8_companyIn_95 : decode cX8_companyIn 95 = .ok (.goto 12, 3) := by decide +kernel
theorem dX8_companyIn_98 : decode cX8_companyIn 98 = .ok (.iload 5, 2) := by decide +kernel
theorem dX8_companyIn_100 : decode cX8_companyIn 100 = .ok (.iload 5, 2) := by decide +kernel
theorem dX8_companyIn_102 : decode cX8_companyIn 102 = .ok (.iconst 1, 1) := by decide +kernel
theorem dX8_companyIn_103 : decode cX8_companyIn 103 = .ok (.isub, 1) := by decide +kernel
theorem dX8_companyIn_104 : decode cX8_companyIn 104 = .ok (.imul, 1) := by decide +kernel
theorem dX8_companyIn_105 : decode cX8_companyIn 105 = .ok (.iconst 2, 1) := by decide +kernel
theorem dX8_companyIn_106 : decode cX8_companyIn 106 = .ok (.idiv, 1) := by decide +kernel
theorem dX8_companyIn_107 : decode cX8_companyIn 107 = .ok (.ireturn, 1) := by decide +kernel
theorem dX8_passes_0 : decode cX8_passes 0 = .ok (.iconst 0, 1) := by decide +kernel
theorem dX8_passes_1 : decode cX8_passes 1 = .ok (.istore_n 2, 1) := by decide +kernel
theorem dX8_passes_2 : decode cX8_passes 2 = .ok (.iload_n 2, 1) := by decide +kernel
theorem dX8_passes_3 : decode cX8_passes 3 = .ok (.aload_n 0, 1) := by decide +kernel
theorem dX8_passes_4 : decode cX8_passes 4 = .ok (.getfield 7, 3) := by decide +kernel
theorem dX8_passes_7 : decode cX8_passes 7 = .ok (.bipush 25, 2) := by decide +kernel
theorem dX8_passes_9 : decode cX8_passes 9 = .ok (.iaload, 1) := by decide +kernel
theorem dX8_passes_10 : decode cX8_passes 10 = .ok (.if_icmp .ge 64, 3) := by decide +kernel
theorem dX8_passes_13 : decode cX8_passes 13 = .ok (.aload_n 0, 1) := by decide +kernel
theorem dX8_passes_14 : decode cX8_passes 14 = .ok (.getfield 7, 3) := by decide +kernel
theorem dX8_passes_17 : decode cX8_passes 17 = .ok (.iload_n 1, 1) := by decide +kernel
theorem dX8_passes_18 : decode cX8_passes 18 = .ok (.bipush 6, 2) := by decide +kernel
theorem dX8_passes_20 : decode cX8_passes 20 = .ok (.iadd, 1) := by decide +kernel
theorem dX8_passes_21 : decode cX8_passes 21 = .ok (.iload_n 2, 1) := by decide +kernel
theorem dX8_passes_22 : decode cX8_passes 22 = .ok (.iadd, 1) := by decide +kernel
theorem dX8_passes_23 : decode cX8_passes 23 = .ok (.iaload, 1) := by decide +kernel
theorem dX8_passes_24 : decode cX8_passes 24 = .ok (.aload_n 0, 1) := by decide +kernel
theorem dX8_passes_25 : decode cX8_passes 25 = .ok (.iload_n 1, 1) := by decide +kernel
theorem dX8_passes_26 : decode cX8_passes 26 = .ok (.iload_n 2, 1) := by decide +kernel
theorem dX8_passes_27 : decode cX8_passes 27 = .ok (.iconst 0, 1) := by decide +kernel
theorem dX8_passes_28 : decode cX8_passes 28 = .ok (.invokevirtual 151, 3) := by decide +kernel
theorem dX8_passes_31 : decode cX8_passes 31 = .ok (.iadd, 1) := by decide +kernel
theorem dX8_passes_32 : decode cX8_passes 32 = .ok (.iconst 2, 1) := by decide +kernel
theorem dX8_passes_33 : decode cX8_passes 33 = .ok (.aload_n 0, 1) := by decide +kernel
theorem dX8_passes_34 : decode cX8_passes 34 = .ok (.iload_n 1, 1) := by decide +kernel
theorem dX8_passes_35 : decode cX8_passes 35 = .ok (.iload_n 2, 1) := by decide +kernel
theorem dX8_passes_36 : decode cX8_passes 36 = .ok (.iconst 1, 1) := by decide +kernel
theorem dX8_passes_37 : decode cX8_passes 37 = .ok (.invokevirtual 151, 3) := by decide +kernel
theorem dX8_passes_40 : decode cX8_passes 40 = .ok (.imul, 1) := by decide +kernel
theorem dX8_passes_41 : decode cX8_passes 41 = .ok (.iadd, 1) := by decide +kernel
theorem dX8_passes_42 : decode cX8_passes 42 = .ok (.istore_n 3, 1) := by decide +kernel
theorem dX8_passes_43 : decode cX8_passes 43 = .ok (.aload_n 0, 1) := by decide +kernel
theorem dX8_passes_44 : decode cX8_passes 44 = .ok (.getfield 7, 3) := by decide +kernel
theorem dX8_passes_47 : decode cX8_passes 47 = .ok (.iload_n 1, 1) := by decide +kernel
theorem dX8_passes_48 : decode cX8_passes 48 = .ok (.bipush 6, 2) := by decide +kernel
theorem dX8_passes_50 : decode cX8_passes 50 = .ok (.iadd, 1) := by decide +kernel
theorem dX8_passes_51 : decode cX8_passes 51 = .ok (.iload_n 2, 1) := by decide +kernel
theorem dX8_passes_52 : decode cX8_passes 52 = .ok (.iadd, 1) := by decide +kernel
theorem dX8_passes_53 : decode cX8_passes 53 = .ok (.iload_n 3, 1) := by decide +kernel
theorem dX8_passes_54 : decode cX8_passes 54 = .ok (.sipush 9999, 3) := by decide +kernel
theorem dX8_passes_57 : decode cX8_passes 57 = .ok (.if_icmp .le 9, 3) := by decide +kernel
theorem dX8_passes_60 : decode cX8_passes 60 = .ok (.sipush 9999, 3) := by decide +kernel
theorem dX8_passes_63 : decode cX8_passes 63 = .ok (.goto 4, 3) := by decide +kernel
theorem dX8_passes_66 : decode cX8_passes 66 = .ok (.iload_n 3, 1) := by decide +kernel
theorem dX8_passes_67 : decode cX8_passes 67 = .ok (.iastore, 1) := by decide +kernel
theorem dX8_passes_68 : decode cX8_passes 68 = .ok (.iinc 2 1, 3) := by decide +kernel
theorem dX8_passes_71 : decode cX8_passes 71 = .ok (.goto (-69), 3) := by decide +kernel
theorem dX8_passes_74 : decode cX8_passes 74 = .ok (.aload_n 0, 1) := by decide +kernel
theorem dX8_passes_75 : decode cX8_passes 75 = .ok (.getfield 7, 3) := by decide +kernel
theorem dX8_passes_78 : decode cX8_passes 78 = .ok (.iload_n 1, 1) := by decide +kernel
theorem dX8_passes_79 : decode cX8_passes 79 = .ok (.bipush 11, 2) := by decide +kernel
theorem dX8_passes_81 : decode cX8_passes 81 = .ok (.iadd, 1) := by decide +kernel
theorem dX8_passes_82 : decode cX8_passes 82 = .ok (.dup2, 1) := by decide +kernel
theorem dX8_passes_83 : decode cX8_passes 83 = .ok (.iaload, 1) := by decide +kernel
theorem dX8_passes_84 : decode cX8_passes 84 = .ok (.iconst 1, 1) := by decide +kernel
theorem dX8_passes_85 : decode cX8_passes 85 = .ok (.iadd, 1) := by decide +kernel
theorem dX8_passes_86 : decode cX8_passes 86 = .ok (.iastore, 1) := by decide +kernel
theorem dX8_passes_87 : decode cX8_passes 87 = .ok (.return_, 1) := by decide +kernel
theorem dX8_goBy_0 : decode cX8_goBy 0 = .ok (.iconst 0, 1) := by decide +kernel
theorem dX8_goBy_1 : decode cX8_goBy 1 = .ok (.istore_n 2, 1) := by decide +kernel
theorem dX8_goBy_2 : decode cX8_goBy 2 = .ok (.iload_n 2, 1) := by decide +kernel
theorem dX8_goBy_3 : decode cX8_goBy 3 = .ok (.iload_n 1, 1) := by decide +kernel
theorem dX8_goBy_4 : decode cX8_goBy 4 = .ok (.if_icmp .ge 27, 3) := by decide +kernel
theorem dX8_goBy_7 : decode cX8_goBy 7 = .ok (.aload_n 0, 1) := by decide +kernel
theorem dX8_goBy_8 : decode cX8_goBy 8 = .ok (.getfield 7, 3) := by decide +kernel
theorem dX8_goBy_11 : decode cX8_goBy 11 = .ok (.bipush 11, 2) := by decide +kernel
theorem dX8_goBy_13 : decode cX8_goBy 13 = .ok (.iaload, 1) := by decide +kernel
theorem dX8_goBy_14 : decode cX8_goBy 14 = .ok (.sipush 999, 3) := by decide +kernel
theorem dX8_goBy_17 : decode cX8_goBy 17 = .ok (.if_icmp .ge 14, 3) := by decide +kernel
theorem dX8_goBy_20 : decode cX8_goBy 20 = .ok (.aload_n 0, 1) := by decide +kernel
theorem dX8_goBy_21 : decode cX8_goBy 21 = .ok (.iconst 0, 1) := by decide +kernel
theorem dX8_goBy_22 : decode cX8_goBy 22 = .ok (.invokevirtual 154, 3) := by decide +kernel
theorem dX8_goBy_25 : decode cX8_goBy 25 = .ok (.iinc 2 1, 3) := by decide +kernel
theorem dX8_goBy_28 : decode cX8_goBy 28 = .ok (.goto (-26), 3) := by decide +kernel
theorem dX8_goBy_31 : decode cX8_goBy 31 = .ok (.return_, 1) := by decide +kernel
theorem dX8_allLiking_0 : decode cX8_allLiking 0 = .ok (.iconst 0, 1) := by decide +kernel
theorem dX8_allLiking_1 : decode cX8_allLiking 1 = .ok (.istore_n 2, 1) := by decide +kernel
theorem dX8_allLiking_2 : decode cX8_allLiking 2 = .ok (.iconst 0, 1) := by decide +kernel
theorem dX8_allLiking_3 : decode cX8_allLiking 3 = .ok (.istore_n 3, 1) := by decide +kernel
theorem dX8_allLiking_4 : decode cX8_allLiking 4 = .ok (.iload_n 3, 1) := by decide +kernel
theorem dX8_allLiking_5 : decode cX8_allLiking 5 = .ok (.iconst 4, 1) := by decide +kernel
theorem dX8_allLiking_6 : decode cX8_allLiking 6 = .ok (.if_icmp .ge 23, 3) := by decide +kernel
theorem dX8_allLiking_9 : decode cX8_allLiking 9 = .ok (.iload_n 2, 1) := by decide +kernel
theorem dX8_allLiking_10 : decode cX8_allLiking 10 = .ok (.aload_n 0, 1) := by decide +kernel
theorem dX8_allLiking_11 : decode cX8_allLiking 11 = .ok (.getfield 7, 3) := by decide +kernel
theorem dX8_allLiking_14 : decode cX8_allLiking 14 = .ok (.iload_n 1, 1) := by decide +kernel
theorem dX8_allLiking_15 : decode cX8_allLiking 15 = .ok (.bipush 6, 2) := by decide +kernel
theorem dX8_allLiking_17 : decode cX8_allLiking 17 = .ok (.iadd, 1) := by decide +kernel
theorem dX8_allLiking_18 : decode cX8_allLiking 18 = .ok (.iload_n 3, 1) := by decide +kernel
theorem dX8_allLiking_19 : decode cX8_allLiking 19 = .ok (.iadd, 1) := by decide +kernel
theorem dX8_allLiking_20 : decode cX8_allLiking 20 = .ok (.iaload, 1) := by decide +kernel
theorem dX8_allLiking_21 : decode cX8_allLiking 21 = .ok (.iadd, 1) := by decide +kernel
theorem dX8_allLiking_22 : decode cX8_allLiking 22 = .ok (.istore_n 2, 1) := by decide +kernel
theorem dX8_allLiking_23 : decode cX8_allLiking 23 = .ok (.iinc 3 1, 3) := by decide +kernel
theorem dX8_allLiking_26 : decode cX8_allLiking 26 = .ok (.goto (-22), 3) := by decide +kernel
theorem dX8_allLiking_29 : decode cX8_allLiking 29 = .ok (.iload_n 2, 1) := by decide +kernel
theorem dX8_allLiking_30 : decode cX8_allLiking 30 = .ok (.ireturn, 1) := by decide +kernel
theorem dX8_keepPast_0 : decode cX8_keepPast 0 = .ok (.aload_n 0, 1) := by decide +kernel
theorem dX8_keepPast_1 : decode cX8_keepPast 1 = .ok (.getfield 7, 3) := by decide +kernel
theorem dX8_keepPast_4 : decode cX8_keepPast 4 = .ok (.bipush 111, 2) := by decide +kernel
theorem dX8_keepPast_6 : decode cX8_keepPast 6 = .ok (.iaload, 1) := by decide +kernel
theorem dX8_keepPast_7 : decode cX8_keepPast 7 = .ok (.bipush 8, 2) := by decide +kernel
theorem dX8_keepPast_9 : decode cX8_keepPast 9 = .ok (.if_icmp .ne 46, 3) := by decide +kernel
theorem dX8_keepPast_12 : decode cX8_keepPast 12 = .ok (.iconst 0, 1) := by decide +kernel
theorem dX8_keepPast_13 : decode cX8_keepPast 13 = .ok (.istore_n 1, 1) := by decide +kernel
theorem dX8_keepPast_14 : decode cX8_keepPast 14 = .ok (.iload_n 1, 1) := by decide +kernel
theorem dX8_keepPast_15 : decode cX8_keepPast 15 = .ok (.bipush 84, 2) := by decide +kernel
theorem dX8_keepPast_17 : decode cX8_keepPast 17 = .ok (.if_icmp .ge 27, 3) := by decide +kernel
theorem dX8_keepPast_20 : decode cX8_keepPast 20 = .ok (.aload_n 0, 1) := by decide +kernel
theorem dX8_keepPast_21 : decode cX8_keepPast 21 = .ok (.getfield 7, 3) := by decide +kernel
theorem dX8_keepPast_24 : decode cX8_keepPast 24 = .ok (.bipush 112, 2) := by decide +kernel
theorem dX8_keepPast_26 : decode cX8_keepPast 26 = .ok (.iload_n 1, 1) := by decide +kernel
theorem dX8_keepPast_27 : decode cX8_keepPast 27 = .ok (.iadd, 1) := by decide +kernel
theorem dX8_keepPast_28 : decode cX8_keepPast 28 = .ok (.aload_n 0, 1) := by decide +kernel
theorem dX8_keepPast_29 : decode cX8_keepPast 29 = .ok (.getfield 7, 3) := by decide +kernel
theorem dX8_keepPast_32 : decode cX8_keepPast 32 = .ok (.bipush 124, 2) := by decide +kernel
theorem dX8_keepPast_34 : decode cX8_keepPast 34 = .ok (.iload_n 1, 1) := by decide +kernel
theorem dX8_keepPast_35 : decode cX8_keepPast 35 = .ok (.iadd, 1) := by decide +kernel
theorem dX8_keepPast_36 : decode cX8_keepPast 36 = .ok (.iaload, 1) := by decide +kernel
theorem dX8_keepPast_37 : decode cX8_keepPast 37 = .ok (.iastore, 1) := by decide +kernel
theorem dX8_keepPast_38 : decode cX8_keepPast 38 = .ok (.iinc 1 1, 3) := by decide +kernel
theorem dX8_keepPast_41 : decode cX8_keepPast 41 = .ok (.goto (-27), 3) := by decide +kernel
theorem dX8_keepPast_44 : decode cX8_keepPast 44 = .ok (.aload_n 0, 1) := by decide +kernel
theorem dX8_keepPast_45 : decode cX8_keepPast 45 = .ok (.getfield 7, 3) := by decide +kernel
theorem dX8_keepPast_48 : decode cX8_keepPast 48 = .ok (.bipush 111, 2) := by decide +kernel
theorem dX8_keepPast_50 : decode cX8_keepPast 50 = .ok (.dup2, 1) := by decide +kernel
theorem dX8_keepPast_51 : decode cX8_keepPast 51 = .ok (.iaload, 1) := by decide +kernel
theorem dX8_keepPast_52 : decode cX8_keepPast 52 = .ok (.iconst 1, 1) := by decide +kernel
theorem dX8_keepPast_53 : decode cX8_keepPast 53 = .ok (.isub, 1) := by decide +kernel
theorem dX8_keepPast_54 : decode cX8_keepPast 54 = .ok (.iastore, 1) := by decide +kernel
theorem dX8_keepPast_55 : decode cX8_keepPast 55 = .ok (.iconst 0, 1) := by decide +kernel
theorem dX8_keepPast_56 : decode cX8_keepPast 56 = .ok (.istore_n 1, 1) := by decide +kernel
theorem dX8_keepPast_57 : decode cX8_keepPast 57 = .ok (.iload_n 1, 1) := by decide +kernel
theorem dX8_keepPast_58 : decode cX8_keepPast 58 = .ok (.bipush 12, 2) := by decide +kernel
theorem dX8_keepPast_60 : decode cX8_keepPast 60 = .ok (.if_icmp .ge 35, 3) := by decide +kernel
theorem dX8_keepPast_63 : decode cX8_keepPast 63 = .ok (.aload_n 0, 1) := by decide +kernel
theorem dX8_keepPast_64 : decode cX8_keepPast 64 = .ok (.getfield 7, 3) := by decide +kernel
theorem dX8_keepPast_67 : decode cX8_keepPast 67 = .ok (.bipush 112, 2) := by decide +kernel
theorem dX8_keepPast_69 : decode cX8_keepPast 69 = .ok (.bipush 12, 2) := by decide +kernel
theorem dX8_keepPast_71 : decode cX8_keepPast 71 = .ok (.aload_n 0, 1) := by decide +kernel
theorem dX8_keepPast_72 : decode cX8_keepPast 72 = .ok (.getfield 7, 3) := by decide +kernel
theorem dX8_keepPast_75 : decode cX8_keepPast 75 = .ok (.bipush 111, 2) := by decide +kernel
theorem dX8_keepPast_77 : decode cX8_keepPast 77 = .ok (.iaload, 1) := by decide +kernel
theorem dX8_keepPast_78 : decode cX8_keepPast 78 = .ok (.imul, 1) := by decide +kernel
theorem dX8_keepPast_79 : decode cX8_keepPast 79 = .ok (.iadd, 1) := by decide +kernel
theorem dX8_keepPast_80 : decode cX8_keepPast 80 = .ok (.iload_n 1, 1) := by decide +kernel
theorem dX8_keepPast_81 : decode cX8_keepPast 81 = .ok (.iadd, 1) := by decide +kernel
theorem dX8_keepPast_82 : decode cX8_keepPast 82 = .ok (.aload_n 0, 1) := by decide +kernel
theorem dX8_keepPast_83 : decode cX8_keepPast 83 = .ok (.getfield 7, 3) := by decide +kernel
theorem dX8_keepPast_86 : decode cX8_keepPast 86 = .ok (.iload_n 1, 1) := by decide +kernel
theorem dX8_keepPast_87 : decode cX8_keepPast 87 = .ok (.iaload, 1) := by decide +kernel
theorem dX8_keepPast_88 : decode cX8_keepPast 88 = .ok (.iastore, 1) := by decide +kernel
theorem dX8_keepPast_89 : decode cX8_keepPast 89 = .ok (.iinc 1 1, 3) := by decide +kernel
theorem dX8_keepPast_92 : decode cX8_keepPast 92 = .ok (.goto (-35), 3) := by decide +kernel
theorem dX8_keepPast_95 : decode cX8_keepPast 95 = .ok (.aload_n 0, 1) := by decide +kernel
theorem dX8_keepPast_96 : decode cX8_keepPast 96 = .ok (.getfield 7, 3) := by decide +kernel
theorem dX8_keepPast_99 : decode cX8_keepPast 99 = .ok (.bipush 111, 2) := by decide +kernel
theorem dX8_keepPast_101 : decode cX8_keepPast 101 = .ok (.dup2, 1) := by decide +kernel
theorem dX8_keepPast_102 : decode cX8_keepPast 102 = .ok (.iaload, 1) := by decide +kernel
theorem dX8_keepPast_103 : decode cX8_keepPast 103 = .ok (.iconst 1, 1) := by decide +kernel
theorem dX8_keepPast_104 : decode cX8_keepPast 104 = .ok (.iadd, 1) := by decide +kernel
theorem dX8_keepPast_105 : decode cX8_keepPast 105 = .ok (.iastore, 1) := by decide +kernel
theorem dX8_keepPast_106 : decode cX8_keepPast 106 = .ok (.return_, 1) := by decide +kernel
theorem dX8_isGuest_0 : decode cX8_isGuest 0 = .ok (.iload_n 1, 1) := by decide +kernel
theorem dX8_isGuest_1 : decode cX8_isGuest 1 = .ok (.iconst 0, 1) := by decide +kernel
theorem dX8_isGuest_2 : decode cX8_isGuest 2 = .ok (.aload_n 0, 1) := by decide +kernel
theorem dX8_isGuest_3 : decode cX8_isGuest 3 = .ok (.getfield 7, 3) := by decide +kernel
theorem dX8_isGuest_6 : decode cX8_isGuest 6 = .ok (.bipush 12, 2) := by decide +kernel
theorem dX8_isGuest_8 : decode cX8_isGuest 8 = .ok (.iaload, 1) := by decide +kernel
theorem dX8_isGuest_9 : decode cX8_isGuest 9 = .ok (.iconst 1, 1) := by decide +kernel
theorem dX8_isGuest_10 : decode cX8_isGuest 10 = .ok (.isub, 1) := by decide +kernel
theorem dX8_isGuest_11 : decode cX8_isGuest 11 = .ok (.invokestatic 49, 3) := by decide +kernel
theorem dX8_isGuest_14 : decode cX8_isGuest 14 = .ok (.ireturn, 1) := by decide +kernel
theorem dX8_isHouse_0 : decode cX8_isHouse 0 = .ok (.iload_n 1, 1) := by decide +kernel
theorem dX8_isHouse_1 : decode cX8_isHouse 1 = .ok (.iconst 0, 1) := by decide +kernel
theorem dX8_isHouse_2 : decode cX8_isHouse 2 = .ok (.aload_n 0, 1) := by decide +kernel
theorem dX8_isHouse_3 : decode cX8_isHouse 3 = .ok (.getfield 7, 3) := by decide +kernel
theorem dX8_isHouse_6 : decode cX8_isHouse 6 = .ok (.bipush 25, 2) := by decide +kernel
theorem dX8_isHouse_8 : decode cX8_isHouse 8 = .ok (.iaload, 1) := by decide +kernel
theorem dX8_isHouse_9 : decode cX8_isHouse 9 = .ok (.iconst 1, 1) := by decide +kernel
theorem dX8_isHouse_10 : decode cX8_isHouse 10 = .ok (.isub, 1) := by decide +kernel
theorem dX8_isHouse_11 : decode cX8_isHouse 11 = .ok (.invokestatic 49, 3) := by decide +kernel
theorem dX8_isHouse_14 : decode cX8_isHouse 14 = .ok (.ireturn, 1) := by decide +kernel
theorem dX8_calls_0 : decode cX8_calls 0 = .ok (.aload_n 0, 1) := by decide +kernel
theorem dX8_calls_1 : decode cX8_calls 1 = .ok (.iload_n 1, 1) := by decide +kernel
theorem dX8_calls_2 : decode cX8_calls 2 = .ok (.invokevirtual 157, 3) := by decide +kernel
theorem dX8_calls_5 : decode cX8_calls 5 = .ok (.ifCond .eq 11, 3) := by decide +kernel
theorem dX8_calls_8 : decode cX8_calls 8 = .ok (.aload_n 0, 1) := by decide +kernel
theorem dX8_calls_9 : decode cX8_calls 9 = .ok (.iload_n 2, 1) := by decide +kernel
theorem dX8_calls_10 : decode cX8_calls 10 = .ok (.invokevirtual 160, 3) := by decide +kernel
theorem dX8_calls_13 : decode cX8_calls 13 = .ok (.ifCond .ne 10, 3) := by decide +kernel
theorem dX8_calls_16 : decode cX8_calls 16 = .ok (.aload_n 0, 1) := by decide +kernel
theorem dX8_calls_17 : decode cX8_calls 17 = .ok (.bipush (-2), 2) := by decide +kernel
theorem dX8_calls_19 : decode cX8_calls 19 = .ok (.invokevirtual 45, 3) := by decide +kernel
theorem dX8_calls_22 : decode cX8_calls 22 = .ok (.ireturn, 1) := by decide +kernel
theorem dX8_calls_23 : decode cX8_calls 23 = .ok (.aload_n 0, 1) := by decide +kernel
theorem dX8_calls_24 : decode cX8_calls 24 = .ok (.getfield 7, 3) := by decide +kernel
theorem dX8_calls_27 : decode cX8_calls 27 = .ok (.iconst 0, 1) := by decide +kernel
theorem dX8_calls_28 : decode cX8_calls 28 = .ok (.iload_n 1, 1) := by decide +kernel
theorem dX8_calls_29 : decode cX8_calls 29 = .ok (.iadd, 1) := by decide +kernel
theorem dX8_calls_30 : decode cX8_calls 30 = .ok (.iaload, 1) := by decide +kernel
theorem dX8_calls_31 : decode cX8_calls 31 = .ok (.iload_n 2, 1) := by decide +kernel
theorem dX8_calls_32 : decode cX8_calls 32 = .ok (.if_icmp .ne 10, 3) := by decide +kernel
theorem dX8_calls_35 : decode cX8_calls 35 = .ok (.aload_n 0, 1) := by decide +kernel
theorem dX8_calls_36 : decode cX8_calls 36 = .ok (.bipush (-3), 2) := by decide +kernel
theorem dX8_calls_38 : decode cX8_calls 38 = .ok (.invokevirtual 45, 3) := by decide +kernel
theorem dX8_calls_41 : decode cX8_calls 41 = .ok (.ireturn, 1) := by decide +kernel
theorem dX8_calls_42 : decode cX8_calls 42 = .ok (.aload_n 0, 1) := by decide +kernel
theorem dX8_calls_43 : decode cX8_calls 43 = .ok (.invokevirtual 163, 3) := by decide +kernel
theorem dX8_calls_46 : decode cX8_calls 46 = .ok (.aload_n 0, 1) := by decide +kernel
theorem dX8_calls_47 : decode cX8_calls 47 = .ok (.getfield 7, 3) := by decide +kernel
theorem dX8_calls_50 : decode cX8_calls 50 = .ok (.iconst 0, 1) := by decide +kernel
theorem dX8_calls_51 : decode cX8_calls 51 = .ok (.iload_n 1, 1) := by decide +kernel
theorem dX8_calls_52 : decode cX8_calls 52 = .ok (.iadd, 1) := by decide +kernel
theorem dX8_calls_53 : decode cX8_calls 53 = .ok (.iload_n 2, 1) := by decide +kernel
theorem dX8_calls_54 : decode cX8_calls 54 = .ok (.iastore, 1) := by decide +kernel
theorem dX8_calls_55 : decode cX8_calls 55 = .ok (.aload_n 0, 1) := by decide +kernel
theorem dX8_calls_56 : decode cX8_calls 56 = .ok (.iload_n 1, 1) := by decide +kernel
theorem dX8_calls_57 : decode cX8_calls 57 = .ok (.iload_n 2, 1) := by decide +kernel
theorem dX8_calls_58 : decode cX8_calls 58 = .ok (.aload_n 0, 1) := by decide +kernel
theorem dX8_calls_59 : decode cX8_calls 59 = .ok (.getfield 7, 3) := by decide +kernel
theorem dX8_calls_62 : decode cX8_calls 62 = .ok (.bipush 10, 2) := by decide +kernel
theorem dX8_calls_64 : decode cX8_calls 64 = .ok (.iaload, 1) := by decide +kernel
theorem dX8_calls_65 : decode cX8_calls 65 = .ok (.invokevirtual 145, 3) := by decide +kernel
theorem dX8_calls_68 : decode cX8_calls 68 = .ok (.ireturn, 1) := by decide +kernel
theorem dX8_leaves_0 : decode cX8_leaves 0 = .ok (.aload_n 0, 1) := by decide +kernel
theorem dX8_leaves_1 : decode cX8_leaves 1 = .ok (.iload_n 1, 1) := by decide +kernel
theorem dX8_leaves_2 : decode cX8_leaves 2 = .ok (.invokevirtual 157, 3) := by decide +kernel
theorem dX8_leaves_5 : decode cX8_leaves 5 = .ok (.ifCond .ne 10, 3) := by decide +kernel
theorem dX8_leaves_8 : decode cX8_leaves 8 = .ok (.aload_n 0, 1) := by decide +kernel
theorem dX8_leaves_9 : decode cX8_leaves 9 = .ok (.bipush (-2), 2) := by decide +kernel
theorem dX8_leaves_11 : decode cX8_leaves 11 = .ok (.invokevirtual 45, 3) := by decide +kernel
theorem dX8_leaves_14 : decode cX8_leaves 14 = .ok (.ireturn, 1) := by decide +kernel
theorem dX8_leaves_15 : decode cX8_leaves 15 = .ok (.aload_n 0, 1) := by decide +kernel
theorem dX8_leaves_16 : decode cX8_leaves 16 = .ok (.getfield 7, 3) := by decide +kernel
theorem dX8_leaves_19 : decode cX8_leaves 19 = .ok (.iconst 0, 1) := by decide +kernel
theorem dX8_leaves_20 : decode cX8_leaves 20 = .ok (.iload_n 1, 1) := by decide +kernel
theorem dX8_leaves_21 : decode cX8_leaves 21 = .ok (.iadd, 1) := by decide +kernel
theorem dX8_leaves_22 : decode cX8_leaves 22 = .ok (.iaload, 1) := by decide +kernel
theorem dX8_leaves_23 : decode cX8_leaves 23 = .ok (.istore_n 2, 1) := by decide +kernel
theorem dX8_leaves_24 : decode cX8_leaves 24 = .ok (.iload_n 2, 1) := by decide +kernel
theorem dX8_leaves_25 : decode cX8_leaves 25 = .ok (.iconst (-1), 1) := by decide +kernel
theorem dX8_leaves_26 : decode cX8_leaves 26 = .ok (.if_icmp .ne 10, 3) := by decide +kernel
theorem dX8_leaves_29 : decode cX8_leaves 29 = .ok (.aload_n 0, 1) := by decide +kernel
theorem dX8_leaves_30 : decode cX8_leaves 30 = .ok (.bipush (-3), 2) := by decide +kernel
theorem dX8_leaves_32 : decode cX8_leaves 32 = .ok (.invokevirtual 45, 3) := by decide +kernel
theorem dX8_leaves_35 : decode cX8_leaves 35 = .ok (.ireturn, 1) := by decide +kernel
theorem dX8_leaves_36 : decode cX8_leaves 36 = .ok (.aload_n 0, 1) := by decide +kernel
theorem dX8_leaves_37 : decode cX8_leaves 37 = .ok (.invokevirtual 163, 3) := by decide +kernel
theorem dX8_leaves_40 : decode cX8_leaves 40 = .ok (.aload_n 0, 1) := by decide +kernel
theorem dX8_leaves_41 : decode cX8_leaves 41 = .ok (.getfield 7, 3) := by decide +kernel
theorem dX8_leaves_44 : decode cX8_leaves 44 = .ok (.iconst 0, 1) := by decide +kernel
theorem dX8_leaves_45 : decode cX8_leaves 45 = .ok (.iload_n 1, 1) := by decide +kernel
theorem dX8_leaves_46 : decode cX8_leaves 46 = .ok (.iadd, 1) := by decide +kernel
theorem dX8_leaves_47 : decode cX8_leaves 47 = .ok (.iconst (-1), 1) := by decide +kernel
theorem dX8_leaves_48 : decode cX8_leaves 48 = .ok (.iastore, 1) := by decide +kernel
theorem dX8_leaves_49 : decode cX8_leaves 49 = .ok (.iload_n 2, 1) := by decide +kernel
theorem dX8_leaves_50 : decode cX8_leaves 50 = .ok (.ireturn, 1) := by decide +kernel
theorem dX8_wets_0 : decode cX8_wets 0 = .ok (.iload_n 1, 1) := by decide +kernel
theorem dX8_wets_1 : decode cX8_wets 1 = .ok (.iconst 0, 1) := by decide +kernel
theorem dX8_wets_2 : decode cX8_wets 2 = .ok (.iconst 4, 1) := by decide +kernel
theorem dX8_wets_3 : decode cX8_wets 3 = .ok (.invokestatic 49, 3) := by decide +kernel
theorem dX8_wets_6 : decode cX8_wets 6 = .ok (.ifCond .ne 10, 3) := by decide +kernel
theorem dX8_wets_9 : decode cX8_wets 9 = .ok (.aload_n 0, 1) := by decide +kernel
theorem dX8_wets_10 : decode cX8_wets 10 = .ok (.bipush (-2), 2) := by decide +kernel
theorem dX8_wets_12 : decode cX8_wets 12 = .ok (.invokevirtual 45, 3) := by decide +kernel
theorem dX8_wets_15 : decode cX8_wets 15 = .ok (.ireturn, 1) := by decide +kernel
theorem dX8_wets_16 : decode cX8_wets 16 = .ok (.aload_n 0, 1) := by decide +kernel
theorem dX8_wets_17 : decode cX8_wets 17 = .ok (.getfield 7, 3) := by decide +kernel
theorem dX8_wets_20 : decode cX8_wets 20 = .ok (.bipush 10, 2) := by decide +kernel
theorem dX8_wets_22 : decode cX8_wets 22 = .ok (.iaload, 1) := by decide +kernel
theorem dX8_wets_23 : decode cX8_wets 23 = .ok (.istore_n 2, 1) := by decide +kernel
theorem dX8_wets_24 : decode cX8_wets 24 = .ok (.iload_n 2, 1) := by decide +kernel
theorem dX8_wets_25 : decode cX8_wets 25 = .ok (.iload_n 1, 1) := by decide +kernel
theorem dX8_wets_26 : decode cX8_wets 26 = .ok (.if_icmp .ne 10, 3) := by decide +kernel
theorem dX8_wets_29 : decode cX8_wets 29 = .ok (.aload_n 0, 1) := by decide +kernel
theorem dX8_wets_30 : decode cX8_wets 30 = .ok (.bipush (-3), 2) := by decide +kernel
theorem dX8_wets_32 : decode cX8_wets 32 = .ok (.invokevirtual 45, 3) := by decide +kernel
theorem dX8_wets_35 : decode cX8_wets 35 = .ok (.ireturn, 1) := by decide +kernel
theorem dX8_wets_36 : decode cX8_wets 36 = .ok (.aload_n 0, 1) := by decide +kernel
theorem dX8_wets_37 : decode cX8_wets 37 = .ok (.invokevirtual 163, 3) := by decide +kernel
theorem dX8_wets_40 : decode cX8_wets 40 = .ok (.aload_n 0, 1) := by decide +kernel
theorem dX8_wets_41 : decode cX8_wets 41 = .ok (.getfield 7, 3) := by decide +kernel
theorem dX8_wets_44 : decode cX8_wets 44 = .ok (.bipush 10, 2) := by decide +kernel
theorem dX8_wets_46 : decode cX8_wets 46 = .ok (.iload_n 1, 1) := by decide +kernel
theorem dX8_wets_47 : decode cX8_wets 47 = .ok (.iastore, 1) := by decide +kernel
theorem dX8_wets_48 : decode cX8_wets 48 = .ok (.iload_n 2, 1) := by decide +kernel
theorem dX8_wets_49 : decode cX8_wets 49 = .ok (.ireturn, 1) := by decide +kernel
theorem dX8_evenings_0 : decode cX8_evenings 0 = .ok (.iload_n 1, 1) := by decide +kernel
theorem dX8_evenings_1 : decode cX8_evenings 1 = .ok (.iconst 1, 1) := by decide +kernel
theorem dX8_evenings_2 : decode cX8_evenings 2 = .ok (.bipush 60, 2) := by decide +kernel
theorem dX8_evenings_4 : decode cX8_evenings 4 = .ok (.invokestatic 49, 3) := by decide +kernel
theorem dX8_evenings_7 : decode cX8_evenings 7 = .ok (.ifCond .ne 10, 3) := by decide +kernel
theorem dX8_evenings_10 : decode cX8_evenings 10 = .ok (.aload_n 0, 1) := by decide +kernel
theorem dX8_evenings_11 : decode cX8_evenings 11 = .ok (.bipush (-2), 2) := by decide +kernel
theorem dX8_evenings_13 : decode cX8_evenings 13 = .ok (.invokevirtual 45, 3) := by decide +kernel
theorem dX8_evenings_16 : decode cX8_evenings 16 = .ok (.ireturn, 1) := by decide +kernel
theorem dX8_evenings_17 : decode cX8_evenings 17 = .ok (.aload_n 0, 1) := by decide +kernel
theorem dX8_evenings_18 : decode cX8_evenings 18 = .ok (.invokevirtual 163, 3) := by decide +kernel
theorem dX8_evenings_21 : decode cX8_evenings 21 = .ok (.aload_n 0, 1) := by decide +kernel
theorem dX8_evenings_22 : decode cX8_evenings 22 = .ok (.iload_n 1, 1) := by decide +kernel
theorem dX8_evenings_23 : decode cX8_evenings 23 = .ok (.invokevirtual 115, 3) := by decide +kernel
theorem dX8_evenings_26 : decode cX8_evenings 26 = .ok (.aload_n 0, 1) := by decide +kernel
theorem dX8_evenings_27 : decode cX8_evenings 27 = .ok (.iconst 0, 1) := by decide +kernel
theorem dX8_evenings_28 : decode cX8_evenings 28 = .ok (.invokevirtual 166, 3) := by decide +kernel
theorem dX8_evenings_31 : decode cX8_evenings 31 = .ok (.ireturn, 1) := by decide +kernel
theorem dX8_undo_0 : decode cX8_undo 0 = .ok (.aload_n 0, 1) := by decide +kernel
theorem dX8_undo_1 : decode cX8_undo 1 = .ok (.getfield 7, 3) := by decide +kernel
theorem dX8_undo_4 : decode cX8_undo 4 = .ok (.bipush 111, 2) := by decide +kernel
theorem dX8_undo_6 : decode cX8_undo 6 = .ok (.iaload, 1) := by decide +kernel
theorem dX8_undo_7 : decode cX8_undo 7 = .ok (.ifCond .ne 10, 3) := by decide +kernel
theorem dX8_undo_10 : decode cX8_undo 10 = .ok (.aload_n 0, 1) := by decide +kernel
theorem dX8_undo_11 : decode cX8_undo 11 = .ok (.bipush (-3), 2) := by decide +kernel
theorem dX8_undo_13 : decode cX8_undo 13 = .ok (.invokevirtual 45, 3) := by decide +kernel
theorem dX8_undo_16 : decode cX8_undo 16 = .ok (.ireturn, 1) := by decide +kernel
theorem dX8_undo_17 : decode cX8_undo 17 = .ok (.aload_n 0, 1) := by decide +kernel
theorem dX8_undo_18 : decode cX8_undo 18 = .ok (.getfield 7, 3) := by decide +kernel
theorem dX8_undo_21 : decode cX8_undo 21 = .ok (.bipush 111, 2) := by decide +kernel
theorem dX8_undo_23 : decode cX8_undo 23 = .ok (.dup2, 1) := by decide +kernel
theorem dX8_undo_24 : decode cX8_undo 24 = .ok (.iaload, 1) := by decide +kernel
theorem dX8_undo_25 : decode cX8_undo 25 = .ok (.iconst 1, 1) := by decide +kernel
theorem dX8_undo_26 : decode cX8_undo 26 = .ok (.isub, 1) := by decide +kernel
theorem dX8_undo_27 : decode cX8_undo 27 = .ok (.iastore, 1) := by decide +kernel
theorem dX8_undo_28 : decode cX8_undo 28 = .ok (.iconst 0, 1) := by decide +kernel
theorem dX8_undo_29 : decode cX8_undo 29 = .ok (.istore_n 1, 1) := by decide +kernel
theorem dX8_undo_30 : decode cX8_undo 30 = .ok (.iload_n 1, 1) := by decide +kernel
theorem dX8_undo_31 : decode cX8_undo 31 = .ok (.bipush 12, 2) := by decide +kernel
theorem dX8_undo_33 : decode cX8_undo 33 = .ok (.if_icmp .ge 35, 3) := by decide +kernel
theorem dX8_undo_36 : decode cX8_undo 36 = .ok (.aload_n 0, 1) := by decide +kernel
theorem dX8_undo_37 : decode cX8_undo 37 = .ok (.getfield 7, 3) := by decide +kernel
theorem dX8_undo_40 : decode cX8_undo 40 = .ok (.iload_n 1, 1) := by decide +kernel
theorem dX8_undo_41 : decode cX8_undo 41 = .ok (.aload_n 0, 1) := by decide +kernel
theorem dX8_undo_42 : decode cX8_undo 42 = .ok (.getfield 7, 3) := by decide +kernel
theorem dX8_undo_45 : decode cX8_undo 45 = .ok (.bipush 112, 2) := by decide +kernel
theorem dX8_undo_47 : decode cX8_undo 47 = .ok (.bipush 12, 2) := by decide +kernel
theorem dX8_undo_49 : decode cX8_undo 49 = .ok (.aload_n 0, 1) := by decide +kernel
theorem dX8_undo_50 : decode cX8_undo 50 = .ok (.getfield 7, 3) := by decide +kernel
theorem dX8_undo_53 : decode cX8_undo 53 = .ok (.bipush 111, 2) := by decide +kernel
theorem dX8_undo_55 : decode cX8_undo 55 = .ok (.iaload, 1) := by decide +kernel
theorem dX8_undo_56 : decode cX8_undo 56 = .ok (.imul, 1) := by decide +kernel
theorem dX8_undo_57 : decode cX8_undo 57 = .ok (.iadd, 1) := by decide +kernel
theorem dX8_undo_58 : decode cX8_undo 58 = .ok (.iload_n 1, 1) := by decide +kernel
theorem dX8_undo_59 : decode cX8_undo 59 = .ok (.iadd, 1) := by decide +kernel
theorem dX8_undo_60 : decode cX8_undo 60 = .ok (.iaload, 1) := by decide +kernel
theorem dX8_undo_61 : decode cX8_undo 61 = .ok (.iastore, 1) := by decide +kernel
theorem dX8_undo_62 : decode cX8_undo 62 = .ok (.iinc 1 1, 3) := by decide +kernel
theorem dX8_undo_65 : decode cX8_undo 65 = .ok (.goto (-35), 3) := by decide +kernel
theorem dX8_undo_68 : decode cX8_undo 68 = .ok (.aload_n 0, 1) := by decide +kernel
theorem dX8_undo_69 : decode cX8_undo 69 = .ok (.getfield 7, 3) := by decide +kernel
theorem dX8_undo_72 : decode cX8_undo 72 = .ok (.bipush 11, 2) := by decide +kernel
theorem dX8_undo_74 : decode cX8_undo 74 = .ok (.iaload, 1) := by decide +kernel
theorem dX8_undo_75 : decode cX8_undo 75 = .ok (.ireturn, 1) := by decide +kernel
theorem dX8_of_0 : decode cX8_of 0 = .ok (.aload_n 0, 1) := by decide +kernel
theorem dX8_of_1 : decode cX8_of 1 = .ok (.iload_n 1, 1) := by decide +kernel
theorem dX8_of_2 : decode cX8_of 2 = .ok (.invokevirtual 157, 3) := by decide +kernel
theorem dX8_of_5 : decode cX8_of 5 = .ok (.ifCond .eq 12, 3) := by decide +kernel
theorem dX8_of_8 : decode cX8_of 8 = .ok (.iload_n 2, 1) := by decide +kernel
theorem dX8_of_9 : decode cX8_of 9 = .ok (.iconst 0, 1) := by decide +kernel
theorem dX8_of_10 : decode cX8_of 10 = .ok (.iconst 3, 1) := by decide +kernel
theorem dX8_of_11 : decode cX8_of 11 = .ok (.invokestatic 49, 3) := by decide +kernel
theorem dX8_of_14 : decode cX8_of 14 = .ok (.ifCond .ne 10, 3) := by decide +kernel
theorem dX8_of_17 : decode cX8_of 17 = .ok (.aload_n 0, 1) := by decide +kernel
theorem dX8_of_18 : decode cX8_of 18 = .ok (.bipush (-2), 2) := by decide +kernel
theorem dX8_of_20 : decode cX8_of 20 = .ok (.invokevirtual 45, 3) := by decide +kernel
theorem dX8_of_23 : decode cX8_of 23 = .ok (.ireturn, 1) := by decide +kernel
theorem dX8_of_24 : decode cX8_of 24 = .ok (.aload_n 0, 1) := by decide +kernel
theorem dX8_of_25 : decode cX8_of 25 = .ok (.getfield 7, 3) := by decide +kernel
theorem dX8_of_28 : decode cX8_of 28 = .ok (.iconst 0, 1) := by decide +kernel
theorem dX8_of_29 : decode cX8_of 29 = .ok (.iload_n 1, 1) := by decide +kernel
theorem dX8_of_30 : decode cX8_of 30 = .ok (.iadd, 1) := by decide +kernel
theorem dX8_of_31 : decode cX8_of 31 = .ok (.iaload, 1) := by decide +kernel
theorem dX8_of_32 : decode cX8_of 32 = .ok (.istore_n 3, 1) := by decide +kernel
theorem dX8_of_33 : decode cX8_of 33 = .ok (.iload_n 2, 1) := by decide +kernel
theorem dX8_of_34 : decode cX8_of 34 = .ok (.ifCond .ne 15, 3) := by decide +kernel
theorem dX8_of_37 : decode cX8_of 37 = .ok (.aload_n 0, 1) := by decide +kernel
theorem dX8_of_38 : decode cX8_of 38 = .ok (.getfield 7, 3) := by decide +kernel
theorem dX8_of_41 : decode cX8_of 41 = .ok (.bipush 13, 2) := by decide +kernel
theorem dX8_of_43 : decode cX8_of 43 = .ok (.iload_n 1, 1) := by decide +kernel
theorem dX8_of_44 : decode cX8_of 44 = .ok (.iadd, 1) := by decide +kernel
theorem dX8_of_45 : decode cX8_of 45 = .ok (.iaload, 1) := by decide +kernel
theorem dX8_of_46 : decode cX8_of 46 = .ok (.goto 51, 3) := by decide +kernel
theorem dX8_of_49 : decode cX8_of 49 = .ok (.iload_n 2, 1) := by decide +kernel
theorem dX8_of_50 : decode cX8_of 50 = .ok (.iconst 1, 1) := by decide +kernel
theorem dX8_of_51 : decode cX8_of 51 = .ok (.if_icmp .ne 15, 3) := by decide +kernel
theorem dX8_of_54 : decode cX8_of 54 = .ok (.aload_n 0, 1) := by decide +kernel
theorem dX8_of_55 : decode cX8_of 55 = .ok (.getfield 7, 3) := by decide +kernel
theorem dX8_of_58 : decode cX8_of 58 = .ok (.bipush 19, 2) := by decide +kernel
theorem dX8_of_60 : decode cX8_of 60 = .ok (.iload_n 1, 1) := by decide +kernel
theorem dX8_of_61 : decode cX8_of 61 = .ok (.iadd, 1) := by decide +kernel
theorem dX8_of_62 : decode cX8_of 62 = .ok (.iaload, 1) := by decide +kernel
theorem dX8_of_63 : decode cX8_of 63 = .ok (.goto 34, 3) := by decide +kernel
theorem dX8_of_66 : decode cX8_of 66 = .ok (.iload_n 2, 1) := by decide +kernel
theorem dX8_of_67 : decode cX8_of 67 = .ok (.iconst 2, 1) := by decide +kernel
theorem dX8_of_68 : decode cX8_of 68 = .ok (.if_icmp .ne 7, 3) := by decide +kernel
theorem dX8_of_71 : decode cX8_of 71 = .ok (.iload_n 3, 1) := by decide +kernel
theorem dX8_of_72 : decode cX8_of 72 = .ok (.goto 25, 3) := by decide +kernel
theorem dX8_of_75 : decode cX8_of 75 = .ok (.iload_n 3, 1) := by decide +kernel
theorem dX8_of_76 : decode cX8_of 76 = .ok (.iconst (-1), 1) := by decide +kernel
theorem dX8_of_77 : decode cX8_of 77 = .ok (.if_icmp .ne 7, 3) := by decide +kernel
theorem dX8_of_80 : decode cX8_of 80 = .ok (.iconst 0, 1) := by decide +kernel
theorem dX8_of_81 : decode cX8_of 81 = .ok (.goto 16, 3) := by decide +kernel
theorem dX8_of_84 : decode cX8_of 84 = .ok (.aload_n 0, 1) := by decide +kernel
theorem dX8_of_85 : decode cX8_of 85 = .ok (.iload_n 1, 1) := by decide +kernel
theorem dX8_of_86 : decode cX8_of 86 = .ok (.iload_n 3, 1) := by decide +kernel
theorem dX8_of_87 : decode cX8_of 87 = .ok (.aload_n 0, 1) := by decide +kernel
theorem dX8_of_88 : decode cX8_of 88 = .ok (.getfield 7, 3) := by decide +kernel
theorem dX8_of_91 : decode cX8_of 91 = .ok (.bipush 10, 2) := by decide +kernel
theorem dX8_of_93 : decode cX8_of 93 = .ok (.iaload, 1) := by decide +kernel
theorem dX8_of_94 : decode cX8_of 94 = .ok (.invokevirtual 145, 3) := by decide +kernel
theorem dX8_of_97 : decode cX8_of 97 = .ok (.ireturn, 1) := by decide +kernel
theorem dX8_about_0 : decode cX8_about 0 = .ok (.aload_n 0, 1) := by decide +kernel
theorem dX8_about_1 : decode cX8_about 1 = .ok (.iload_n 1, 1) := by decide +kernel
theorem dX8_about_2 : decode cX8_about 2 = .ok (.invokevirtual 160, 3) := by decide +kernel
theorem dX8_about_5 : decode cX8_about 5 = .ok (.ifCond .eq 12, 3) := by decide +kernel
theorem dX8_about_8 : decode cX8_about 8 = .ok (.iload_n 2, 1) := by decide +kernel
theorem dX8_about_9 : decode cX8_about 9 = .ok (.iconst 0, 1) := by decide +kernel
theorem dX8_about_10 : decode cX8_about 10 = .ok (.iconst 4, 1) := by decide +kernel
theorem dX8_about_11 : decode cX8_about 11 = .ok (.invokestatic 49, 3) := by decide +kernel
theorem dX8_about_14 : decode cX8_about 14 = .ok (.ifCond .ne 10, 3) := by decide +kernel
theorem dX8_about_17 : decode cX8_about 17 = .ok (.aload_n 0, 1) := by decide +kernel
theorem dX8_about_18 : decode cX8_about 18 = .ok (.bipush (-2), 2) := by decide +kernel
theorem dX8_about_20 : decode cX8_about 20 = .ok (.invokevirtual 45, 3) := by decide +kernel
theorem dX8_about_23 : decode cX8_about 23 = .ok (.ireturn, 1) := by decide +kernel
theorem dX8_about_24 : decode cX8_about 24 = .ok (.iload_n 2, 1) := by decide +kernel
theorem dX8_about_25 : decode cX8_about 25 = .ok (.ifCond .ne 15, 3) := by decide +kernel
theorem dX8_about_28 : decode cX8_about 28 = .ok (.aload_n 0, 1) := by decide +kernel
theorem dX8_about_29 : decode cX8_about 29 = .ok (.getfield 7, 3) := by decide +kernel
theorem dX8_about_32 : decode cX8_about 32 = .ok (.bipush 26, 2) := by decide +kernel
theorem dX8_about_34 : decode cX8_about 34 = .ok (.iload_n 1, 1) := by decide +kernel
theorem dX8_about_35 : decode cX8_about 35 = .ok (.iadd, 1) := by decide +kernel
theorem dX8_about_36 : decode cX8_about 36 = .ok (.iaload, 1) := by decide +kernel
theorem dX8_about_37 : decode cX8_about 37 = .ok (.goto 46, 3) := by decide +kernel
theorem dX8_about_40 : decode cX8_about 40 = .ok (.iload_n 2, 1) := by decide +kernel
theorem dX8_about_41 : decode cX8_about 41 = .ok (.iconst 1, 1) := by decide +kernel
theorem dX8_about_42 : decode cX8_about 42 = .ok (.if_icmp .ne 15, 3) := by decide +kernel
theorem dX8_about_45 : decode cX8_about 45 = .ok (.aload_n 0, 1) := by decide +kernel
theorem dX8_about_46 : decode cX8_about 46 = .ok (.getfield 7, 3) := by decide +kernel
theorem dX8_about_49 : decode cX8_about 49 = .ok (.bipush 30, 2) := by decide +kernel
theorem dX8_about_51 : decode cX8_about 51 = .ok (.iload_n 1, 1) := by decide +kernel
theorem dX8_about_52 : decode cX8_about 52 = .ok (.iadd, 1) := by decide +kernel
theorem dX8_about_53 : decode cX8_about 53 = .ok (.iaload, 1) := by decide +kernel
theorem dX8_about_54 : decode cX8_about 54 = .ok (.goto 29, 3) := by decide +kernel
theorem dX8_about_57 : decode cX8_about 57 = .ok (.iload_n 2, 1) := by decide +kernel
theorem dX8_about_58 : decode cX8_about 58 = .ok (.iconst 2, 1) := by decide +kernel
theorem dX8_about_59 : decode cX8_about 59 = .ok (.if_icmp .ne 15, 3) := by decide +kernel
theorem dX8_about_62 : decode cX8_about 62 = .ok (.aload_n 0, 1) := by decide +kernel
theorem dX8_about_63 : decode cX8_about 63 = .ok (.getfield 7, 3) := by decide +kernel
theorem dX8_about_66 : decode cX8_about 66 = .ok (.bipush 6, 2) := by decide +kernel
theorem dX8_about_68 : decode cX8_about 68 = .ok (.iload_n 1, 1) := by decide +kernel
theorem dX8_about_69 : decode cX8_about 69 = .ok (.iadd, 1) := by decide +kernel
theorem dX8_about_70 : decode cX8_about 70 = .ok (.iaload, 1) := by decide +kernel
theorem dX8_about_71 : decode cX8_about 71 = .ok (.goto 12, 3) := by decide +kernel
theorem dX8_about_74 : decode cX8_about 74 = .ok (.aload_n 0, 1) := by decide +kernel
theorem dX8_about_75 : decode cX8_about 75 = .ok (.iconst 0, 1) := by decide +kernel
theorem dX8_about_76 : decode cX8_about 76 = .ok (.iload_n 1, 1) := by decide +kernel
theorem dX8_about_77 : decode cX8_about 77 = .ok (.iload_n 2, 1) := by decide +kernel
theorem dX8_about_78 : decode cX8_about 78 = .ok (.iconst 3, 1) := by decide +kernel
theorem dX8_about_79 : decode cX8_about 79 = .ok (.isub, 1) := by decide +kernel
theorem dX8_about_80 : decode cX8_about 80 = .ok (.invokevirtual 151, 3) := by decide +kernel
theorem dX8_about_83 : decode cX8_about 83 = .ok (.ireturn, 1) := by decide +kernel
theorem dX8_great_0 : decode cX8_great 0 = .ok (.aload_n 0, 1) := by decide +kernel
theorem dX8_great_1 : decode cX8_great 1 = .ok (.iload_n 1, 1) := by decide +kernel
theorem dX8_great_2 : decode cX8_great 2 = .ok (.invokevirtual 157, 3) := by decide +kernel
theorem dX8_great_5 : decode cX8_great 5 = .ok (.ifCond .eq 37, 3) := by decide +kernel
theorem dX8_great_8 : decode cX8_great 8 = .ok (.iload_n 2, 1) := by decide +kernel
theorem dX8_great_9 : decode cX8_great 9 = .ok (.iconst 0, 1) := by decide +kernel
theorem dX8_great_10 : decode cX8_great 10 = .ok (.iconst 4, 1) := by decide +kernel
theorem dX8_great_11 : decode cX8_great 11 = .ok (.invokestatic 49, 3) := by decide +kernel
theorem dX8_great_14 : decode cX8_great 14 = .ok (.ifCond .eq 28, 3) := by decide +kernel
theorem dX8_great_17 : decode cX8_great 17 = .ok (.aload_n 0, 1) := by decide +kernel
theorem dX8_great_18 : decode cX8_great 18 = .ok (.getfield 7, 3) := by decide +kernel
theorem dX8_great_21 : decode cX8_great 21 = .ok (.bipush 13, 2) := by decide +kernel
theorem dX8_great_23 : decode cX8_great 23 = .ok (.iload_n 1, 1) := by decide +kernel
theorem dX8_great_24 : decode cX8_great 24 = .ok (.iadd, 1) := by decide +kernel
theorem dX8_great_25 : decode cX8_great 25 = .ok (.iaload, 1) := by decide +kernel
theorem dX8_great_26 : decode cX8_great 26 = .ok (.aload_n 0, 1) := by decide +kernel
theorem dX8_great_27 : decode cX8_great 27 = .ok (.getfield 7, 3) := by decide +kernel
theorem dX8_great_30 : decode cX8_great 30 = .ok (.bipush 19, 2) := by decide +kernel
theorem dX8_great_32 : decode cX8_great 32 = .ok (.iload_n 1, 1) := by decide +kernel
theorem dX8_great_33 : decode cX8_great 33 = .ok (.iadd, 1) := by decide +kernel
theorem dX8_great_34 : decode cX8_great 34 = .ok (.iaload, 1) := by decide +kernel
theorem dX8_great_35 : decode cX8_great 35 = .ok (.iload_n 2, 1) := by decide +kernel
theorem dX8_great_36 : decode cX8_great 36 = .ok (.invokestatic 132, 3) := by decide +kernel
theorem dX8_great_39 : decode cX8_great 39 = .ok (.goto 9, 3) := by decide +kernel
theorem dX8_great_42 : decode cX8_great 42 = .ok (.aload_n 0, 1) := by decide +kernel
theorem dX8_great_43 : decode cX8_great 43 = .ok (.bipush (-2), 2) := by decide +kernel
theorem dX8_great_45 : decode cX8_great 45 = .ok (.invokevirtual 45, 3) := by decide +kernel
theorem dX8_great_48 : decode cX8_great 48 = .ok (.ireturn, 1) := by decide +kernel
theorem dX8_stays_0 : decode cX8_stays 0 = .ok (.aload_n 0, 1) := by decide +kernel
theorem dX8_stays_1 : decode cX8_stays 1 = .ok (.iload_n 1, 1) := by decide +kernel
theorem dX8_stays_2 : decode cX8_stays 2 = .ok (.invokevirtual 157, 3) := by decide +kernel
theorem dX8_stays_5 : decode cX8_stays 5 = .ok (.ifCond .eq 27, 3) := by decide +kernel
theorem dX8_stays_8 : decode cX8_stays 8 = .ok (.aload_n 0, 1) := by decide +kernel
theorem dX8_stays_9 : decode cX8_stays 9 = .ok (.iload_n 2, 1) := by decide +kernel
theorem dX8_stays_10 : decode cX8_stays 10 = .ok (.invokevirtual 160, 3) := by decide +kernel
theorem dX8_stays_13 : decode cX8_stays 13 = .ok (.ifCond .eq 19, 3) := by decide +kernel
theorem dX8_stays_16 : decode cX8_stays 16 = .ok (.aload_n 0, 1) := by decide +kernel
theorem dX8_stays_17 : decode cX8_stays 17 = .ok (.iload_n 1, 1) := by decide +kernel
theorem dX8_stays_18 : decode cX8_stays 18 = .ok (.iload_n 2, 1) := by decide +kernel
theorem dX8_stays_19 : decode cX8_stays 19 = .ok (.aload_n 0, 1) := by decide +kernel
theorem dX8_stays_20 : decode cX8_stays 20 = .ok (.getfield 7, 3) := by decide +kernel
theorem dX8_stays_23 : decode cX8_stays 23 = .ok (.bipush 10, 2) := by decide +kernel
theorem dX8_stays_25 : decode cX8_stays 25 = .ok (.iaload, 1) := by decide +kernel
theorem dX8_stays_26 : decode cX8_stays 26 = .ok (.invokevirtual 145, 3) := by decide +kernel
theorem dX8_stays_29 : decode cX8_stays 29 = .ok (.goto 9, 3) := by decide +kernel
theorem dX8_stays_32 : decode cX8_stays 32 = .ok (.aload_n 0, 1) := by decide +kernel
theorem dX8_stays_33 : decode cX8_stays 33 = .ok (.bipush (-2), 2) := by decide +kernel
theorem dX8_stays_35 : decode cX8_stays 35 = .ok (.invokevirtual 45, 3) := by decide +kernel
theorem dX8_stays_38 : decode cX8_stays 38 = .ok (.ireturn, 1) := by decide +kernel
theorem dX8_layTried_0 : decode cX8_layTried 0 = .ok (.iconst 0, 1) := by decide +kernel
theorem dX8_layTried_1 : decode cX8_layTried 1 = .ok (.istore_n 1, 1) := by decide +kernel
theorem dX8_layTried_2 : decode cX8_layTried 2 = .ok (.iload_n 1, 1) := by decide +kernel
theorem dX8_layTried_3 : decode cX8_layTried 3 = .ok (.bipush 12, 2) := by decide +kernel
theorem dX8_layTried_5 : decode cX8_layTried 5 = .ok (.if_icmp .ge 25, 3) := by decide +kernel
theorem dX8_layTried_8 : decode cX8_layTried 8 = .ok (.aload_n 0, 1) := by decide +kernel
theorem dX8_layTried_9 : decode cX8_layTried 9 = .ok (.getfield 7, 3) := by decide +kernel
theorem dX8_layTried_12 : decode cX8_layTried 12 = .ok (.sipush 624, 3) := by decide +kernel
theorem dX8_layTried_15 : decode cX8_layTried 15 = .ok (.iload_n 1, 1) := by decide +kernel
theorem dX8_layTried_16 : decode cX8_layTried 16 = .ok (.iadd, 1) := by decide +kernel
theorem dX8_layTried_17 : decode cX8_layTried 17 = .ok (.aload_n 0, 1) := by decide +kernel
theorem dX8_layTried_18 : decode cX8_layTried 18 = .ok (.getfield 7, 3) := by decide +kernel
theorem dX8_layTried_21 : decode cX8_layTried 21 = .ok (.iload_n 1, 1) := by decide +kernel
theorem dX8_layTried_22 : decode cX8_layTried 22 = .ok (.iaload, 1) := by decide +kernel
theorem dX8_layTried_23 : decode cX8_layTried 23 = .ok (.iastore, 1) := by decide +kernel
theorem dX8_layTried_24 : decode cX8_layTried 24 = .ok (.iinc 1 1, 3) := by decide +kernel
theorem dX8_layTried_27 : decode cX8_layTried 27 = .ok (.goto (-25), 3) := by decide +kernel
theorem dX8_layTried_30 : decode cX8_layTried 30 = .ok (.return_, 1) := by decide +kernel
theorem dX8_then_0 : decode cX8_then 0 = .ok (.aload_n 0, 1) := by decide +kernel
theorem dX8_then_1 : decode cX8_then 1 = .ok (.iload_n 1, 1) := by decide +kernel
theorem dX8_then_2 : decode cX8_then 2 = .ok (.invokevirtual 160, 3) := by decide +kernel
theorem dX8_then_5 : decode cX8_then 5 = .ok (.ifCond .eq 13, 3) := by decide +kernel
theorem dX8_then_8 : decode cX8_then 8 = .ok (.iload_n 2, 1) := by decide +kernel
theorem dX8_then_9 : decode cX8_then 9 = .ok (.iconst 0, 1) := by decide +kernel
theorem dX8_then_10 : decode cX8_then 10 = .ok (.bipush 60, 2) := by decide +kernel
theorem dX8_then_12 : decode cX8_then 12 = .ok (.invokestatic 49, 3) := by decide +kernel
theorem dX8_then_15 : decode cX8_then 15 = .ok (.ifCond .ne 10, 3) := by decide +kernel
theorem dX8_then_18 : decode cX8_then 18 = .ok (.aload_n 0, 1) := by decide +kernel
theorem dX8_then_19 : decode cX8_then 19 = .ok (.bipush (-2), 2) := by decide +kernel
theorem dX8_then_21 : decode cX8_then 21 = .ok (.invokevirtual 45, 3) := by decide +kernel
theorem dX8_then_24 : decode cX8_then 24 = .ok (.ireturn, 1) := by decide +kernel
theorem dX8_then_25 : decode cX8_then 25 = .ok (.aload_n 0, 1) := by decide +kernel
theorem dX8_then_26 : decode cX8_then 26 = .ok (.invokevirtual 169, 3) := by decide +kernel
theorem dX8_then_29 : decode cX8_then 29 = .ok (.iconst 0, 1) := by decide +kernel
theorem dX8_then_30 : decode cX8_then 30 = .ok (.istore_n 3, 1) := by decide +kernel
theorem dX8_then_31 : decode cX8_then 31 = .ok (.iload_n 3, 1) := by decide +kernel
theorem dX8_then_32 : decode cX8_then 32 = .ok (.iload_n 2, 1) := by decide +kernel
theorem dX8_then_33 : decode cX8_then 33 = .ok (.if_icmp .ge 16, 3) := by decide +kernel
theorem dX8_then_36 : decode cX8_then 36 = .ok (.aload_n 0, 1) := by decide +kernel
theorem dX8_then_37 : decode cX8_then 37 = .ok (.sipush 624, 3) := by decide +kernel
theorem dX8_then_40 : decode cX8_then 40 = .ok (.invokevirtual 154, 3) := by decide +kernel
theorem dX8_then_43 : decode cX8_then 43 = .ok (.iinc 3 1, 3) := by decide +kernel
theorem dX8_then_46 : decode cX8_then 46 = .ok (.goto (-15), 3) := by decide +kernel
theorem dX8_then_49 : decode cX8_then 49 = .ok (.aload_n 0, 1) := by decide +kernel
theorem dX8_then_50 : decode cX8_then 50 = .ok (.getfield 7, 3) := by decide +kernel
theorem dX8_then_53 : decode cX8_then 53 = .ok (.sipush 630, 3) := by decide +kernel
theorem dX8_then_56 : decode cX8_then 56 = .ok (.iload_n 1, 1) := by decide +kernel
theorem dX8_then_57 : decode cX8_then 57 = .ok (.iadd, 1) := by decide +kernel
theorem dX8_then_58 : decode cX8_then 58 = .ok (.iaload, 1) := by decide +kernel
theorem dX8_then_59 : decode cX8_then 59 = .ok (.ireturn, 1) := by decide +kernel
theorem dX8_when_0 : decode cX8_when 0 = .ok (.aload_n 0, 1) := by decide +kernel
theorem dX8_when_1 : decode cX8_when 1 = .ok (.iload_n 1, 1) := by decide +kernel
theorem dX8_when_2 : decode cX8_when 2 = .ok (.invokevirtual 160, 3) := by decide +kernel
theorem dX8_when_5 : decode cX8_when 5 = .ok (.ifCond .eq 14, 3) := by decide +kernel
theorem dX8_when_8 : decode cX8_when 8 = .ok (.iload_n 2, 1) := by decide +kernel
theorem dX8_when_9 : decode cX8_when 9 = .ok (.iconst 1, 1) := by decide +kernel
theorem dX8_when_10 : decode cX8_when 10 = .ok (.sipush 999, 3) := by decide +kernel
theorem dX8_when_13 : decode cX8_when 13 = .ok (.invokestatic 49, 3) := by decide +kernel
theorem dX8_when_16 : decode cX8_when 16 = .ok (.ifCond .ne 10, 3) := by decide +kernel
theorem dX8_when_19 : decode cX8_when 19 = .ok (.aload_n 0, 1) := by decide +kernel
theorem dX8_when_20 : decode cX8_when 20 = .ok (.bipush (-2), 2) := by decide +kernel
theorem dX8_when_22 : decode cX8_when 22 = .ok (.invokevirtual 45, 3) := by decide +kernel
theorem dX8_when_25 : decode cX8_when 25 = .ok (.ireturn, 1) := by decide +kernel
theorem dX8_when_26 : decode cX8_when 26 = .ok (.aload_n 0, 1) := by decide +kernel
theorem dX8_when_27 : decode cX8_when 27 = .ok (.invokevirtual 169, 3) := by decide +kernel
theorem dX8_when_30 : decode cX8_when 30 = .ok (.iconst 0, 1) := by decide +kernel
theorem dX8_when_31 : decode cX8_when 31 = .ok (.istore_n 3, 1) := by decide +kernel
theorem dX8_when_32 : decode cX8_when 32 = .ok (.iload_n 3, 1) := by decide +kernel
theorem dX8_when_33 : decode cX8_when 33 = .ok (.bipush 61, 2) := by decide +kernel
theorem dX8_when_35 : decode cX8_when 35 = .ok (.if_icmp .ge 32, 3) := by decide +kernel
theorem dX8_when_38 : decode cX8_when 38 = .ok (.aload_n 0, 1) := by decide +kernel
theorem dX8_when_39 : decode cX8_when 39 = .ok (.getfield 7, 3) := by decide +kernel
theorem dX8_when_42 : decode cX8_when 42 = .ok (.sipush 630, 3) := by decide +kernel
theorem dX8_when_45 : decode cX8_when 45 = .ok (.iload_n 1, 1) := by decide +kernel
theorem dX8_when_46 : decode cX8_when 46 = .ok (.iadd, 1) := by decide +kernel
theorem dX8_when_47 : decode cX8_when 47 = .ok (.iaload, 1) := by decide +kernel
theorem dX8_when_48 : decode cX8_when 48 = .ok (.iload_n 2, 1) := by decide +kernel
theorem dX8_when_49 : decode cX8_when 49 = .ok (.if_icmp .lt 5, 3) := by decide +kernel
theorem dX8_when_52 : decode cX8_when 52 = .ok (.iload_n 3, 1) := by decide +kernel
theorem dX8_when_53 : decode cX8_when 53 = .ok (.ireturn, 1) := by decide +kernel
theorem dX8_when_54 : decode cX8_when 54 = .ok (.aload_n 0, 1) := by decide +kernel
theorem dX8_when_55 : decode cX8_when 55 = .ok (.sipush 624, 3) := by decide +kernel
theorem dX8_when_58 : decode cX8_when 58 = .ok (.invokevirtual 154, 3) := by decide +kernel
theorem dX8_when_61 : decode cX8_when 61 = .ok (.iinc 3 1, 3) := by decide +kernel
theorem dX8_when_64 : decode cX8_when 64 = .ok (.goto (-32), 3) := by decide +kernel
theorem dX8_when_67 : decode cX8_when 67 = .ok (.iconst (-1), 1) := by decide +kernel
theorem dX8_when_68 : decode cX8_when 68 = .ok (.ireturn, 1) := by decide +kernel
theorem dX8_most_0 : decode cX8_most 0 = .ok (.aload_n 0, 1) := by decide +kernel
theorem dX8_most_1 : decode cX8_most 1 = .ok (.iload_n 1, 1) := by decide +kernel
theorem dX8_most_2 : decode cX8_most 2 = .ok (.invokevirtual 157, 3) := by decide +kernel
theorem dX8_most_5 : decode cX8_most 5 = .ok (.ifCond .eq 12, 3) := by decide +kernel
theorem dX8_most_8 : decode cX8_most 8 = .ok (.iload_n 2, 1) := by decide +kernel
theorem dX8_most_9 : decode cX8_most 9 = .ok (.iconst 0, 1) := by decide +kernel
theorem dX8_most_10 : decode cX8_most 10 = .ok (.iconst 1, 1) := by decide +kernel
theorem dX8_most_11 : decode cX8_most 11 = .ok (.invokestatic 49, 3) := by decide +kernel
theorem dX8_most_14 : decode cX8_most 14 = .ok (.ifCond .ne 10, 3) := by decide +kernel
theorem dX8_most_17 : decode cX8_most 17 = .ok (.aload_n 0, 1) := by decide +kernel
theorem dX8_most_18 : decode cX8_most 18 = .ok (.bipush (-2), 2) := by decide +kernel
theorem dX8_most_20 : decode cX8_most 20 = .ok (.invokevirtual 45, 3) := by decide +kernel
theorem dX8_most_23 : decode cX8_most 23 = .ok (.ireturn, 1) := by decide +kernel
theorem dX8_most_24 : decode cX8_most 24 = .ok (.iconst (-1), 1) := by decide +kernel
theorem dX8_most_25 : decode cX8_most 25 = .ok (.istore_n 3, 1) := by decide +kernel
theorem dX8_most_26 : decode cX8_most 26 = .ok (.iconst (-1), 1) := by decide +kernel
theorem dX8_most_27 : decode cX8_most 27 = .ok (.istore 4, 2) := by decide +kernel
theorem dX8_most_29 : decode cX8_most 29 = .ok (.iconst 0, 1) := by decide +kernel
theorem dX8_most_30 : decode cX8_most 30 = .ok (.istore 5, 2) := by decide +kernel
theorem dX8_most_32 : decode cX8_most 32 = .ok (.iload 5, 2) := by decide +kernel
theorem dX8_most_34 : decode cX8_most 34 = .ok (.aload_n 0, 1) := by decide +kernel
theorem dX8_most_35 : decode cX8_most 35 = .ok (.getfield 7, 3) := by decide +kernel
theorem dX8_most_38 : decode cX8_most 38 = .ok (.bipush 25, 2) := by decide +kernel
theorem dX8_most_40 : decode cX8_most 40 = .ok (.iaload, 1) := by decide +kernel
theorem dX8_most_41 : decode cX8_most 41 = .ok (.if_icmp .ge 58, 3) := by decide +kernel
theorem dX8_most_44 : decode cX8_most 44 = .ok (.aload_n 0, 1) := by decide +kernel
theorem dX8_most_45 : decode cX8_most 45 = .ok (.iload_n 1, 1) := by decide +kernel
theorem dX8_most_46 : decode cX8_most 46 = .ok (.iload 5, 2) := by decide +kernel
theorem dX8_most_48 : decode cX8_most 48 = .ok (.aload_n 0, 1) := by decide +kernel
theorem dX8_most_49 : decode cX8_most 49 = .ok (.getfield 7, 3) := by decide +kernel
theorem dX8_most_52 : decode cX8_most 52 = .ok (.bipush 10, 2) := by decide +kernel
theorem dX8_most_54 : decode cX8_most 54 = .ok (.iaload, 1) := by decide +kernel
theorem dX8_most_55 : decode cX8_most 55 = .ok (.invokevirtual 145, 3) := by decide +kernel
theorem dX8_most_58 : decode cX8_most 58 = .ok (.invokestatic 148, 3) := by decide +kernel
theorem dX8_most_61 : decode cX8_most 61 = .ok (.istore 6, 2) := by decide +kernel
theorem dX8_most_63 : decode cX8_most 63 = .ok (.iload 6, 2) := by decide +kernel
theorem dX8_most_65 : decode cX8_most 65 = .ok (.iload 4, 2) := by decide +kernel
theorem dX8_most_67 : decode cX8_most 67 = .ok (.if_icmp .le 8, 3) := by decide +kernel
theorem dX8_most_70 : decode cX8_most 70 = .ok (.iload 5, 2) := by decide +kernel
theorem dX8_most_72 : decode cX8_most 72 = .ok (.goto 4, 3) := by decide +kernel
theorem dX8_most_75 : decode cX8_most 75 = .ok (.iload_n 3, 1) := by decide +kernel
theorem dX8_most_76 : decode cX8_most 76 = .ok (.istore_n 3, 1) := by decide +kernel
theorem dX8_most_77 : decode cX8_most 77 = .ok (.iload 6, 2) := by decide +kernel
theorem dX8_most_79 : decode cX8_most 79 = .ok (.iload 4, 2) := by decide +kernel
theorem dX8_most_81 : decode cX8_most 81 = .ok (.if_icmp .le 8, 3) := by decide +kernel
theorem dX8_most_84 : decode cX8_most 84 = .ok (.iload 6, 2) := by decide +kernel
theorem dX8_most_86 : decode cX8_most 86 = .ok (.goto 5, 3) := by decide +kernel
theorem dX8_most_89 : decode cX8_most 89 = .ok (.iload 4, 2) := by decide +kernel
theorem dX8_most_91 : decode cX8_most 91 = .ok (.istore 4, 2) := by decide +kernel
theorem dX8_most_93 : decode cX8_most 93 = .ok (.iinc 5 1, 3) := by decide +kernel
theorem dX8_most_96 : decode cX8_most 96 = .ok (.goto (-64), 3) := by decide +kernel
theorem dX8_most_99 : decode cX8_most 99 = .ok (.iload_n 2, 1) := by decide +kernel
theorem dX8_most_100 : decode cX8_most 100 = .ok (.ifCond .ne 7, 3) := by decide +kernel
theorem dX8_most_103 : decode cX8_most 103 = .ok (.iload_n 3, 1) := by decide +kernel
theorem dX8_most_104 : decode cX8_most 104 = .ok (.goto 14, 3) := by decide +kernel
theorem dX8_most_107 : decode cX8_most 107 = .ok (.iload_n 3, 1) := by decide +kernel
theorem dX8_most_108 : decode cX8_most 108 = .ok (.iconst (-1), 1) := by decide +kernel
theorem dX8_most_109 : decode cX8_most 109 = .ok (.if_icmp .ne 7, 3) := by decide +kernel
theorem dX8_most_112 : decode cX8_most 112 = .ok (.iconst 0, 1) := by decide +kernel
theorem dX8_most_113 : decode cX8_most 113 = .ok (.goto 5, 3) := by decide +kernel
theorem dX8_most_116 : decode cX8_most 116 = .ok (.iload 4, 2) := by decide +kernel
theorem dX8_most_118 : decode cX8_most 118 = .ok (.ireturn, 1) := by decide +kernel
theorem dX8_round_0 : decode cX8_round 0 = .ok (.aload_n 0, 1) := by decide +kernel
theorem dX8_round_1 : decode cX8_round 1 = .ok (.iload_n 1, 1) := by decide +kernel
theorem dX8_round_2 : decode cX8_round 2 = .ok (.invokevirtual 157, 3) := by decide +kernel
theorem dX8_round_5 : decode cX8_round 5 = .ok (.ifCond .ne 10, 3) := by decide +kernel
theorem dX8_round_8 : decode cX8_round 8 = .ok (.aload_n 0, 1) := by decide +kernel
theorem dX8_round_9 : decode cX8_round 9 = .ok (.bipush (-2), 2) := by decide +kernel
theorem dX8_round_11 : decode cX8_round 11 = .ok (.invokevirtual 45, 3) := by decide +kernel
theorem dX8_round_14 : decode cX8_round 14 = .ok (.ireturn, 1) := by decide +kernel
theorem dX8_round_15 : decode cX8_round 15 = .ok (.iconst (-1), 1) := by decide +kernel
theorem dX8_round_16 : decode cX8_round 16 = .ok (.istore_n 2, 1) := by decide +kernel
theorem dX8_round_17 : decode cX8_round 17 = .ok (.iconst 0, 1) := by decide +kernel
theorem dX8_round_18 : decode cX8_round 18 = .ok (.istore_n 3, 1) := by decide +kernel
theorem dX8_round_19 : decode cX8_round 19 = .ok (.iload_n 3, 1) := by decide +kernel
theorem dX8_round_20 : decode cX8_round 20 = .ok (.iconst 1, 1) := by decide +kernel
theorem dX8_round_21 : decode cX8_round 21 = .ok (.aload_n 0, 1) := by decide +kernel
theorem dX8_round_22 : decode cX8_round 22 = .ok (.getfield 7, 3) := by decide +kernel
theorem dX8_round_25 : decode cX8_round 25 = .ok (.bipush 25, 2) := by decide +kernel
theorem dX8_round_27 : decode cX8_round 27 = .ok (.iaload, 1) := by decide +kernel
theorem dX8_round_28 : decode cX8_round 28 = .ok (.ishl, 1) := by decide +kernel
theorem dX8_round_29 : decode cX8_round 29 = .ok (.if_icmp .ge 94, 3) := by decide +kernel
theorem dX8_round_32 : decode cX8_round 32 = .ok (.iconst 0, 1) := by decide +kernel
theorem dX8_round_33 : decode cX8_round 33 = .ok (.istore 4, 2) := by decide +kernel
theorem dX8_round_35 : decode cX8_round 35 = .ok (.iconst 0, 1) := by decide +kernel
theorem dX8_round_36 : decode cX8_round 36 = .ok (.istore 5, 2) := by decide +kernel
theorem dX8_round_38 : decode cX8_round 38 = .ok (.iload 5, 2) := by decide +kernel
theorem dX8_round_40 : decode cX8_round 40 = .ok (.aload_n 0, 1) := by decide +kernel
theorem dX8_round_41 : decode cX8_round 41 = .ok (.getfield 7, 3) := by decide +kernel
theorem dX8_round_44 : decode cX8_round 44 = .ok (.bipush 25, 2) := by decide +kernel
theorem dX8_round_46 : decode cX8_round 46 = .ok (.iaload, 1) := by decide +kernel
theorem dX8_round_47 : decode cX8_round 47 = .ok (.if_icmp .ge 41, 3) := by decide +kernel
theorem dX8_round_50 : decode cX8_round 50 = .ok (.iload 4, 2) := by decide +kernel
theorem dX8_round_52 : decode cX8_round 52 = .ok (.iload_n 3, 1) := by decide +kernel
theorem dX8_round_53 : decode cX8_round 53 = .ok (.iload 5, 2) := by decide +kernel
theorem dX8_round_55 : decode cX8_round 55 = .ok (.invokestatic 172, 3) := by decide +kernel
theorem dX8_round_58 : decode cX8_round 58 = .ok (.ifCond .eq 20, 3) := by decide +kernel
theorem dX8_round_61 : decode cX8_round 61 = .ok (.aload_n 0, 1) := by decide +kernel
theorem dX8_round_62 : decode cX8_round 62 = .ok (.iload_n 1, 1) := by decide +kernel
theorem dX8_round_63 : decode cX8_round 63 = .ok (.iload 5, 2) := by decide +kernel
theorem dX8_round_65 : decode cX8_round 65 = .ok (.aload_n 0, 1) := by decide +kernel
theorem dX8_round_66 : decode cX8_round 66 = .ok (.getfield 7, 3) := by decide +kernel
theorem dX8_round_69 : decode cX8_round 69 = .ok (.bipush 10, 2) := by decide +kernel
theorem dX8_round_71 : decode cX8_round 71 = .ok (.iaload, 1) := by decide +kernel
theorem dX8_round_72 : decode cX8_round 72 = .ok (.invokevirtual 145, 3) := by decide +kernel
theorem dX8_round_75 : decode cX8_round 75 = .ok (.goto 4, 3) := by decide +kernel
theorem dX8_round_78 : decode cX8_round 78 = .ok (.iconst 0, 1) := by decide +kernel
theorem dX8_round_79 : decode cX8_round 79 = .ok (.ior, 1) := by decide +kernel
theorem dX8_round_80 : decode cX8_round 80 = .ok (.istore 4, 2) := by decide +kernel
theorem dX8_round_82 : decode cX8_round 82 = .ok (.iinc 5 1, 3) := by decide +kernel
theorem dX8_round_85 : decode cX8_round 85 = .ok (.goto (-47), 3) := by decide +kernel
theorem dX8_round_88 : decode cX8_round 88 = .ok (.iload 4, 2) := by decide +kernel
theorem dX8_round_90 : decode cX8_round 90 = .ok (.bipush 31, 2) := by decide +kernel
theorem dX8_round_92 : decode cX8_round 92 = .ok (.if_icmp .ne 23, 3) := by decide +kernel
theorem dX8_round_95 : decode cX8_round 95 = .ok (.iload_n 2, 1) := by decide +kernel
theorem dX8_round_96 : decode cX8_round 96 = .ok (.iconst (-1), 1) := by decide +kernel
theorem dX8_round_97 : decode cX8_round 97 = .ok (.if_icmp .eq 14, 3) := by decide +kernel
theorem dX8_round_100 : decode cX8_round 100 = .ok (.iload_n 3, 1) := by decide +kernel
theorem dX8_round_101 : decode cX8_round 101 = .ok (.invokestatic 148, 3) := by decide +kernel
theorem dX8_round_104 : decode cX8_round 104 = .ok (.iload_n 2, 1) := by decide +kernel
theorem dX8_round_105 : decode cX8_round 105 = .ok (.invokestatic 148, 3) := by decide +kernel
theorem dX8_round_108 : decode cX8_round 108 = .ok (.if_icmp .ge 7, 3) := by decide +kernel
theorem dX8_round_111 : decode cX8_round 111 = .ok (.iload_n 3, 1) := by decide +kernel
theorem dX8_round_112 : decode cX8_round 112 = .ok (.goto 4, 3) := by decide +kernel
theorem dX8_round_115 : decode cX8_round 115 = .ok (.iload_n 2, 1) := by decide +kernel
theorem dX8_round_116 : decode cX8_round 116 = .ok (.istore_n 2, 1) := by decide +kernel
theorem dX8_round_117 : decode cX8_round 117 = .ok (.iinc 3 1, 3) := by decide +kernel
theorem dX8_round_120 : decode cX8_round 120 = .ok (.goto (-101), 3) := by decide +kernel
theorem dX8_round_123 : decode cX8_round 123 = .ok (.iload_n 2, 1) := by decide +kernel
theorem dX8_round_124 : decode cX8_round 124 = .ok (.ireturn, 1) := by decide +kernel
theorem dX8_mesh_0 : decode cX8_mesh 0 = .ok (.aload_n 0, 1) := by decide +kernel
theorem dX8_mesh_1 : decode cX8_mesh 1 = .ok (.iload_n 1, 1) := by decide +kernel
theorem dX8_mesh_2 : decode cX8_mesh 2 = .ok (.invokevirtual 157, 3) := by decide +kernel
theorem dX8_mesh_5 : decode cX8_mesh 5 = .ok (.ifCond .eq 20, 3) := by decide +kernel
theorem dX8_mesh_8 : decode cX8_mesh 8 = .ok (.aload_n 0, 1) := by decide +kernel
theorem dX8_mesh_9 : decode cX8_mesh 9 = .ok (.iload_n 2, 1) := by decide +kernel
theorem dX8_mesh_10 : decode cX8_mesh 10 = .ok (.invokevirtual 160, 3) := by decide +kernel
theorem dX8_mesh_13 : decode cX8_mesh 13 = .ok (.ifCond .eq 12, 3) := by decide +kernel
theorem dX8_mesh_16 : decode cX8_mesh 16 = .ok (.iload_n 3, 1) := by decide +kernel
theorem dX8_mesh_17 : decode cX8_mesh 17 = .ok (.iconst 0, 1) := by decide +kernel
theorem dX8_mesh_18 : decode cX8_mesh 18 = .ok (.iconst 5, 1) := by decide +kernel
theorem dX8_mesh_19 : decode cX8_mesh 19 = .ok (.invokestatic 49, 3) := by decide +kernel
theorem dX8_mesh_22 : decode cX8_mesh 22 = .ok (.ifCond .ne 10, 3) := by decide +kernel
theorem dX8_mesh_25 : decode cX8_mesh 25 = .ok (.aload_n 0, 1) := by decide +kernel
theorem dX8_mesh_26 : decode cX8_mesh 26 = .ok (.bipush (-2), 2) := by decide +kernel
theorem dX8_mesh_28 : decode cX8_mesh 28 = .ok (.invokevirtual 45, 3) := by decide +kernel
theorem dX8_mesh_31 : decode cX8_mesh 31 = .ok (.ireturn, 1) := by decide +kernel
theorem dX8_mesh_32 : decode cX8_mesh 32 = .ok (.bipush 30, 2) := by decide +kernel
theorem dX8_mesh_34 : decode cX8_mesh 34 = .ok (.istore 4, 2) := by decide +kernel
theorem dX8_mesh_36 : decode cX8_mesh 36 = .ok (.iload 4, 2) := by decide +kernel
theorem dX8_mesh_38 : decode cX8_mesh 38 = .ok (.ifCond .le 61, 3) := by decide +kernel
theorem dX8_mesh_41 : decode cX8_mesh 41 = .ok (.aload_n 0, 1) := by decide +kernel
theorem dX8_mesh_42 : decode cX8_mesh 42 = .ok (.getfield 7, 3) := by decide +kernel
theorem dX8_mesh_45 : decode cX8_mesh 45 = .ok (.bipush 13, 2) := by decide +kernel
theorem dX8_mesh_47 : decode cX8_mesh 47 = .ok (.iload_n 1, 1) := by decide +kernel
theorem dX8_mesh_48 : decode cX8_mesh 48 = .ok (.iadd, 1) := by decide +kernel
theorem dX8_mesh_49 : decode cX8_mesh 49 = .ok (.iaload, 1) := by decide +kernel
theorem dX8_mesh_50 : decode cX8_mesh 50 = .ok (.aload_n 0, 1) := by decide +kernel
theorem dX8_mesh_51 : decode cX8_mesh 51 = .ok (.getfield 7, 3) := by decide +kernel
theorem dX8_mesh_54 : decode cX8_mesh 54 = .ok (.bipush 19, 2) := by decide +kernel
theorem dX8_mesh_56 : decode cX8_mesh 56 = .ok (.iload_n 1, 1) := by decide +kernel
theorem dX8_mesh_57 : decode cX8_mesh 57 = .ok (.iadd, 1) := by decide +kernel
theorem dX8_mesh_58 : decode cX8_mesh 58 = .ok (.iaload, 1) := by decide +kernel
theorem dX8_mesh_59 : decode cX8_mesh 59 = .ok (.aload_n 0, 1) := by decide +kernel
theorem dX8_mesh_60 : decode cX8_mesh 60 = .ok (.getfield 7, 3) := by decide +kernel
theorem dX8_mesh_63 : decode cX8_mesh 63 = .ok (.bipush 26, 2) := by decide +kernel
theorem dX8_mesh_65 : decode cX8_mesh 65 = .ok (.iload_n 2, 1) := by decide +kernel
theorem dX8_mesh_66 : decode cX8_mesh 66 = .ok (.iadd, 1) := by decide +kernel
theorem dX8_mesh_67 : decode cX8_mesh 67 = .ok (.iaload, 1) := by decide +kernel
theorem dX8_mesh_68 : decode cX8_mesh 68 = .ok (.iload 4, 2) := by decide +kernel
theorem dX8_mesh_70 : decode cX8_mesh 70 = .ok (.aload_n 0, 1) := by decide +kernel
theorem dX8_mesh_71 : decode cX8_mesh 71 = .ok (.getfield 7, 3) := by decide +kernel
theorem dX8_mesh_74 : decode cX8_mesh 74 = .ok (.bipush 10, 2) := by decide +kernel
theorem dX8_mesh_76 : decode cX8_mesh 76 = .ok (.iaload, 1) := by decide +kernel
theorem dX8_mesh_77 : decode cX8_mesh 77 = .ok (.invokestatic 136, 3) := by decide +kernel
theorem dX8_mesh_80 : decode cX8_mesh 80 = .ok (.invokestatic 142, 3) := by decide +kernel
theorem dX8_mesh_83 : decode cX8_mesh 83 = .ok (.invokestatic 148, 3) := by decide +kernel
theorem dX8_mesh_86 : decode cX8_mesh 86 = .ok (.iload_n 3, 1) := by decide +kernel
theorem dX8_mesh_87 : decode cX8_mesh 87 = .ok (.if_icmp .lt 6, 3) := by decide +kernel
theorem dX8_mesh_90 : decode cX8_mesh 90 = .ok (.iload 4, 2) := by decide +kernel
theorem dX8_mesh_92 : decode cX8_mesh 92 = .ok (.ireturn, 1) := by decide +kernel
theorem dX8_mesh_93 : decode cX8_mesh 93 = .ok (.iinc 4 (-1), 3) := by decide +kernel
theorem dX8_mesh_96 : decode cX8_mesh 96 = .ok (.goto (-60), 3) := by decide +kernel
theorem dX8_mesh_99 : decode cX8_mesh 99 = .ok (.iconst (-1), 1) := by decide +kernel
theorem dX8_mesh_100 : decode cX8_mesh 100 = .ok (.ireturn, 1) := by decide +kernel
theorem dX8_gainBy_0 : decode cX8_gainBy 0 = .ok (.aload_n 0, 1) := by decide +kernel
theorem dX8_gainBy_1 : decode cX8_gainBy 1 = .ok (.invokevirtual 169, 3) := by decide +kernel
theorem dX8_gainBy_4 : decode cX8_gainBy 4 = .ok (.iconst 0, 1) := by decide +kernel
theorem dX8_gainBy_5 : decode cX8_gainBy 5 = .ok (.istore_n 1, 1) := by decide +kernel
theorem dX8_gainBy_6 : decode cX8_gainBy 6 = .ok (.iload_n 1, 1) := by decide +kernel
theorem dX8_gainBy_7 : decode cX8_gainBy 7 = .ok (.aload_n 0, 1) := by decide +kernel
theorem dX8_gainBy_8 : decode cX8_gainBy 8 = .ok (.getfield 7, 3) := by decide +kernel
theorem dX8_gainBy_11 : decode cX8_gainBy 11 = .ok (.bipush 12, 2) := by decide +kernel
theorem dX8_gainBy_13 : decode cX8_gainBy 13 = .ok (.iaload, 1) := by decide +kernel
theorem dX8_gainBy_14 : decode cX8_gainBy 14 = .ok (.if_icmp .ge 27, 3) := by decide +kernel
theorem dX8_gainBy_17 : decode cX8_gainBy 17 = .ok (.aload_n 0, 1) := by decide +kernel
theorem dX8_gainBy_18 : decode cX8_gainBy 18 = .ok (.getfield 7, 3) := by decide +kernel
theorem dX8_gainBy_21 : decode cX8_gainBy 21 = .ok (.sipush 624, 3) := by decide +kernel
theorem dX8_gainBy_24 : decode cX8_gainBy 24 = .ok (.iload_n 1, 1) := by decide +kernel
theorem dX8_gainBy_25 : decode cX8_gainBy 25 = .ok (.iadd, 1) := by decide +kernel
theorem dX8_gainBy_26 : decode cX8_gainBy 26 = .ok (.aload_n 0, 1) := by decide +kernel
theorem dX8_gainBy_27 : decode cX8_gainBy 27 = .ok (.getfield 30, 3) := by decide +kernel
theorem dX8_gainBy_30 : decode cX8_gainBy 30 = .ok (.iload_n 1, 1) := by decide +kernel
theorem dX8_gainBy_31 : decode cX8_gainBy 31 = .ok (.iaload, 1) := by decide +kernel
theorem dX8_gainBy_32 : decode cX8_gainBy 32 = .ok (.iconst 1, 1) := by decide +kernel
theorem dX8_gainBy_33 : decode cX8_gainBy 33 = .ok (.isub, 1) := by decide +kernel
theorem dX8_gainBy_34 : decode cX8_gainBy 34 = .ok (.iastore, 1) := by decide +kernel
theorem dX8_gainBy_35 : decode cX8_gainBy 35 = .ok (.iinc 1 1, 3) := by decide +kernel
theorem dX8_gainBy_38 : decode cX8_gainBy 38 = .ok (.goto (-32), 3) := by decide +kernel
theorem dX8_gainBy_41 : decode cX8_gainBy 41 = .ok (.iconst 0, 1) := by decide +kernel
theorem dX8_gainBy_42 : decode cX8_gainBy 42 = .ok (.istore_n 1, 1) := by decide +kernel
theorem dX8_gainBy_43 : decode cX8_gainBy 43 = .ok (.iconst 0, 1) := by decide +kernel
theorem dX8_gainBy_44 : decode cX8_gainBy 44 = .ok (.istore_n 2, 1) := by decide +kernel
theorem dX8_gainBy_45 : decode cX8_gainBy 45 = .ok (.iload_n 2, 1) := by decide +kernel
theorem dX8_gainBy_46 : decode cX8_gainBy 46 = .ok (.aload_n 0, 1) := by decide +kernel
theorem dX8_gainBy_47 : decode cX8_gainBy 47 = .ok (.getfield 7, 3) := by decide +kernel
theorem dX8_gainBy_50 : decode cX8_gainBy 50 = .ok (.bipush 25, 2) := by decide +kernel
theorem dX8_gainBy_52 : decode cX8_gainBy 52 = .ok (.iaload, 1) := by decide +kernel
theorem dX8_gainBy_53 : decode cX8_gainBy 53 = .ok (.if_icmp .ge 33, 3) := by decide +kernel
theorem dX8_gainBy_56 : decode cX8_gainBy 56 = .ok (.iload_n 1, 1) := by decide +kernel
theorem dX8_gainBy_57 : decode cX8_gainBy 57 = .ok (.aload_n 0, 1) := by decide +kernel
theorem dX8_gainBy_58 : decode cX8_gainBy 58 = .ok (.sipush 624, 3) := by decide +kernel
theorem dX8_gainBy_61 : decode cX8_gainBy 61 = .ok (.iload_n 2, 1) := by decide +kernel
theorem dX8_gainBy_62 : decode cX8_gainBy 62 = .ok (.iconst 0, 1) := by decide +kernel
theorem dX8_gainBy_63 : decode cX8_gainBy 63 = .ok (.invokevirtual 151, 3) := by decide +kernel
theorem dX8_gainBy_66 : decode cX8_gainBy 66 = .ok (.iconst 2, 1) := by decide +kernel
theorem dX8_gainBy_67 : decode cX8_gainBy 67 = .ok (.aload_n 0, 1) := by decide +kernel
theorem dX8_gainBy_68 : decode cX8_gainBy 68 = .ok (.sipush 624, 3) := by decide +kernel
theorem dX8_gainBy_71 : decode cX8_gainBy 71 = .ok (.iload_n 2, 1) := by decide +kernel
theorem dX8_gainBy_72 : decode cX8_gainBy 72 = .ok (.iconst 1, 1) := by decide +kernel
theorem dX8_gainBy_73 : decode cX8_gainBy 73 = .ok (.invokevirtual 151, 3) := by decide +kernel
theorem dX8_gainBy_76 : decode cX8_gainBy 76 = .ok (.imul, 1) := by decide +kernel
theorem dX8_gainBy_77 : decode cX8_gainBy 77 = .ok (.iadd, 1) := by decide +kernel
theorem dX8_gainBy_78 : decode cX8_gainBy 78 = .ok (.iadd, 1) := by decide +kernel
theorem dX8_gainBy_79 : decode cX8_gainBy 79 = .ok (.istore_n 1, 1) := by decide +kernel
theorem dX8_gainBy_80 : decode cX8_gainBy 80 = .ok (.iinc 2 1, 3) := by decide +kernel
theorem dX8_gainBy_83 : decode cX8_gainBy 83 = .ok (.goto (-38), 3) := by decide +kernel
theorem dX8_gainBy_86 : decode cX8_gainBy 86 = .ok (.iload_n 1, 1) := by decide +kernel
theorem dX8_gainBy_87 : decode cX8_gainBy 87 = .ok (.ireturn, 1) := by decide +kernel
theorem dX8_nextLine_0 : decode cX8_nextLine 0 = .ok (.aload_n 0, 1) := by decide +kernel
theorem dX8_nextLine_1 : decode cX8_nextLine 1 = .ok (.getfield 7, 3) := by decide +kernel
theorem dX8_nextLine_4 : decode cX8_nextLine 4 = .ok (.bipush 12, 2) := by decide +kernel
theorem dX8_nextLine_6 : decode cX8_nextLine 6 = .ok (.iaload, 1) := by decide +kernel
theorem dX8_nextLine_7 : decode cX8_nextLine 7 = .ok (.iconst 1, 1) := by decide +kernel
theorem dX8_nextLine_8 : decode cX8_nextLine 8 = .ok (.isub, 1) := by decide +kernel
theorem dX8_nextLine_9 : decode cX8_nextLine 9 = .ok (.istore_n 1, 1) := by decide +kernel
theorem dX8_nextLine_10 : decode cX8_nextLine 10 = .ok (.iload_n 1, 1) := by decide +kernel
theorem dX8_nextLine_11 : decode cX8_nextLine 11 = .ok (.ifCond .lt 32, 3) := by decide +kernel
theorem dX8_nextLine_14 : decode cX8_nextLine 14 = .ok (.aload_n 0, 1) := by decide +kernel
theorem dX8_nextLine_15 : decode cX8_nextLine 15 = .ok (.getfield 30, 3) := by decide +kernel
theorem dX8_nextLine_18 : decode cX8_nextLine 18 = .ok (.iload_n 1, 1) := by decide +kernel
theorem dX8_nextLine_19 : decode cX8_nextLine 19 = .ok (.iaload, 1) := by decide +kernel
theorem dX8_nextLine_20 : decode cX8_nextLine 20 = .ok (.aload_n 0, 1) := by decide +kernel
theorem dX8_nextLine_21 : decode cX8_nextLine 21 = .ok (.getfield 7, 3) := by decide +kernel
theorem dX8_nextLine_24 : decode cX8_nextLine 24 = .ok (.bipush 25, 2) := by decide +kernel
theorem dX8_nextLine_26 : decode cX8_nextLine 26 = .ok (.iaload, 1) := by decide +kernel
theorem dX8_nextLine_27 : decode cX8_nextLine 27 = .ok (.if_icmp .ne 16, 3) := by decide +kernel
theorem dX8_nextLine_30 : decode cX8_nextLine 30 = .ok (.aload_n 0, 1) := by decide +kernel
theorem dX8_nextLine_31 : decode cX8_nextLine 31 = .ok (.getfield 30, 3) := by decide +kernel
theorem dX8_nextLine_34 : decode cX8_nextLine 34 = .ok (.iload_n 1, 1) := by decide +kernel
theorem dX8_nextLine_35 : decode cX8_nextLine 35 = .ok (.iconst 0, 1) := by decide +kernel
theorem dX8_nextLine_36 : decode cX8_nextLine 36 = .ok (.iastore, 1) := by decide +kernel
theorem dX8_nextLine_37 : decode cX8_nextLine 37 = .ok (.iinc 1 (-1), 3) := by decide +kernel
theorem dX8_nextLine_40 : decode cX8_nextLine 40 = .ok (.goto (-30), 3) := by decide +kernel
theorem dX8_nextLine_43 : decode cX8_nextLine 43 = .ok (.iload_n 1, 1) := by decide +kernel
theorem dX8_nextLine_44 : decode cX8_nextLine 44 = .ok (.ifCond .lt 13, 3) := by decide +kernel
theorem dX8_nextLine_47 : decode cX8_nextLine 47 = .ok (.aload_n 0, 1) := by decide +kernel
theorem dX8_nextLine_48 : decode cX8_nextLine 48 = .ok (.getfield 30, 3) := by decide +kernel
theorem dX8_nextLine_51 : decode cX8_nextLine 51 = .ok (.iload_n 1, 1) := by decide +kernel
theorem dX8_nextLine_52 : decode cX8_nextLine 52 = .ok (.dup2, 1) := by decide +kernel
theorem dX8_nextLine_53 : decode cX8_nextLine 53 = .ok (.iaload, 1) := by decide +kernel
theorem dX8_nextLine_54 : decode cX8_nextLine 54 = .ok (.iconst 1, 1) := by decide +kernel
theorem dX8_nextLine_55 : decode cX8_nextLine 55 = .ok (.iadd, 1) := by decide +kernel
theorem dX8_nextLine_56 : decode cX8_nextLine 56 = .ok (.iastore, 1) := by decide +kernel
theorem dX8_nextLine_57 : decode cX8_nextLine 57 = .ok (.iload_n 1, 1) := by decide +kernel
theorem dX8_nextLine_58 : decode cX8_nextLine 58 = .ok (.ifCond .lt 7, 3) := by decide +kernel
theorem dX8_nextLine_61 : decode cX8_nextLine 61 = .ok (.iconst 1, 1) := by decide +kernel
theorem dX8_nextLine_62 : decode cX8_nextLine 62 = .ok (.goto 4, 3) := by decide +kernel
theorem dX8_nextLine_65 : decode cX8_nextLine 65 = .ok (.iconst 0, 1) := by decide +kernel
theorem dX8_nextLine_66 : decode cX8_nextLine 66 = .ok (.ireturn, 1) := by decide +kernel
theorem dX8_place_0 : decode cX8_place 0 = .ok (.iload_n 1, 1) := by decide +kernel
theorem dX8_place_1 : decode cX8_place 1 = .ok (.iconst (-1), 1) := by decide +kernel
theorem dX8_place_2 : decode cX8_place 2 = .ok (.if_icmp .eq 18, 3) := by decide +kernel
theorem dX8_place_5 : decode cX8_place 5 = .ok (.aload_n 0, 1) := by decide +kernel
theorem dX8_place_6 : decode cX8_place 6 = .ok (.iload_n 1, 1) := by decide +kernel
theorem dX8_place_7 : decode cX8_place 7 = .ok (.invokevirtual 157, 3) := by decide +kernel
theorem dX8_place_10 : decode cX8_place 10 = .ok (.ifCond .ne 10, 3) := by decide +kernel
theorem dX8_place_13 : decode cX8_place 13 = .ok (.aload_n 0, 1) := by decide +kernel
theorem dX8_place_14 : decode cX8_place 14 = .ok (.bipush (-10), 2) := by decide +kernel
theorem dX8_place_16 : decode cX8_place 16 = .ok (.invokevirtual 176, 3) := by decide +kernel
theorem dX8_place_19 : decode cX8_place 19 = .ok (.ireturn, 1) := by decide +kernel
theorem dX8_place_20 : decode cX8_place 20 = .ok (.iconst 0, 1) := by decide +kernel
theorem dX8_place_21 : decode cX8_place 21 = .ok (.istore_n 2, 1) := by decide +kernel
theorem dX8_place_22 : decode cX8_place 22 = .ok (.iload_n 2, 1) := by decide +kernel
theorem dX8_place_23 : decode cX8_place 23 = .ok (.bipush 6, 2) := by decide +kernel
theorem dX8_place_25 : decode cX8_place 25 = .ok (.if_icmp .ge 16, 3) := by decide +kernel
theorem dX8_place_28 : decode cX8_place 28 = .ok (.aload_n 0, 1) := by decide +kernel
theorem dX8_place_29 : decode cX8_place 29 = .ok (.getfield 30, 3) := by decide +kernel
theorem dX8_place_32 : decode cX8_place 32 = .ok (.iload_n 2, 1) := by decide +kernel
theorem dX8_place_33 : decode cX8_place 33 = .ok (.iconst 0, 1) := by decide +kernel
theorem dX8_place_34 : decode cX8_place 34 = .ok (.iastore, 1) := by decide +kernel
theorem dX8_place_35 : decode cX8_place 35 = .ok (.iinc 2 1, 3) := by decide +kernel
theorem dX8_place_38 : decode cX8_place 38 = .ok (.goto (-16), 3) := by decide +kernel
theorem dX8_place_41 : decode cX8_place 41 = .ok (.iconst (-1), 1) := by decide +kernel
theorem dX8_place_42 : decode cX8_place 42 = .ok (.istore_n 2, 1) := by decide +kernel
theorem dX8_place_43 : decode cX8_place 43 = .ok (.iconst 1, 1) := by decide +kernel
theorem dX8_place_44 : decode cX8_place 44 = .ok (.istore_n 3, 1) := by decide +kernel
theorem dX8_place_45 : decode cX8_place 45 = .ok (.iload_n 3, 1) := by decide +kernel
theorem dX8_place_46 : decode cX8_place 46 = .ok (.ifCond .eq 56, 3) := by decide +kernel
theorem dX8_place_49 : decode cX8_place 49 = .ok (.aload_n 0, 1) := by decide +kernel
theorem dX8_place_50 : decode cX8_place 50 = .ok (.invokevirtual 179, 3) := by decide +kernel
theorem dX8_place_53 : decode cX8_place 53 = .ok (.istore 4, 2) := by decide +kernel
theorem dX8_place_55 : decode cX8_place 55 = .ok (.iload 4, 2) := by decide +kernel
theorem dX8_place_57 : decode cX8_place 57 = .ok (.iload_n 2, 1) := by decide +kernel
theorem dX8_place_58 : decode cX8_place 58 = .ok (.if_icmp .le 36, 3) := by decide +kernel
theorem dX8_place_61 : decode cX8_place 61 = .ok (.iload 4, 2) := by decide +kernel
theorem dX8_place_63 : decode cX8_place 63 = .ok (.istore_n 2, 1) := by decide +kernel
theorem dX8_place_64 : decode cX8_place 64 = .ok (.iconst 0, 1) := by decide +kernel
theorem dX8_place_65 : decode cX8_place 65 = .ok (.istore 5, 2) := by decide +kernel
theorem dX8_place_67 : decode cX8_place 67 = .ok (.iload 5, 2) := by decide +kernel
theorem dX8_place_69 : decode cX8_place 69 = .ok (.bipush 6, 2) := by decide +kernel
theorem dX8_place_71 : decode cX8_place 71 = .ok (.if_icmp .ge 23, 3) := by decide +kernel
theorem dX8_place_74 : decode cX8_place 74 = .ok (.aload_n 0, 1) := by decide +kernel
theorem dX8_place_75 : decode cX8_place 75 = .ok (.getfield 33, 3) := by decide +kernel
theorem dX8_place_78 : decode cX8_place 78 = .ok (.iload 5, 2) := by decide +kernel
theorem dX8_place_80 : decode cX8_place 80 = .ok (.aload_n 0, 1) := by decide +kernel
theorem dX8_place_81 : decode cX8_place 81 = .ok (.getfield 30, 3) := by decide +kernel
theorem dX8_place_84 : decode cX8_place 84 = .ok (.iload 5, 2) := by decide +kernel
theorem dX8_place_86 : decode cX8_place 86 = .ok (.iaload, 1) := by decide +kernel
theorem dX8_place_87 : decode cX8_place 87 = .ok (.iastore, 1) := by decide +kernel
theorem dX8_place_88 : decode cX8_place 88 = .ok (.iinc 5 1, 3) := by decide +kernel
theorem dX8_place_91 : decode cX8_place 91 = .ok (.goto (-24), 3) := by decide +kernel
theorem dX8_place_94 : decode cX8_place 94 = .ok (.aload_n 0, 1) := by decide +kernel
theorem dX8_place_95 : decode cX8_place 95 = .ok (.invokevirtual 182, 3) := by decide +kernel
theorem dX8_place_98 : decode cX8_place 98 = .ok (.istore_n 3, 1) := by decide +kernel
theorem dX8_place_99 : decode cX8_place 99 = .ok (.goto (-54), 3) := by decide +kernel
theorem dX8_place_102 : decode cX8_place 102 = .ok (.iload_n 1, 1) := by decide +kernel
theorem dX8_place_103 : decode cX8_place 103 = .ok (.iconst (-1), 1) := by decide +kernel
theorem dX8_place_104 : decode cX8_place 104 = .ok (.if_icmp .ne 7, 3) := by decide +kernel
theorem dX8_place_107 : decode cX8_place 107 = .ok (.iload_n 2, 1) := by decide +kernel
theorem dX8_place_108 : decode cX8_place 108 = .ok (.goto 11, 3) := by decide +kernel
theorem dX8_place_111 : decode cX8_place 111 = .ok (.aload_n 0, 1) := by decide +kernel
theorem dX8_place_112 : decode cX8_place 112 = .ok (.getfield 33, 3) := by decide +kernel
theorem dX8_place_115 : decode cX8_place 115 = .ok (.iload_n 1, 1) := by decide +kernel
theorem dX8_place_116 : decode cX8_place 116 = .ok (.iaload, 1) := by decide +kernel
theorem dX8_place_117 : decode cX8_place 117 = .ok (.iconst 1, 1) := by decide +kernel
theorem dX8_place_118 : decode cX8_place 118 = .ok (.isub, 1) := by decide +kernel
theorem dX8_place_119 : decode cX8_place 119 = .ok (.ireturn, 1) := by decide +kernel
theorem dX8_seen_0 : decode cX8_seen 0 = .ok (.aload_n 0, 1) := by decide +kernel
theorem dX8_seen_1 : decode cX8_seen 1 = .ok (.iload_n 1, 1) := by decide +kernel
theorem dX8_seen_2 : decode cX8_seen 2 = .ok (.invokevirtual 157, 3) := by decide +kernel
theorem dX8_seen_5 : decode cX8_seen 5 = .ok (.ifCond .eq 30, 3) := by decide +kernel
theorem dX8_seen_8 : decode cX8_seen 8 = .ok (.aload_n 0, 1) := by decide +kernel
theorem dX8_seen_9 : decode cX8_seen 9 = .ok (.iload_n 2, 1) := by decide +kernel
theorem dX8_seen_10 : decode cX8_seen 10 = .ok (.invokevirtual 160, 3) := by decide +kernel
theorem dX8_seen_13 : decode cX8_seen 13 = .ok (.ifCond .eq 22, 3) := by decide +kernel
theorem dX8_seen_16 : decode cX8_seen 16 = .ok (.iload_n 3, 1) := by decide +kernel
theorem dX8_seen_17 : decode cX8_seen 17 = .ok (.iconst 0, 1) := by decide +kernel
theorem dX8_seen_18 : decode cX8_seen 18 = .ok (.iconst 4, 1) := by decide +kernel
theorem dX8_seen_19 : decode cX8_seen 19 = .ok (.invokestatic 49, 3) := by decide +kernel
theorem dX8_seen_22 : decode cX8_seen 22 = .ok (.ifCond .eq 13, 3) := by decide +kernel
theorem dX8_seen_25 : decode cX8_seen 25 = .ok (.iload 4, 2) := by decide +kernel
theorem dX8_seen_27 : decode cX8_seen 27 = .ok (.iconst 0, 1) := by decide +kernel
theorem dX8_seen_28 : decode cX8_seen 28 = .ok (.iconst 5, 1) := by decide +kernel
theorem dX8_seen_29 : decode cX8_seen 29 = .ok (.invokestatic 49, 3) := by decide +kernel
theorem dX8_seen_32 : decode cX8_seen 32 = .ok (.ifCond .ne 10, 3) := by decide +kernel
theorem dX8_seen_35 : decode cX8_seen 35 = .ok (.aload_n 0, 1) := by decide +kernel
theorem dX8_seen_36 : decode cX8_seen 36 = .ok (.bipush (-2), 2) := by decide +kernel
