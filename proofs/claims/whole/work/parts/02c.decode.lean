theorem dX8_seen_38 : decode cX8_seen 38 = .ok (.invokevirtual 45, 3) := by decide +kernel
theorem dX8_seen_41 : decode cX8_seen 41 = .ok (.ireturn, 1) := by decide +kernel
theorem dX8_seen_42 : decode cX8_seen 42 = .ok (.aload_n 0, 1) := by decide +kernel
theorem dX8_seen_43 : decode cX8_seen 43 = .ok (.getfield 7, 3) := by decide +kernel
theorem dX8_seen_46 : decode cX8_seen 46 = .ok (.bipush 34, 2) := by decide +kernel
theorem dX8_seen_48 : decode cX8_seen 48 = .ok (.iaload, 1) := by decide +kernel
theorem dX8_seen_49 : decode cX8_seen 49 = .ok (.iconst 5, 1) := by decide +kernel
theorem dX8_seen_50 : decode cX8_seen 50 = .ok (.if_icmp .ne 10, 3) := by decide +kernel
theorem dX8_seen_53 : decode cX8_seen 53 = .ok (.aload_n 0, 1) := by decide +kernel
theorem dX8_seen_54 : decode cX8_seen 54 = .ok (.bipush (-4), 2) := by decide +kernel
theorem dX8_seen_56 : decode cX8_seen 56 = .ok (.invokevirtual 45, 3) := by decide +kernel
theorem dX8_seen_59 : decode cX8_seen 59 = .ok (.ireturn, 1) := by decide +kernel
theorem dX8_seen_60 : decode cX8_seen 60 = .ok (.bipush 35, 2) := by decide +kernel
theorem dX8_seen_62 : decode cX8_seen 62 = .ok (.iconst 4, 1) := by decide +kernel
theorem dX8_seen_63 : decode cX8_seen 63 = .ok (.aload_n 0, 1) := by decide +kernel
theorem dX8_seen_64 : decode cX8_seen 64 = .ok (.getfield 7, 3) := by decide +kernel
theorem dX8_seen_67 : decode cX8_seen 67 = .ok (.bipush 34, 2) := by decide +kernel
theorem dX8_seen_69 : decode cX8_seen 69 = .ok (.iaload, 1) := by decide +kernel
theorem dX8_seen_70 : decode cX8_seen 70 = .ok (.imul, 1) := by decide +kernel
theorem dX8_seen_71 : decode cX8_seen 71 = .ok (.iadd, 1) := by decide +kernel
theorem dX8_seen_72 : decode cX8_seen 72 = .ok (.istore 5, 2) := by decide +kernel
theorem dX8_seen_74 : decode cX8_seen 74 = .ok (.aload_n 0, 1) := by decide +kernel
theorem dX8_seen_75 : decode cX8_seen 75 = .ok (.getfield 7, 3) := by decide +kernel
theorem dX8_seen_78 : decode cX8_seen 78 = .ok (.iload 5, 2) := by decide +kernel
theorem dX8_seen_80 : decode cX8_seen 80 = .ok (.iload_n 1, 1) := by decide +kernel
theorem dX8_seen_81 : decode cX8_seen 81 = .ok (.iastore, 1) := by decide +kernel
theorem dX8_seen_82 : decode cX8_seen 82 = .ok (.aload_n 0, 1) := by decide +kernel
theorem dX8_seen_83 : decode cX8_seen 83 = .ok (.getfield 7, 3) := by decide +kernel
theorem dX8_seen_86 : decode cX8_seen 86 = .ok (.iload 5, 2) := by decide +kernel
theorem dX8_seen_88 : decode cX8_seen 88 = .ok (.iconst 1, 1) := by decide +kernel
theorem dX8_seen_89 : decode cX8_seen 89 = .ok (.iadd, 1) := by decide +kernel
theorem dX8_seen_90 : decode cX8_seen 90 = .ok (.iload_n 2, 1) := by decide +kernel
theorem dX8_seen_91 : decode cX8_seen 91 = .ok (.iastore, 1) := by decide +kernel
theorem dX8_seen_92 : decode cX8_seen 92 = .ok (.aload_n 0, 1) := by decide +kernel
theorem dX8_seen_93 : decode cX8_seen 93 = .ok (.getfield 7, 3) := by decide +kernel
theorem dX8_seen_96 : decode cX8_seen 96 = .ok (.iload 5, 2) := by decide +kernel
theorem dX8_seen_98 : decode cX8_seen 98 = .ok (.iconst 2, 1) := by decide +kernel
theorem dX8_seen_99 : decode cX8_seen 99 = .ok (.iadd, 1) := by decide +kernel
theorem dX8_seen_100 : decode cX8_seen 100 = .ok (.iload_n 3, 1) := by decide +kernel
theorem dX8_seen_101 : decode cX8_seen 101 = .ok (.iastore, 1) := by decide +kernel
theorem dX8_seen_102 : decode cX8_seen 102 = .ok (.aload_n 0, 1) := by decide +kernel
theorem dX8_seen_103 : decode cX8_seen 103 = .ok (.getfield 7, 3) := by decide +kernel
theorem dX8_seen_106 : decode cX8_seen 106 = .ok (.iload 5, 2) := by decide +kernel
theorem dX8_seen_108 : decode cX8_seen 108 = .ok (.iconst 3, 1) := by decide +kernel
theorem dX8_seen_109 : decode cX8_seen 109 = .ok (.iadd, 1) := by decide +kernel
theorem dX8_seen_110 : decode cX8_seen 110 = .ok (.iload 4, 2) := by decide +kernel
theorem dX8_seen_112 : decode cX8_seen 112 = .ok (.iastore, 1) := by decide +kernel
theorem dX8_seen_113 : decode cX8_seen 113 = .ok (.aload_n 0, 1) := by decide +kernel
theorem dX8_seen_114 : decode cX8_seen 114 = .ok (.getfield 7, 3) := by decide +kernel
theorem dX8_seen_117 : decode cX8_seen 117 = .ok (.bipush 34, 2) := by decide +kernel
theorem dX8_seen_119 : decode cX8_seen 119 = .ok (.dup2, 1) := by decide +kernel
theorem dX8_seen_120 : decode cX8_seen 120 = .ok (.iaload, 1) := by decide +kernel
theorem dX8_seen_121 : decode cX8_seen 121 = .ok (.iconst 1, 1) := by decide +kernel
theorem dX8_seen_122 : decode cX8_seen 122 = .ok (.iadd, 1) := by decide +kernel
theorem dX8_seen_123 : decode cX8_seen 123 = .ok (.iastore, 1) := by decide +kernel
theorem dX8_seen_124 : decode cX8_seen 124 = .ok (.aload_n 0, 1) := by decide +kernel
theorem dX8_seen_125 : decode cX8_seen 125 = .ok (.getfield 7, 3) := by decide +kernel
theorem dX8_seen_128 : decode cX8_seen 128 = .ok (.bipush 34, 2) := by decide +kernel
theorem dX8_seen_130 : decode cX8_seen 130 = .ok (.iaload, 1) := by decide +kernel
theorem dX8_seen_131 : decode cX8_seen 131 = .ok (.ireturn, 1) := by decide +kernel
theorem dX8_isSize_0 : decode cX8_isSize 0 = .ok (.iconst 1, 1) := by decide +kernel
theorem dX8_isSize_1 : decode cX8_isSize 1 = .ok (.istore_n 3, 1) := by decide +kernel
theorem dX8_isSize_2 : decode cX8_isSize 2 = .ok (.bipush 35, 2) := by decide +kernel
theorem dX8_isSize_4 : decode cX8_isSize 4 = .ok (.istore 4, 2) := by decide +kernel
theorem dX8_isSize_6 : decode cX8_isSize 6 = .ok (.iload 4, 2) := by decide +kernel
theorem dX8_isSize_8 : decode cX8_isSize 8 = .ok (.bipush 35, 2) := by decide +kernel
theorem dX8_isSize_10 : decode cX8_isSize 10 = .ok (.iconst 4, 1) := by decide +kernel
theorem dX8_isSize_11 : decode cX8_isSize 11 = .ok (.aload_n 0, 1) := by decide +kernel
theorem dX8_isSize_12 : decode cX8_isSize 12 = .ok (.getfield 7, 3) := by decide +kernel
theorem dX8_isSize_15 : decode cX8_isSize 15 = .ok (.bipush 34, 2) := by decide +kernel
theorem dX8_isSize_17 : decode cX8_isSize 17 = .ok (.iaload, 1) := by decide +kernel
theorem dX8_isSize_18 : decode cX8_isSize 18 = .ok (.imul, 1) := by decide +kernel
theorem dX8_isSize_19 : decode cX8_isSize 19 = .ok (.iadd, 1) := by decide +kernel
theorem dX8_isSize_20 : decode cX8_isSize 20 = .ok (.if_icmp .ge 80, 3) := by decide +kernel
theorem dX8_isSize_23 : decode cX8_isSize 23 = .ok (.iload_n 3, 1) := by decide +kernel
theorem dX8_isSize_24 : decode cX8_isSize 24 = .ok (.ifCond .eq 68, 3) := by decide +kernel
theorem dX8_isSize_27 : decode cX8_isSize 27 = .ok (.aload_n 0, 1) := by decide +kernel
theorem dX8_isSize_28 : decode cX8_isSize 28 = .ok (.getfield 7, 3) := by decide +kernel
theorem dX8_isSize_31 : decode cX8_isSize 31 = .ok (.iload 4, 2) := by decide +kernel
theorem dX8_isSize_33 : decode cX8_isSize 33 = .ok (.iaload, 1) := by decide +kernel
theorem dX8_isSize_34 : decode cX8_isSize 34 = .ok (.iload_n 1, 1) := by decide +kernel
theorem dX8_isSize_35 : decode cX8_isSize 35 = .ok (.if_icmp .ne 53, 3) := by decide +kernel
theorem dX8_isSize_38 : decode cX8_isSize 38 = .ok (.aload_n 0, 1) := by decide +kernel
theorem dX8_isSize_39 : decode cX8_isSize 39 = .ok (.getfield 7, 3) := by decide +kernel
theorem dX8_isSize_42 : decode cX8_isSize 42 = .ok (.bipush 13, 2) := by decide +kernel
theorem dX8_isSize_44 : decode cX8_isSize 44 = .ok (.iload_n 1, 1) := by decide +kernel
theorem dX8_isSize_45 : decode cX8_isSize 45 = .ok (.iadd, 1) := by decide +kernel
theorem dX8_isSize_46 : decode cX8_isSize 46 = .ok (.iaload, 1) := by decide +kernel
theorem dX8_isSize_47 : decode cX8_isSize 47 = .ok (.iload_n 2, 1) := by decide +kernel
theorem dX8_isSize_48 : decode cX8_isSize 48 = .ok (.aload_n 0, 1) := by decide +kernel
theorem dX8_isSize_49 : decode cX8_isSize 49 = .ok (.aload_n 0, 1) := by decide +kernel
theorem dX8_isSize_50 : decode cX8_isSize 50 = .ok (.getfield 7, 3) := by decide +kernel
theorem dX8_isSize_53 : decode cX8_isSize 53 = .ok (.iload 4, 2) := by decide +kernel
theorem dX8_isSize_55 : decode cX8_isSize 55 = .ok (.iconst 1, 1) := by decide +kernel
theorem dX8_isSize_56 : decode cX8_isSize 56 = .ok (.iadd, 1) := by decide +kernel
theorem dX8_isSize_57 : decode cX8_isSize 57 = .ok (.iaload, 1) := by decide +kernel
theorem dX8_isSize_58 : decode cX8_isSize 58 = .ok (.aload_n 0, 1) := by decide +kernel
theorem dX8_isSize_59 : decode cX8_isSize 59 = .ok (.getfield 7, 3) := by decide +kernel
theorem dX8_isSize_62 : decode cX8_isSize 62 = .ok (.iload 4, 2) := by decide +kernel
theorem dX8_isSize_64 : decode cX8_isSize 64 = .ok (.iconst 2, 1) := by decide +kernel
theorem dX8_isSize_65 : decode cX8_isSize 65 = .ok (.iadd, 1) := by decide +kernel
theorem dX8_isSize_66 : decode cX8_isSize 66 = .ok (.iaload, 1) := by decide +kernel
theorem dX8_isSize_67 : decode cX8_isSize 67 = .ok (.invokevirtual 139, 3) := by decide +kernel
theorem dX8_isSize_70 : decode cX8_isSize 70 = .ok (.invokestatic 142, 3) := by decide +kernel
theorem dX8_isSize_73 : decode cX8_isSize 73 = .ok (.invokestatic 148, 3) := by decide +kernel
theorem dX8_isSize_76 : decode cX8_isSize 76 = .ok (.aload_n 0, 1) := by decide +kernel
theorem dX8_isSize_77 : decode cX8_isSize 77 = .ok (.getfield 7, 3) := by decide +kernel
theorem dX8_isSize_80 : decode cX8_isSize 80 = .ok (.iload 4, 2) := by decide +kernel
theorem dX8_isSize_82 : decode cX8_isSize 82 = .ok (.iconst 3, 1) := by decide +kernel
theorem dX8_isSize_83 : decode cX8_isSize 83 = .ok (.iadd, 1) := by decide +kernel
theorem dX8_isSize_84 : decode cX8_isSize 84 = .ok (.iaload, 1) := by decide +kernel
theorem dX8_isSize_85 : decode cX8_isSize 85 = .ok (.if_icmp .ne 7, 3) := by decide +kernel
theorem dX8_isSize_88 : decode cX8_isSize 88 = .ok (.iconst 1, 1) := by decide +kernel
theorem dX8_isSize_89 : decode cX8_isSize 89 = .ok (.goto 4, 3) := by decide +kernel
theorem dX8_isSize_92 : decode cX8_isSize 92 = .ok (.iconst 0, 1) := by decide +kernel
theorem dX8_isSize_93 : decode cX8_isSize 93 = .ok (.istore_n 3, 1) := by decide +kernel
theorem dX8_isSize_94 : decode cX8_isSize 94 = .ok (.iinc 4 4, 3) := by decide +kernel
theorem dX8_isSize_97 : decode cX8_isSize 97 = .ok (.goto (-91), 3) := by decide +kernel
theorem dX8_isSize_100 : decode cX8_isSize 100 = .ok (.iload_n 3, 1) := by decide +kernel
theorem dX8_isSize_101 : decode cX8_isSize 101 = .ok (.ireturn, 1) := by decide +kernel
theorem dX8_sizes_0 : decode cX8_sizes 0 = .ok (.aload_n 0, 1) := by decide +kernel
theorem dX8_sizes_1 : decode cX8_sizes 1 = .ok (.iload_n 1, 1) := by decide +kernel
theorem dX8_sizes_2 : decode cX8_sizes 2 = .ok (.invokevirtual 157, 3) := by decide +kernel
theorem dX8_sizes_5 : decode cX8_sizes 5 = .ok (.ifCond .eq 12, 3) := by decide +kernel
theorem dX8_sizes_8 : decode cX8_sizes 8 = .ok (.iload_n 2, 1) := by decide +kernel
theorem dX8_sizes_9 : decode cX8_sizes 9 = .ok (.iconst 0, 1) := by decide +kernel
theorem dX8_sizes_10 : decode cX8_sizes 10 = .ok (.iconst 2, 1) := by decide +kernel
theorem dX8_sizes_11 : decode cX8_sizes 11 = .ok (.invokestatic 49, 3) := by decide +kernel
theorem dX8_sizes_14 : decode cX8_sizes 14 = .ok (.ifCond .ne 10, 3) := by decide +kernel
theorem dX8_sizes_17 : decode cX8_sizes 17 = .ok (.aload_n 0, 1) := by decide +kernel
theorem dX8_sizes_18 : decode cX8_sizes 18 = .ok (.bipush (-2), 2) := by decide +kernel
theorem dX8_sizes_20 : decode cX8_sizes 20 = .ok (.invokevirtual 45, 3) := by decide +kernel
theorem dX8_sizes_23 : decode cX8_sizes 23 = .ok (.ireturn, 1) := by decide +kernel
theorem dX8_sizes_24 : decode cX8_sizes 24 = .ok (.iconst 0, 1) := by decide +kernel
theorem dX8_sizes_25 : decode cX8_sizes 25 = .ok (.istore_n 3, 1) := by decide +kernel
theorem dX8_sizes_26 : decode cX8_sizes 26 = .ok (.iconst (-1), 1) := by decide +kernel
theorem dX8_sizes_27 : decode cX8_sizes 27 = .ok (.istore 4, 2) := by decide +kernel
theorem dX8_sizes_29 : decode cX8_sizes 29 = .ok (.iconst (-1), 1) := by decide +kernel
theorem dX8_sizes_30 : decode cX8_sizes 30 = .ok (.istore 5, 2) := by decide +kernel
theorem dX8_sizes_32 : decode cX8_sizes 32 = .ok (.iconst 1, 1) := by decide +kernel
theorem dX8_sizes_33 : decode cX8_sizes 33 = .ok (.istore 6, 2) := by decide +kernel
theorem dX8_sizes_35 : decode cX8_sizes 35 = .ok (.iload 6, 2) := by decide +kernel
theorem dX8_sizes_37 : decode cX8_sizes 37 = .ok (.bipush 31, 2) := by decide +kernel
theorem dX8_sizes_39 : decode cX8_sizes 39 = .ok (.if_icmp .ge 65, 3) := by decide +kernel
theorem dX8_sizes_42 : decode cX8_sizes 42 = .ok (.aload_n 0, 1) := by decide +kernel
theorem dX8_sizes_43 : decode cX8_sizes 43 = .ok (.iload_n 1, 1) := by decide +kernel
theorem dX8_sizes_44 : decode cX8_sizes 44 = .ok (.iload 6, 2) := by decide +kernel
theorem dX8_sizes_46 : decode cX8_sizes 46 = .ok (.invokevirtual 185, 3) := by decide +kernel
theorem dX8_sizes_49 : decode cX8_sizes 49 = .ok (.istore 7, 2) := by decide +kernel
theorem dX8_sizes_51 : decode cX8_sizes 51 = .ok (.iload_n 3, 1) := by decide +kernel
theorem dX8_sizes_52 : decode cX8_sizes 52 = .ok (.iload 7, 2) := by decide +kernel
theorem dX8_sizes_54 : decode cX8_sizes 54 = .ok (.ifCond .eq 7, 3) := by decide +kernel
theorem dX8_sizes_57 : decode cX8_sizes 57 = .ok (.iconst 1, 1) := by decide +kernel
theorem dX8_sizes_58 : decode cX8_sizes 58 = .ok (.goto 4, 3) := by decide +kernel
theorem dX8_sizes_61 : decode cX8_sizes 61 = .ok (.iconst 0, 1) := by decide +kernel
theorem dX8_sizes_62 : decode cX8_sizes 62 = .ok (.iadd, 1) := by decide +kernel
theorem dX8_sizes_63 : decode cX8_sizes 63 = .ok (.istore_n 3, 1) := by decide +kernel
theorem dX8_sizes_64 : decode cX8_sizes 64 = .ok (.iload 7, 2) := by decide +kernel
theorem dX8_sizes_66 : decode cX8_sizes 66 = .ok (.ifCond .eq 14, 3) := by decide +kernel
theorem dX8_sizes_69 : decode cX8_sizes 69 = .ok (.iload 4, 2) := by decide +kernel
theorem dX8_sizes_71 : decode cX8_sizes 71 = .ok (.iconst (-1), 1) := by decide +kernel
theorem dX8_sizes_72 : decode cX8_sizes 72 = .ok (.if_icmp .ne 8, 3) := by decide +kernel
theorem dX8_sizes_75 : decode cX8_sizes 75 = .ok (.iload 6, 2) := by decide +kernel
theorem dX8_sizes_77 : decode cX8_sizes 77 = .ok (.goto 5, 3) := by decide +kernel
theorem dX8_sizes_80 : decode cX8_sizes 80 = .ok (.iload 4, 2) := by decide +kernel
theorem dX8_sizes_82 : decode cX8_sizes 82 = .ok (.istore 4, 2) := by decide +kernel
theorem dX8_sizes_84 : decode cX8_sizes 84 = .ok (.iload 7, 2) := by decide +kernel
theorem dX8_sizes_86 : decode cX8_sizes 86 = .ok (.ifCond .eq 8, 3) := by decide +kernel
theorem dX8_sizes_89 : decode cX8_sizes 89 = .ok (.iload 6, 2) := by decide +kernel
theorem dX8_sizes_91 : decode cX8_sizes 91 = .ok (.goto 5, 3) := by decide +kernel
theorem dX8_sizes_94 : decode cX8_sizes 94 = .ok (.iload 5, 2) := by decide +kernel
theorem dX8_sizes_96 : decode cX8_sizes 96 = .ok (.istore 5, 2) := by decide +kernel
theorem dX8_sizes_98 : decode cX8_sizes 98 = .ok (.iinc 6 1, 3) := by decide +kernel
theorem dX8_sizes_101 : decode cX8_sizes 101 = .ok (.goto (-66), 3) := by decide +kernel
theorem dX8_sizes_104 : decode cX8_sizes 104 = .ok (.iload_n 2, 1) := by decide +kernel
theorem dX8_sizes_105 : decode cX8_sizes 105 = .ok (.ifCond .ne 7, 3) := by decide +kernel
theorem dX8_sizes_108 : decode cX8_sizes 108 = .ok (.iload_n 3, 1) := by decide +kernel
theorem dX8_sizes_109 : decode cX8_sizes 109 = .ok (.goto 15, 3) := by decide +kernel
theorem dX8_sizes_112 : decode cX8_sizes 112 = .ok (.iload_n 2, 1) := by decide +kernel
theorem dX8_sizes_113 : decode cX8_sizes 113 = .ok (.iconst 1, 1) := by decide +kernel
theorem dX8_sizes_114 : decode cX8_sizes 114 = .ok (.if_icmp .ne 8, 3) := by decide +kernel
theorem dX8_sizes_117 : decode cX8_sizes 117 = .ok (.iload 4, 2) := by decide +kernel
theorem dX8_sizes_119 : decode cX8_sizes 119 = .ok (.goto 5, 3) := by decide +kernel
theorem dX8_sizes_122 : decode cX8_sizes 122 = .ok (.iload 5, 2) := by decide +kernel
theorem dX8_sizes_124 : decode cX8_sizes 124 = .ok (.ireturn, 1) := by decide +kernel
theorem dX8_mostAt_0 : decode cX8_mostAt 0 = .ok (.iconst 0, 1) := by decide +kernel
theorem dX8_mostAt_1 : decode cX8_mostAt 1 = .ok (.istore_n 3, 1) := by decide +kernel
theorem dX8_mostAt_2 : decode cX8_mostAt 2 = .ok (.iconst 0, 1) := by decide +kernel
theorem dX8_mostAt_3 : decode cX8_mostAt 3 = .ok (.istore 4, 2) := by decide +kernel
theorem dX8_mostAt_5 : decode cX8_mostAt 5 = .ok (.iload 4, 2) := by decide +kernel
theorem dX8_mostAt_7 : decode cX8_mostAt 7 = .ok (.bipush 6, 2) := by decide +kernel
theorem dX8_mostAt_9 : decode cX8_mostAt 9 = .ok (.if_icmp .ge 95, 3) := by decide +kernel
theorem dX8_mostAt_12 : decode cX8_mostAt 12 = .ok (.iconst 0, 1) := by decide +kernel
theorem dX8_mostAt_13 : decode cX8_mostAt 13 = .ok (.istore 5, 2) := by decide +kernel
theorem dX8_mostAt_15 : decode cX8_mostAt 15 = .ok (.iconst 1, 1) := by decide +kernel
theorem dX8_mostAt_16 : decode cX8_mostAt 16 = .ok (.istore 6, 2) := by decide +kernel
theorem dX8_mostAt_18 : decode cX8_mostAt 18 = .ok (.iload 6, 2) := by decide +kernel
theorem dX8_mostAt_20 : decode cX8_mostAt 20 = .ok (.bipush 31, 2) := by decide +kernel
theorem dX8_mostAt_22 : decode cX8_mostAt 22 = .ok (.if_icmp .ge 63, 3) := by decide +kernel
theorem dX8_mostAt_25 : decode cX8_mostAt 25 = .ok (.iload 5, 2) := by decide +kernel
theorem dX8_mostAt_27 : decode cX8_mostAt 27 = .ok (.aload_n 0, 1) := by decide +kernel
theorem dX8_mostAt_28 : decode cX8_mostAt 28 = .ok (.iload_n 1, 1) := by decide +kernel
theorem dX8_mostAt_29 : decode cX8_mostAt 29 = .ok (.iload 6, 2) := by decide +kernel
theorem dX8_mostAt_31 : decode cX8_mostAt 31 = .ok (.invokevirtual 185, 3) := by decide +kernel
theorem dX8_mostAt_34 : decode cX8_mostAt 34 = .ok (.ifCond .eq 41, 3) := by decide +kernel
theorem dX8_mostAt_37 : decode cX8_mostAt 37 = .ok (.aload_n 0, 1) := by decide +kernel
theorem dX8_mostAt_38 : decode cX8_mostAt 38 = .ok (.getfield 7, 3) := by decide +kernel
theorem dX8_mostAt_41 : decode cX8_mostAt 41 = .ok (.bipush 13, 2) := by decide +kernel
theorem dX8_mostAt_43 : decode cX8_mostAt 43 = .ok (.iload_n 1, 1) := by decide +kernel
theorem dX8_mostAt_44 : decode cX8_mostAt 44 = .ok (.iadd, 1) := by decide +kernel
theorem dX8_mostAt_45 : decode cX8_mostAt 45 = .ok (.iaload, 1) := by decide +kernel
theorem dX8_mostAt_46 : decode cX8_mostAt 46 = .ok (.iload 6, 2) := by decide +kernel
theorem dX8_mostAt_48 : decode cX8_mostAt 48 = .ok (.aload_n 0, 1) := by decide +kernel
theorem dX8_mostAt_49 : decode cX8_mostAt 49 = .ok (.iload_n 2, 1) := by decide +kernel
theorem dX8_mostAt_50 : decode cX8_mostAt 50 = .ok (.aload_n 0, 1) := by decide +kernel
theorem dX8_mostAt_51 : decode cX8_mostAt 51 = .ok (.getfield 7, 3) := by decide +kernel
theorem dX8_mostAt_54 : decode cX8_mostAt 54 = .ok (.bipush 10, 2) := by decide +kernel
theorem dX8_mostAt_56 : decode cX8_mostAt 56 = .ok (.iaload, 1) := by decide +kernel
theorem dX8_mostAt_57 : decode cX8_mostAt 57 = .ok (.invokevirtual 139, 3) := by decide +kernel
theorem dX8_mostAt_60 : decode cX8_mostAt 60 = .ok (.invokestatic 142, 3) := by decide +kernel
theorem dX8_mostAt_63 : decode cX8_mostAt 63 = .ok (.invokestatic 148, 3) := by decide +kernel
theorem dX8_mostAt_66 : decode cX8_mostAt 66 = .ok (.iload 4, 2) := by decide +kernel
theorem dX8_mostAt_68 : decode cX8_mostAt 68 = .ok (.if_icmp .ne 7, 3) := by decide +kernel
theorem dX8_mostAt_71 : decode cX8_mostAt 71 = .ok (.iconst 1, 1) := by decide +kernel
theorem dX8_mostAt_72 : decode cX8_mostAt 72 = .ok (.goto 4, 3) := by decide +kernel
theorem dX8_mostAt_75 : decode cX8_mostAt 75 = .ok (.iconst 0, 1) := by decide +kernel
theorem dX8_mostAt_76 : decode cX8_mostAt 76 = .ok (.iadd, 1) := by decide +kernel
theorem dX8_mostAt_77 : decode cX8_mostAt 77 = .ok (.istore 5, 2) := by decide +kernel
theorem dX8_mostAt_79 : decode cX8_mostAt 79 = .ok (.iinc 6 1, 3) := by decide +kernel
theorem dX8_mostAt_82 : decode cX8_mostAt 82 = .ok (.goto (-64), 3) := by decide +kernel
theorem dX8_mostAt_85 : decode cX8_mostAt 85 = .ok (.iload 5, 2) := by decide +kernel
theorem dX8_mostAt_87 : decode cX8_mostAt 87 = .ok (.iload_n 3, 1) := by decide +kernel
theorem dX8_mostAt_88 : decode cX8_mostAt 88 = .ok (.if_icmp .le 8, 3) := by decide +kernel
theorem dX8_mostAt_91 : decode cX8_mostAt 91 = .ok (.iload 5, 2) := by decide +kernel
theorem dX8_mostAt_93 : decode cX8_mostAt 93 = .ok (.goto 4, 3) := by decide +kernel
theorem dX8_mostAt_96 : decode cX8_mostAt 96 = .ok (.iload_n 3, 1) := by decide +kernel
theorem dX8_mostAt_97 : decode cX8_mostAt 97 = .ok (.istore_n 3, 1) := by decide +kernel
theorem dX8_mostAt_98 : decode cX8_mostAt 98 = .ok (.iinc 4 1, 3) := by decide +kernel
theorem dX8_mostAt_101 : decode cX8_mostAt 101 = .ok (.goto (-96), 3) := by decide +kernel
theorem dX8_mostAt_104 : decode cX8_mostAt 104 = .ok (.iload_n 3, 1) := by decide +kernel
theorem dX8_mostAt_105 : decode cX8_mostAt 105 = .ok (.ireturn, 1) := by decide +kernel
theorem dX8_tell_0 : decode cX8_tell 0 = .ok (.aload_n 0, 1) := by decide +kernel
theorem dX8_tell_1 : decode cX8_tell 1 = .ok (.iload_n 1, 1) := by decide +kernel
theorem dX8_tell_2 : decode cX8_tell 2 = .ok (.invokevirtual 157, 3) := by decide +kernel
theorem dX8_tell_5 : decode cX8_tell 5 = .ok (.ifCond .ne 10, 3) := by decide +kernel
theorem dX8_tell_8 : decode cX8_tell 8 = .ok (.aload_n 0, 1) := by decide +kernel
theorem dX8_tell_9 : decode cX8_tell 9 = .ok (.bipush (-2), 2) := by decide +kernel
theorem dX8_tell_11 : decode cX8_tell 11 = .ok (.invokevirtual 45, 3) := by decide +kernel
theorem dX8_tell_14 : decode cX8_tell 14 = .ok (.ireturn, 1) := by decide +kernel
theorem dX8_tell_15 : decode cX8_tell 15 = .ok (.iconst (-1), 1) := by decide +kernel
theorem dX8_tell_16 : decode cX8_tell 16 = .ok (.istore_n 2, 1) := by decide +kernel
theorem dX8_tell_17 : decode cX8_tell 17 = .ok (.bipush 99, 2) := by decide +kernel
theorem dX8_tell_19 : decode cX8_tell 19 = .ok (.istore_n 3, 1) := by decide +kernel
theorem dX8_tell_20 : decode cX8_tell 20 = .ok (.iconst 0, 1) := by decide +kernel
theorem dX8_tell_21 : decode cX8_tell 21 = .ok (.istore 4, 2) := by decide +kernel
theorem dX8_tell_23 : decode cX8_tell 23 = .ok (.iload 4, 2) := by decide +kernel
theorem dX8_tell_25 : decode cX8_tell 25 = .ok (.aload_n 0, 1) := by decide +kernel
theorem dX8_tell_26 : decode cX8_tell 26 = .ok (.getfield 7, 3) := by decide +kernel
theorem dX8_tell_29 : decode cX8_tell 29 = .ok (.bipush 25, 2) := by decide +kernel
theorem dX8_tell_31 : decode cX8_tell 31 = .ok (.iaload, 1) := by decide +kernel
theorem dX8_tell_32 : decode cX8_tell 32 = .ok (.if_icmp .ge 49, 3) := by decide +kernel
theorem dX8_tell_35 : decode cX8_tell 35 = .ok (.aload_n 0, 1) := by decide +kernel
theorem dX8_tell_36 : decode cX8_tell 36 = .ok (.iload_n 1, 1) := by decide +kernel
theorem dX8_tell_37 : decode cX8_tell 37 = .ok (.iload 4, 2) := by decide +kernel
theorem dX8_tell_39 : decode cX8_tell 39 = .ok (.invokevirtual 188, 3) := by decide +kernel
theorem dX8_tell_42 : decode cX8_tell 42 = .ok (.istore 5, 2) := by decide +kernel
theorem dX8_tell_44 : decode cX8_tell 44 = .ok (.iload 5, 2) := by decide +kernel
theorem dX8_tell_46 : decode cX8_tell 46 = .ok (.ifCond .le 14, 3) := by decide +kernel
theorem dX8_tell_49 : decode cX8_tell 49 = .ok (.iload 5, 2) := by decide +kernel
theorem dX8_tell_51 : decode cX8_tell 51 = .ok (.iload_n 3, 1) := by decide +kernel
theorem dX8_tell_52 : decode cX8_tell 52 = .ok (.if_icmp .ge 8, 3) := by decide +kernel
theorem dX8_tell_55 : decode cX8_tell 55 = .ok (.iload 4, 2) := by decide +kernel
theorem dX8_tell_57 : decode cX8_tell 57 = .ok (.goto 4, 3) := by decide +kernel
theorem dX8_tell_60 : decode cX8_tell 60 = .ok (.iload_n 2, 1) := by decide +kernel
theorem dX8_tell_61 : decode cX8_tell 61 = .ok (.istore_n 2, 1) := by decide +kernel
theorem dX8_tell_62 : decode cX8_tell 62 = .ok (.iload 5, 2) := by decide +kernel
theorem dX8_tell_64 : decode cX8_tell 64 = .ok (.iload_n 3, 1) := by decide +kernel
theorem dX8_tell_65 : decode cX8_tell 65 = .ok (.if_icmp .ge 8, 3) := by decide +kernel
theorem dX8_tell_68 : decode cX8_tell 68 = .ok (.iload 5, 2) := by decide +kernel
theorem dX8_tell_70 : decode cX8_tell 70 = .ok (.goto 4, 3) := by decide +kernel
theorem dX8_tell_73 : decode cX8_tell 73 = .ok (.iload_n 3, 1) := by decide +kernel
theorem dX8_tell_74 : decode cX8_tell 74 = .ok (.istore_n 3, 1) := by decide +kernel
theorem dX8_tell_75 : decode cX8_tell 75 = .ok (.iinc 4 1, 3) := by decide +kernel
theorem dX8_tell_78 : decode cX8_tell 78 = .ok (.goto (-55), 3) := by decide +kernel
theorem dX8_tell_81 : decode cX8_tell 81 = .ok (.iload_n 2, 1) := by decide +kernel
theorem dX8_tell_82 : decode cX8_tell 82 = .ok (.ireturn, 1) := by decide +kernel
theorem dX8_note_0 : decode cX8_note 0 = .ok (.aload_n 0, 1) := by decide +kernel
theorem dX8_note_1 : decode cX8_note 1 = .ok (.iload_n 1, 1) := by decide +kernel
theorem dX8_note_2 : decode cX8_note 2 = .ok (.invokevirtual 157, 3) := by decide +kernel
theorem dX8_note_5 : decode cX8_note 5 = .ok (.ifCond .eq 33, 3) := by decide +kernel
theorem dX8_note_8 : decode cX8_note 8 = .ok (.iload_n 2, 1) := by decide +kernel
theorem dX8_note_9 : decode cX8_note 9 = .ok (.iconst 1, 1) := by decide +kernel
theorem dX8_note_10 : decode cX8_note 10 = .ok (.bipush 30, 2) := by decide +kernel
theorem dX8_note_12 : decode cX8_note 12 = .ok (.invokestatic 49, 3) := by decide +kernel
theorem dX8_note_15 : decode cX8_note 15 = .ok (.ifCond .eq 23, 3) := by decide +kernel
theorem dX8_note_18 : decode cX8_note 18 = .ok (.iload_n 3, 1) := by decide +kernel
theorem dX8_note_19 : decode cX8_note 19 = .ok (.iconst 0, 1) := by decide +kernel
theorem dX8_note_20 : decode cX8_note 20 = .ok (.iconst 4, 1) := by decide +kernel
theorem dX8_note_21 : decode cX8_note 21 = .ok (.invokestatic 49, 3) := by decide +kernel
theorem dX8_note_24 : decode cX8_note 24 = .ok (.ifCond .eq 14, 3) := by decide +kernel
theorem dX8_note_27 : decode cX8_note 27 = .ok (.iload 4, 2) := by decide +kernel
theorem dX8_note_29 : decode cX8_note 29 = .ok (.iconst 0, 1) := by decide +kernel
theorem dX8_note_30 : decode cX8_note 30 = .ok (.bipush 60, 2) := by decide +kernel
theorem dX8_note_32 : decode cX8_note 32 = .ok (.invokestatic 49, 3) := by decide +kernel
theorem dX8_note_35 : decode cX8_note 35 = .ok (.ifCond .ne 10, 3) := by decide +kernel
theorem dX8_note_38 : decode cX8_note 38 = .ok (.aload_n 0, 1) := by decide +kernel
theorem dX8_note_39 : decode cX8_note 39 = .ok (.bipush (-2), 2) := by decide +kernel
theorem dX8_note_41 : decode cX8_note 41 = .ok (.invokevirtual 45, 3) := by decide +kernel
theorem dX8_note_44 : decode cX8_note 44 = .ok (.ireturn, 1) := by decide +kernel
theorem dX8_note_45 : decode cX8_note 45 = .ok (.aload_n 0, 1) := by decide +kernel
theorem dX8_note_46 : decode cX8_note 46 = .ok (.getfield 7, 3) := by decide +kernel
theorem dX8_note_49 : decode cX8_note 49 = .ok (.bipush 55, 2) := by decide +kernel
theorem dX8_note_51 : decode cX8_note 51 = .ok (.iaload, 1) := by decide +kernel
theorem dX8_note_52 : decode cX8_note 52 = .ok (.bipush 6, 2) := by decide +kernel
theorem dX8_note_54 : decode cX8_note 54 = .ok (.if_icmp .ne 10, 3) := by decide +kernel
theorem dX8_note_57 : decode cX8_note 57 = .ok (.aload_n 0, 1) := by decide +kernel
theorem dX8_note_58 : decode cX8_note 58 = .ok (.bipush (-4), 2) := by decide +kernel
theorem dX8_note_60 : decode cX8_note 60 = .ok (.invokevirtual 45, 3) := by decide +kernel
theorem dX8_note_63 : decode cX8_note 63 = .ok (.ireturn, 1) := by decide +kernel
theorem dX8_note_64 : decode cX8_note 64 = .ok (.bipush 56, 2) := by decide +kernel
theorem dX8_note_66 : decode cX8_note 66 = .ok (.iconst 4, 1) := by decide +kernel
theorem dX8_note_67 : decode cX8_note 67 = .ok (.aload_n 0, 1) := by decide +kernel
theorem dX8_note_68 : decode cX8_note 68 = .ok (.getfield 7, 3) := by decide +kernel
theorem dX8_note_71 : decode cX8_note 71 = .ok (.bipush 55, 2) := by decide +kernel
theorem dX8_note_73 : decode cX8_note 73 = .ok (.iaload, 1) := by decide +kernel
theorem dX8_note_74 : decode cX8_note 74 = .ok (.imul, 1) := by decide +kernel
theorem dX8_note_75 : decode cX8_note 75 = .ok (.iadd, 1) := by decide +kernel
theorem dX8_note_76 : decode cX8_note 76 = .ok (.istore 5, 2) := by decide +kernel
theorem dX8_note_78 : decode cX8_note 78 = .ok (.aload_n 0, 1) := by decide +kernel
theorem dX8_note_79 : decode cX8_note 79 = .ok (.getfield 7, 3) := by decide +kernel
theorem dX8_note_82 : decode cX8_note 82 = .ok (.iload 5, 2) := by decide +kernel
theorem dX8_note_84 : decode cX8_note 84 = .ok (.iload_n 1, 1) := by decide +kernel
theorem dX8_note_85 : decode cX8_note 85 = .ok (.iastore, 1) := by decide +kernel
theorem dX8_note_86 : decode cX8_note 86 = .ok (.aload_n 0, 1) := by decide +kernel
theorem dX8_note_87 : decode cX8_note 87 = .ok (.getfield 7, 3) := by decide +kernel
theorem dX8_note_90 : decode cX8_note 90 = .ok (.iload 5, 2) := by decide +kernel
theorem dX8_note_92 : decode cX8_note 92 = .ok (.iconst 1, 1) := by decide +kernel
theorem dX8_note_93 : decode cX8_note 93 = .ok (.iadd, 1) := by decide +kernel
theorem dX8_note_94 : decode cX8_note 94 = .ok (.iload_n 2, 1) := by decide +kernel
theorem dX8_note_95 : decode cX8_note 95 = .ok (.iastore, 1) := by decide +kernel
theorem dX8_note_96 : decode cX8_note 96 = .ok (.aload_n 0, 1) := by decide +kernel
theorem dX8_note_97 : decode cX8_note 97 = .ok (.getfield 7, 3) := by decide +kernel
theorem dX8_note_100 : decode cX8_note 100 = .ok (.iload 5, 2) := by decide +kernel
theorem dX8_note_102 : decode cX8_note 102 = .ok (.iconst 2, 1) := by decide +kernel
theorem dX8_note_103 : decode cX8_note 103 = .ok (.iadd, 1) := by decide +kernel
theorem dX8_note_104 : decode cX8_note 104 = .ok (.iload_n 3, 1) := by decide +kernel
theorem dX8_note_105 : decode cX8_note 105 = .ok (.iastore, 1) := by decide +kernel
theorem dX8_note_106 : decode cX8_note 106 = .ok (.aload_n 0, 1) := by decide +kernel
theorem dX8_note_107 : decode cX8_note 107 = .ok (.getfield 7, 3) := by decide +kernel
theorem dX8_note_110 : decode cX8_note 110 = .ok (.iload 5, 2) := by decide +kernel
theorem dX8_note_112 : decode cX8_note 112 = .ok (.iconst 3, 1) := by decide +kernel
theorem dX8_note_113 : decode cX8_note 113 = .ok (.iadd, 1) := by decide +kernel
theorem dX8_note_114 : decode cX8_note 114 = .ok (.iload 4, 2) := by decide +kernel
theorem dX8_note_116 : decode cX8_note 116 = .ok (.iastore, 1) := by decide +kernel
theorem dX8_note_117 : decode cX8_note 117 = .ok (.aload_n 0, 1) := by decide +kernel
theorem dX8_note_118 : decode cX8_note 118 = .ok (.getfield 7, 3) := by decide +kernel
theorem dX8_note_121 : decode cX8_note 121 = .ok (.bipush 55, 2) := by decide +kernel
theorem dX8_note_123 : decode cX8_note 123 = .ok (.dup2, 1) := by decide +kernel
theorem dX8_note_124 : decode cX8_note 124 = .ok (.iaload, 1) := by decide +kernel
theorem dX8_note_125 : decode cX8_note 125 = .ok (.iconst 1, 1) := by decide +kernel
theorem dX8_note_126 : decode cX8_note 126 = .ok (.iadd, 1) := by decide +kernel
theorem dX8_note_127 : decode cX8_note 127 = .ok (.iastore, 1) := by decide +kernel
theorem dX8_note_128 : decode cX8_note 128 = .ok (.aload_n 0, 1) := by decide +kernel
theorem dX8_note_129 : decode cX8_note 129 = .ok (.getfield 7, 3) := by decide +kernel
theorem dX8_note_132 : decode cX8_note 132 = .ok (.bipush 55, 2) := by decide +kernel
theorem dX8_note_134 : decode cX8_note 134 = .ok (.iaload, 1) := by decide +kernel
theorem dX8_note_135 : decode cX8_note 135 = .ok (.ireturn, 1) := by decide +kernel
theorem dX8_mark_0 : decode cX8_mark 0 = .ok (.aload_n 0, 1) := by decide +kernel
theorem dX8_mark_1 : decode cX8_mark 1 = .ok (.iload_n 1, 1) := by decide +kernel
theorem dX8_mark_2 : decode cX8_mark 2 = .ok (.invokevirtual 160, 3) := by decide +kernel
theorem dX8_mark_5 : decode cX8_mark 5 = .ok (.ifCond .eq 43, 3) := by decide +kernel
theorem dX8_mark_8 : decode cX8_mark 8 = .ok (.iload_n 2, 1) := by decide +kernel
theorem dX8_mark_9 : decode cX8_mark 9 = .ok (.iconst 1, 1) := by decide +kernel
theorem dX8_mark_10 : decode cX8_mark 10 = .ok (.bipush 30, 2) := by decide +kernel
theorem dX8_mark_12 : decode cX8_mark 12 = .ok (.invokestatic 49, 3) := by decide +kernel
theorem dX8_mark_15 : decode cX8_mark 15 = .ok (.ifCond .eq 33, 3) := by decide +kernel
theorem dX8_mark_18 : decode cX8_mark 18 = .ok (.iload_n 3, 1) := by decide +kernel
theorem dX8_mark_19 : decode cX8_mark 19 = .ok (.iconst 0, 1) := by decide +kernel
theorem dX8_mark_20 : decode cX8_mark 20 = .ok (.iconst 4, 1) := by decide +kernel
theorem dX8_mark_21 : decode cX8_mark 21 = .ok (.invokestatic 49, 3) := by decide +kernel
theorem dX8_mark_24 : decode cX8_mark 24 = .ok (.ifCond .eq 24, 3) := by decide +kernel
theorem dX8_mark_27 : decode cX8_mark 27 = .ok (.iload 4, 2) := by decide +kernel
theorem dX8_mark_29 : decode cX8_mark 29 = .ok (.iconst 0, 1) := by decide +kernel
theorem dX8_mark_30 : decode cX8_mark 30 = .ok (.bipush 60, 2) := by decide +kernel
theorem dX8_mark_32 : decode cX8_mark 32 = .ok (.invokestatic 49, 3) := by decide +kernel
theorem dX8_mark_35 : decode cX8_mark 35 = .ok (.ifCond .eq 13, 3) := by decide +kernel
theorem dX8_mark_38 : decode cX8_mark 38 = .ok (.iload 5, 2) := by decide +kernel
theorem dX8_mark_40 : decode cX8_mark 40 = .ok (.iconst 0, 1) := by decide +kernel
theorem dX8_mark_41 : decode cX8_mark 41 = .ok (.iconst 1, 1) := by decide +kernel
theorem dX8_mark_42 : decode cX8_mark 42 = .ok (.invokestatic 49, 3) := by decide +kernel
theorem dX8_mark_45 : decode cX8_mark 45 = .ok (.ifCond .ne 10, 3) := by decide +kernel
theorem dX8_mark_48 : decode cX8_mark 48 = .ok (.aload_n 0, 1) := by decide +kernel
theorem dX8_mark_49 : decode cX8_mark 49 = .ok (.bipush (-2), 2) := by decide +kernel
theorem dX8_mark_51 : decode cX8_mark 51 = .ok (.invokevirtual 45, 3) := by decide +kernel
theorem dX8_mark_54 : decode cX8_mark 54 = .ok (.ireturn, 1) := by decide +kernel
theorem dX8_mark_55 : decode cX8_mark 55 = .ok (.aload_n 0, 1) := by decide +kernel
theorem dX8_mark_56 : decode cX8_mark 56 = .ok (.getfield 7, 3) := by decide +kernel
theorem dX8_mark_59 : decode cX8_mark 59 = .ok (.bipush 80, 2) := by decide +kernel
theorem dX8_mark_61 : decode cX8_mark 61 = .ok (.iaload, 1) := by decide +kernel
theorem dX8_mark_62 : decode cX8_mark 62 = .ok (.bipush 6, 2) := by decide +kernel
theorem dX8_mark_64 : decode cX8_mark 64 = .ok (.if_icmp .ne 10, 3) := by decide +kernel
theorem dX8_mark_67 : decode cX8_mark 67 = .ok (.aload_n 0, 1) := by decide +kernel
theorem dX8_mark_68 : decode cX8_mark 68 = .ok (.bipush (-4), 2) := by decide +kernel
theorem dX8_mark_70 : decode cX8_mark 70 = .ok (.invokevirtual 45, 3) := by decide +kernel
theorem dX8_mark_73 : decode cX8_mark 73 = .ok (.ireturn, 1) := by decide +kernel
theorem dX8_mark_74 : decode cX8_mark 74 = .ok (.bipush 81, 2) := by decide +kernel
theorem dX8_mark_76 : decode cX8_mark 76 = .ok (.iconst 5, 1) := by decide +kernel
theorem dX8_mark_77 : decode cX8_mark 77 = .ok (.aload_n 0, 1) := by decide +kernel
theorem dX8_mark_78 : decode cX8_mark 78 = .ok (.getfield 7, 3) := by decide +kernel
theorem dX8_mark_81 : decode cX8_mark 81 = .ok (.bipush 80, 2) := by decide +kernel
theorem dX8_mark_83 : decode cX8_mark 83 = .ok (.iaload, 1) := by decide +kernel
theorem dX8_mark_84 : decode cX8_mark 84 = .ok (.imul, 1) := by decide +kernel
theorem dX8_mark_85 : decode cX8_mark 85 = .ok (.iadd, 1) := by decide +kernel
theorem dX8_mark_86 : decode cX8_mark 86 = .ok (.istore 6, 2) := by decide +kernel
theorem dX8_mark_88 : decode cX8_mark 88 = .ok (.aload_n 0, 1) := by decide +kernel
theorem dX8_mark_89 : decode cX8_mark 89 = .ok (.getfield 7, 3) := by decide +kernel
theorem dX8_mark_92 : decode cX8_mark 92 = .ok (.iload 6, 2) := by decide +kernel
theorem dX8_mark_94 : decode cX8_mark 94 = .ok (.iload_n 1, 1) := by decide +kernel
theorem dX8_mark_95 : decode cX8_mark 95 = .ok (.iastore, 1) := by decide +kernel
theorem dX8_mark_96 : decode cX8_mark 96 = .ok (.aload_n 0, 1) := by decide +kernel
theorem dX8_mark_97 : decode cX8_mark 97 = .ok (.getfield 7, 3) := by decide +kernel
theorem dX8_mark_100 : decode cX8_mark 100 = .ok (.iload 6, 2) := by decide +kernel
theorem dX8_mark_102 : decode cX8_mark 102 = .ok (.iconst 1, 1) := by decide +kernel
theorem dX8_mark_103 : decode cX8_mark 103 = .ok (.iadd, 1) := by decide +kernel
theorem dX8_mark_104 : decode cX8_mark 104 = .ok (.iload_n 2, 1) := by decide +kernel
theorem dX8_mark_105 : decode cX8_mark 105 = .ok (.iastore, 1) := by decide +kernel
theorem dX8_mark_106 : decode cX8_mark 106 = .ok (.aload_n 0, 1) := by decide +kernel
theorem dX8_mark_107 : decode cX8_mark 107 = .ok (.getfield 7, 3) := by decide +kernel
theorem dX8_mark_110 : decode cX8_mark 110 = .ok (.iload 6, 2) := by decide +kernel
theorem dX8_mark_112 : decode cX8_mark 112 = .ok (.iconst 2, 1) := by decide +kernel
theorem dX8_mark_113 : decode cX8_mark 113 = .ok (.iadd, 1) := by decide +kernel
theorem dX8_mark_114 : decode cX8_mark 114 = .ok (.iload_n 3, 1) := by decide +kernel
theorem dX8_mark_115 : decode cX8_mark 115 = .ok (.iastore, 1) := by decide +kernel
theorem dX8_mark_116 : decode cX8_mark 116 = .ok (.aload_n 0, 1) := by decide +kernel
theorem dX8_mark_117 : decode cX8_mark 117 = .ok (.getfield 7, 3) := by decide +kernel
theorem dX8_mark_120 : decode cX8_mark 120 = .ok (.iload 6, 2) := by decide +kernel
theorem dX8_mark_122 : decode cX8_mark 122 = .ok (.iconst 3, 1) := by decide +kernel
theorem dX8_mark_123 : decode cX8_mark 123 = .ok (.iadd, 1) := by decide +kernel
theorem dX8_mark_124 : decode cX8_mark 124 = .ok (.iload 4, 2) := by decide +kernel
theorem dX8_mark_126 : decode cX8_mark 126 = .ok (.iastore, 1) := by decide +kernel
theorem dX8_mark_127 : decode cX8_mark 127 = .ok (.aload_n 0, 1) := by decide +kernel
theorem dX8_mark_128 : decode cX8_mark 128 = .ok (.getfield 7, 3) := by decide +kernel
theorem dX8_mark_131 : decode cX8_mark 131 = .ok (.iload 6, 2) := by decide +kernel
theorem dX8_mark_133 : decode cX8_mark 133 = .ok (.iconst 4, 1) := by decide +kernel
theorem dX8_mark_134 : decode cX8_mark 134 = .ok (.iadd, 1) := by decide +kernel
theorem dX8_mark_135 : decode cX8_mark 135 = .ok (.iload 5, 2) := by decide +kernel
theorem dX8_mark_137 : decode cX8_mark 137 = .ok (.iastore, 1) := by decide +kernel
theorem dX8_mark_138 : decode cX8_mark 138 = .ok (.aload_n 0, 1) := by decide +kernel
theorem dX8_mark_139 : decode cX8_mark 139 = .ok (.getfield 7, 3) := by decide +kernel
theorem dX8_mark_142 : decode cX8_mark 142 = .ok (.bipush 80, 2) := by decide +kernel
theorem dX8_mark_144 : decode cX8_mark 144 = .ok (.dup2, 1) := by decide +kernel
theorem dX8_mark_145 : decode cX8_mark 145 = .ok (.iaload, 1) := by decide +kernel
theorem dX8_mark_146 : decode cX8_mark 146 = .ok (.iconst 1, 1) := by decide +kernel
theorem dX8_mark_147 : decode cX8_mark 147 = .ok (.iadd, 1) := by decide +kernel
theorem dX8_mark_148 : decode cX8_mark 148 = .ok (.iastore, 1) := by decide +kernel
theorem dX8_mark_149 : decode cX8_mark 149 = .ok (.aload_n 0, 1) := by decide +kernel
theorem dX8_mark_150 : decode cX8_mark 150 = .ok (.getfield 7, 3) := by decide +kernel
theorem dX8_mark_153 : decode cX8_mark 153 = .ok (.bipush 80, 2) := by decide +kernel
theorem dX8_mark_155 : decode cX8_mark 155 = .ok (.iaload, 1) := by decide +kernel
theorem dX8_mark_156 : decode cX8_mark 156 = .ok (.ireturn, 1) := by decide +kernel
theorem dX8_forget_0 : decode cX8_forget 0 = .ok (.iload_n 1, 1) := by decide +kernel
theorem dX8_forget_1 : decode cX8_forget 1 = .ok (.iconst 0, 1) := by decide +kernel
theorem dX8_forget_2 : decode cX8_forget 2 = .ok (.iconst 2, 1) := by decide +kernel
theorem dX8_forget_3 : decode cX8_forget 3 = .ok (.invokestatic 49, 3) := by decide +kernel
theorem dX8_forget_6 : decode cX8_forget 6 = .ok (.ifCond .ne 10, 3) := by decide +kernel
theorem dX8_forget_9 : decode cX8_forget 9 = .ok (.aload_n 0, 1) := by decide +kernel
theorem dX8_forget_10 : decode cX8_forget 10 = .ok (.bipush (-2), 2) := by decide +kernel
theorem dX8_forget_12 : decode cX8_forget 12 = .ok (.invokevirtual 45, 3) := by decide +kernel
theorem dX8_forget_15 : decode cX8_forget 15 = .ok (.ireturn, 1) := by decide +kernel
theorem dX8_forget_16 : decode cX8_forget 16 = .ok (.iload_n 1, 1) := by decide +kernel
theorem dX8_forget_17 : decode cX8_forget 17 = .ok (.ifCond .ne 8, 3) := by decide +kernel
theorem dX8_forget_20 : decode cX8_forget 20 = .ok (.bipush 34, 2) := by decide +kernel
theorem dX8_forget_22 : decode cX8_forget 22 = .ok (.goto 15, 3) := by decide +kernel
theorem dX8_forget_25 : decode cX8_forget 25 = .ok (.iload_n 1, 1) := by decide +kernel
theorem dX8_forget_26 : decode cX8_forget 26 = .ok (.iconst 1, 1) := by decide +kernel
theorem dX8_forget_27 : decode cX8_forget 27 = .ok (.if_icmp .ne 8, 3) := by decide +kernel
theorem dX8_forget_30 : decode cX8_forget 30 = .ok (.bipush 55, 2) := by decide +kernel
theorem dX8_forget_32 : decode cX8_forget 32 = .ok (.goto 5, 3) := by decide +kernel
theorem dX8_forget_35 : decode cX8_forget 35 = .ok (.bipush 80, 2) := by decide +kernel
theorem dX8_forget_37 : decode cX8_forget 37 = .ok (.istore_n 2, 1) := by decide +kernel
theorem dX8_forget_38 : decode cX8_forget 38 = .ok (.aload_n 0, 1) := by decide +kernel
theorem dX8_forget_39 : decode cX8_forget 39 = .ok (.getfield 7, 3) := by decide +kernel
theorem dX8_forget_42 : decode cX8_forget 42 = .ok (.iload_n 2, 1) := by decide +kernel
theorem dX8_forget_43 : decode cX8_forget 43 = .ok (.iaload, 1) := by decide +kernel
theorem dX8_forget_44 : decode cX8_forget 44 = .ok (.istore_n 3, 1) := by decide +kernel
theorem dX8_forget_45 : decode cX8_forget 45 = .ok (.aload_n 0, 1) := by decide +kernel
theorem dX8_forget_46 : decode cX8_forget 46 = .ok (.getfield 7, 3) := by decide +kernel
theorem dX8_forget_49 : decode cX8_forget 49 = .ok (.iload_n 2, 1) := by decide +kernel
theorem dX8_forget_50 : decode cX8_forget 50 = .ok (.iconst 0, 1) := by decide +kernel
theorem dX8_forget_51 : decode cX8_forget 51 = .ok (.iastore, 1) := by decide +kernel
theorem dX8_forget_52 : decode cX8_forget 52 = .ok (.iload_n 3, 1) := by decide +kernel
theorem dX8_forget_53 : decode cX8_forget 53 = .ok (.ireturn, 1) := by decide +kernel
theorem dX8_kindsOf_0 : decode cX8_kindsOf 0 = .ok (.bipush 63, 2) := by decide +kernel
theorem dX8_kindsOf_2 : decode cX8_kindsOf 2 = .ok (.istore_n 2, 1) := by decide +kernel
theorem dX8_kindsOf_3 : decode cX8_kindsOf 3 = .ok (.bipush 56, 2) := by decide +kernel
theorem dX8_kindsOf_5 : decode cX8_kindsOf 5 = .ok (.istore_n 3, 1) := by decide +kernel
theorem dX8_kindsOf_6 : decode cX8_kindsOf 6 = .ok (.iload_n 3, 1) := by decide +kernel
theorem dX8_kindsOf_7 : decode cX8_kindsOf 7 = .ok (.bipush 56, 2) := by decide +kernel
theorem dX8_kindsOf_9 : decode cX8_kindsOf 9 = .ok (.iconst 4, 1) := by decide +kernel
theorem dX8_kindsOf_10 : decode cX8_kindsOf 10 = .ok (.aload_n 0, 1) := by decide +kernel
theorem dX8_kindsOf_11 : decode cX8_kindsOf 11 = .ok (.getfield 7, 3) := by decide +kernel
theorem dX8_kindsOf_14 : decode cX8_kindsOf 14 = .ok (.bipush 55, 2) := by decide +kernel
theorem dX8_kindsOf_16 : decode cX8_kindsOf 16 = .ok (.iaload, 1) := by decide +kernel
theorem dX8_kindsOf_17 : decode cX8_kindsOf 17 = .ok (.imul, 1) := by decide +kernel
theorem dX8_kindsOf_18 : decode cX8_kindsOf 18 = .ok (.iadd, 1) := by decide +kernel
theorem dX8_kindsOf_19 : decode cX8_kindsOf 19 = .ok (.if_icmp .ge 93, 3) := by decide +kernel
theorem dX8_kindsOf_22 : decode cX8_kindsOf 22 = .ok (.iconst 0, 1) := by decide +kernel
theorem dX8_kindsOf_23 : decode cX8_kindsOf 23 = .ok (.istore 4, 2) := by decide +kernel
theorem dX8_kindsOf_25 : decode cX8_kindsOf 25 = .ok (.iload 4, 2) := by decide +kernel
theorem dX8_kindsOf_27 : decode cX8_kindsOf 27 = .ok (.bipush 6, 2) := by decide +kernel
theorem dX8_kindsOf_29 : decode cX8_kindsOf 29 = .ok (.if_icmp .ge 77, 3) := by decide +kernel
theorem dX8_kindsOf_32 : decode cX8_kindsOf 32 = .ok (.aload_n 0, 1) := by decide +kernel
theorem dX8_kindsOf_33 : decode cX8_kindsOf 33 = .ok (.getfield 7, 3) := by decide +kernel
theorem dX8_kindsOf_36 : decode cX8_kindsOf 36 = .ok (.iload_n 3, 1) := by decide +kernel
theorem dX8_kindsOf_37 : decode cX8_kindsOf 37 = .ok (.iaload, 1) := by decide +kernel
theorem dX8_kindsOf_38 : decode cX8_kindsOf 38 = .ok (.iload_n 1, 1) := by decide +kernel
theorem dX8_kindsOf_39 : decode cX8_kindsOf 39 = .ok (.if_icmp .ne 35, 3) := by decide +kernel
theorem dX8_kindsOf_42 : decode cX8_kindsOf 42 = .ok (.iload 4, 2) := by decide +kernel
theorem dX8_kindsOf_44 : decode cX8_kindsOf 44 = .ok (.aload_n 0, 1) := by decide +kernel
theorem dX8_kindsOf_45 : decode cX8_kindsOf 45 = .ok (.getfield 7, 3) := by decide +kernel
theorem dX8_kindsOf_48 : decode cX8_kindsOf 48 = .ok (.iload_n 3, 1) := by decide +kernel
theorem dX8_kindsOf_49 : decode cX8_kindsOf 49 = .ok (.iconst 1, 1) := by decide +kernel
theorem dX8_kindsOf_50 : decode cX8_kindsOf 50 = .ok (.iadd, 1) := by decide +kernel
theorem dX8_kindsOf_51 : decode cX8_kindsOf 51 = .ok (.iaload, 1) := by decide +kernel
theorem dX8_kindsOf_52 : decode cX8_kindsOf 52 = .ok (.aload_n 0, 1) := by decide +kernel
theorem dX8_kindsOf_53 : decode cX8_kindsOf 53 = .ok (.getfield 7, 3) := by decide +kernel
theorem dX8_kindsOf_56 : decode cX8_kindsOf 56 = .ok (.iload_n 3, 1) := by decide +kernel
theorem dX8_kindsOf_57 : decode cX8_kindsOf 57 = .ok (.iconst 2, 1) := by decide +kernel
theorem dX8_kindsOf_58 : decode cX8_kindsOf 58 = .ok (.iadd, 1) := by decide +kernel
theorem dX8_kindsOf_59 : decode cX8_kindsOf 59 = .ok (.iaload, 1) := by decide +kernel
theorem dX8_kindsOf_60 : decode cX8_kindsOf 60 = .ok (.invokestatic 132, 3) := by decide +kernel
theorem dX8_kindsOf_63 : decode cX8_kindsOf 63 = .ok (.aload_n 0, 1) := by decide +kernel
theorem dX8_kindsOf_64 : decode cX8_kindsOf 64 = .ok (.getfield 7, 3) := by decide +kernel
theorem dX8_kindsOf_67 : decode cX8_kindsOf 67 = .ok (.iload_n 3, 1) := by decide +kernel
theorem dX8_kindsOf_68 : decode cX8_kindsOf 68 = .ok (.iconst 3, 1) := by decide +kernel
theorem dX8_kindsOf_69 : decode cX8_kindsOf 69 = .ok (.iadd, 1) := by decide +kernel
theorem dX8_kindsOf_70 : decode cX8_kindsOf 70 = .ok (.iaload, 1) := by decide +kernel
theorem dX8_kindsOf_71 : decode cX8_kindsOf 71 = .ok (.if_icmp .ne 7, 3) := by decide +kernel
theorem dX8_kindsOf_74 : decode cX8_kindsOf 74 = .ok (.iconst 1, 1) := by decide +kernel
theorem dX8_kindsOf_75 : decode cX8_kindsOf 75 = .ok (.goto 4, 3) := by decide +kernel
theorem dX8_kindsOf_78 : decode cX8_kindsOf 78 = .ok (.iconst 0, 1) := by decide +kernel
theorem dX8_kindsOf_79 : decode cX8_kindsOf 79 = .ok (.istore 5, 2) := by decide +kernel
theorem dX8_kindsOf_81 : decode cX8_kindsOf 81 = .ok (.iload_n 2, 1) := by decide +kernel
theorem dX8_kindsOf_82 : decode cX8_kindsOf 82 = .ok (.iload 5, 2) := by decide +kernel
theorem dX8_kindsOf_84 : decode cX8_kindsOf 84 = .ok (.ifCond .eq 8, 3) := by decide +kernel
theorem dX8_kindsOf_87 : decode cX8_kindsOf 87 = .ok (.bipush 63, 2) := by decide +kernel
theorem dX8_kindsOf_89 : decode cX8_kindsOf 89 = .ok (.goto 9, 3) := by decide +kernel
theorem dX8_kindsOf_92 : decode cX8_kindsOf 92 = .ok (.iconst 1, 1) := by decide +kernel
theorem dX8_kindsOf_93 : decode cX8_kindsOf 93 = .ok (.iload 4, 2) := by decide +kernel
theorem dX8_kindsOf_95 : decode cX8_kindsOf 95 = .ok (.ishl, 1) := by decide +kernel
theorem dX8_kindsOf_96 : decode cX8_kindsOf 96 = .ok (.iconst (-1), 1) := by decide +kernel
theorem dX8_kindsOf_97 : decode cX8_kindsOf 97 = .ok (.ixor, 1) := by decide +kernel
theorem dX8_kindsOf_98 : decode cX8_kindsOf 98 = .ok (.iand, 1) := by decide +kernel
theorem dX8_kindsOf_99 : decode cX8_kindsOf 99 = .ok (.istore_n 2, 1) := by decide +kernel
theorem dX8_kindsOf_100 : decode cX8_kindsOf 100 = .ok (.iinc 4 1, 3) := by decide +kernel
theorem dX8_kindsOf_103 : decode cX8_kindsOf 103 = .ok (.goto (-78), 3) := by decide +kernel
theorem dX8_kindsOf_106 : decode cX8_kindsOf 106 = .ok (.iinc 3 4, 3) := by decide +kernel
theorem dX8_kindsOf_109 : decode cX8_kindsOf 109 = .ok (.goto (-103), 3) := by decide +kernel
theorem dX8_kindsOf_112 : decode cX8_kindsOf 112 = .ok (.iload_n 2, 1) := by decide +kernel
theorem dX8_kindsOf_113 : decode cX8_kindsOf 113 = .ok (.ireturn, 1) := by decide +kernel
theorem dX8_is_0 : decode cX8_is 0 = .ok (.aload_n 0, 1) := by decide +kernel
theorem dX8_is_1 : decode cX8_is 1 = .ok (.iload_n 1, 1) := by decide +kernel
theorem dX8_is_2 : decode cX8_is 2 = .ok (.invokevirtual 157, 3) := by decide +kernel
theorem dX8_is_5 : decode cX8_is 5 = .ok (.ifCond .eq 11, 3) := by decide +kernel
theorem dX8_is_8 : decode cX8_is 8 = .ok (.aload_n 0, 1) := by decide +kernel
theorem dX8_is_9 : decode cX8_is 9 = .ok (.iload_n 1, 1) := by decide +kernel
theorem dX8_is_10 : decode cX8_is 10 = .ok (.invokevirtual 191, 3) := by decide +kernel
theorem dX8_is_13 : decode cX8_is 13 = .ok (.goto 9, 3) := by decide +kernel
theorem dX8_is_16 : decode cX8_is 16 = .ok (.aload_n 0, 1) := by decide +kernel
theorem dX8_is_17 : decode cX8_is 17 = .ok (.bipush (-2), 2) := by decide +kernel
theorem dX8_is_19 : decode cX8_is 19 = .ok (.invokevirtual 45, 3) := by decide +kernel
theorem dX8_is_22 : decode cX8_is 22 = .ok (.ireturn, 1) := by decide +kernel
theorem dX8_mostAlike_0 : decode cX8_mostAlike 0 = .ok (.iconst 0, 1) := by decide +kernel
theorem dX8_mostAlike_1 : decode cX8_mostAlike 1 = .ok (.istore_n 2, 1) := by decide +kernel
theorem dX8_mostAlike_2 : decode cX8_mostAlike 2 = .ok (.iconst 0, 1) := by decide +kernel
theorem dX8_mostAlike_3 : decode cX8_mostAlike 3 = .ok (.istore_n 3, 1) := by decide +kernel
theorem dX8_mostAlike_4 : decode cX8_mostAlike 4 = .ok (.iload_n 3, 1) := by decide +kernel
theorem dX8_mostAlike_5 : decode cX8_mostAlike 5 = .ok (.bipush 6, 2) := by decide +kernel
theorem dX8_mostAlike_7 : decode cX8_mostAlike 7 = .ok (.if_icmp .ge 84, 3) := by decide +kernel
theorem dX8_mostAlike_10 : decode cX8_mostAlike 10 = .ok (.iconst 0, 1) := by decide +kernel
theorem dX8_mostAlike_11 : decode cX8_mostAlike 11 = .ok (.istore 4, 2) := by decide +kernel
theorem dX8_mostAlike_13 : decode cX8_mostAlike 13 = .ok (.iconst 0, 1) := by decide +kernel
theorem dX8_mostAlike_14 : decode cX8_mostAlike 14 = .ok (.istore 5, 2) := by decide +kernel
theorem dX8_mostAlike_16 : decode cX8_mostAlike 16 = .ok (.iload 5, 2) := by decide +kernel
theorem dX8_mostAlike_18 : decode cX8_mostAlike 18 = .ok (.bipush 6, 2) := by decide +kernel
theorem dX8_mostAlike_20 : decode cX8_mostAlike 20 = .ok (.if_icmp .ge 52, 3) := by decide +kernel
theorem dX8_mostAlike_23 : decode cX8_mostAlike 23 = .ok (.iload 4, 2) := by decide +kernel
theorem dX8_mostAlike_25 : decode cX8_mostAlike 25 = .ok (.iload_n 1, 1) := by decide +kernel
theorem dX8_mostAlike_26 : decode cX8_mostAlike 26 = .ok (.iload_n 3, 1) := by decide +kernel
theorem dX8_mostAlike_27 : decode cX8_mostAlike 27 = .ok (.invokestatic 172, 3) := by decide +kernel
theorem dX8_mostAlike_30 : decode cX8_mostAlike 30 = .ok (.ifCond .eq 32, 3) := by decide +kernel
theorem dX8_mostAlike_33 : decode cX8_mostAlike 33 = .ok (.iload_n 1, 1) := by decide +kernel
theorem dX8_mostAlike_34 : decode cX8_mostAlike 34 = .ok (.iload 5, 2) := by decide +kernel
theorem dX8_mostAlike_36 : decode cX8_mostAlike 36 = .ok (.invokestatic 172, 3) := by decide +kernel
theorem dX8_mostAlike_39 : decode cX8_mostAlike 39 = .ok (.ifCond .eq 23, 3) := by decide +kernel
theorem dX8_mostAlike_42 : decode cX8_mostAlike 42 = .ok (.aload_n 0, 1) := by decide +kernel
theorem dX8_mostAlike_43 : decode cX8_mostAlike 43 = .ok (.getfield 36, 3) := by decide +kernel
theorem dX8_mostAlike_46 : decode cX8_mostAlike 46 = .ok (.iload_n 3, 1) := by decide +kernel
theorem dX8_mostAlike_47 : decode cX8_mostAlike 47 = .ok (.iaload, 1) := by decide +kernel
theorem dX8_mostAlike_48 : decode cX8_mostAlike 48 = .ok (.aload_n 0, 1) := by decide +kernel
theorem dX8_mostAlike_49 : decode cX8_mostAlike 49 = .ok (.getfield 36, 3) := by decide +kernel
theorem dX8_mostAlike_52 : decode cX8_mostAlike 52 = .ok (.iload 5, 2) := by decide +kernel
theorem dX8_mostAlike_54 : decode cX8_mostAlike 54 = .ok (.iaload, 1) := by decide +kernel
theorem dX8_mostAlike_55 : decode cX8_mostAlike 55 = .ok (.if_icmp .ne 7, 3) := by decide +kernel
theorem dX8_mostAlike_58 : decode cX8_mostAlike 58 = .ok (.iconst 1, 1) := by decide +kernel
theorem dX8_mostAlike_59 : decode cX8_mostAlike 59 = .ok (.goto 4, 3) := by decide +kernel
theorem dX8_mostAlike_62 : decode cX8_mostAlike 62 = .ok (.iconst 0, 1) := by decide +kernel
theorem dX8_mostAlike_63 : decode cX8_mostAlike 63 = .ok (.iadd, 1) := by decide +kernel
theorem dX8_mostAlike_64 : decode cX8_mostAlike 64 = .ok (.istore 4, 2) := by decide +kernel
theorem dX8_mostAlike_66 : decode cX8_mostAlike 66 = .ok (.iinc 5 1, 3) := by decide +kernel
theorem dX8_mostAlike_69 : decode cX8_mostAlike 69 = .ok (.goto (-53), 3) := by decide +kernel
theorem dX8_mostAlike_72 : decode cX8_mostAlike 72 = .ok (.iload 4, 2) := by decide +kernel
theorem dX8_mostAlike_74 : decode cX8_mostAlike 74 = .ok (.iload_n 2, 1) := by decide +kernel
theorem dX8_mostAlike_75 : decode cX8_mostAlike 75 = .ok (.if_icmp .le 8, 3) := by decide +kernel
theorem dX8_mostAlike_78 : decode cX8_mostAlike 78 = .ok (.iload 4, 2) := by decide +kernel
theorem dX8_mostAlike_80 : decode cX8_mostAlike 80 = .ok (.goto 4, 3) := by decide +kernel
theorem dX8_mostAlike_83 : decode cX8_mostAlike 83 = .ok (.iload_n 2, 1) := by decide +kernel
theorem dX8_mostAlike_84 : decode cX8_mostAlike 84 = .ok (.istore_n 2, 1) := by decide +kernel
theorem dX8_mostAlike_85 : decode cX8_mostAlike 85 = .ok (.iinc 3 1, 3) := by decide +kernel
theorem dX8_mostAlike_88 : decode cX8_mostAlike 88 = .ok (.goto (-84), 3) := by decide +kernel
theorem dX8_mostAlike_91 : decode cX8_mostAlike 91 = .ok (.iload_n 2, 1) := by decide +kernel
theorem dX8_mostAlike_92 : decode cX8_mostAlike 92 = .ok (.ireturn, 1) := by decide +kernel
theorem dX8_look_0 : decode cX8_look 0 = .ok (.aload_n 0, 1) := by decide +kernel
theorem dX8_look_1 : decode cX8_look 1 = .ok (.iload_n 1, 1) := by decide +kernel
theorem dX8_look_2 : decode cX8_look 2 = .ok (.invokevirtual 157, 3) := by decide +kernel
theorem dX8_look_5 : decode cX8_look 5 = .ok (.ifCond .ne 10, 3) := by decide +kernel
theorem dX8_look_8 : decode cX8_look 8 = .ok (.aload_n 0, 1) := by decide +kernel
theorem dX8_look_9 : decode cX8_look 9 = .ok (.bipush (-2), 2) := by decide +kernel
theorem dX8_look_11 : decode cX8_look 11 = .ok (.invokevirtual 45, 3) := by decide +kernel
theorem dX8_look_14 : decode cX8_look 14 = .ok (.ireturn, 1) := by decide +kernel
theorem dX8_look_15 : decode cX8_look 15 = .ok (.aload_n 0, 1) := by decide +kernel
theorem dX8_look_16 : decode cX8_look 16 = .ok (.iload_n 1, 1) := by decide +kernel
theorem dX8_look_17 : decode cX8_look 17 = .ok (.invokevirtual 191, 3) := by decide +kernel
theorem dX8_look_20 : decode cX8_look 20 = .ok (.istore_n 2, 1) := by decide +kernel
theorem dX8_look_21 : decode cX8_look 21 = .ok (.iconst (-1), 1) := by decide +kernel
theorem dX8_look_22 : decode cX8_look 22 = .ok (.istore_n 3, 1) := by decide +kernel
theorem dX8_look_23 : decode cX8_look 23 = .ok (.bipush 99, 2) := by decide +kernel
theorem dX8_look_25 : decode cX8_look 25 = .ok (.istore 4, 2) := by decide +kernel
theorem dX8_look_27 : decode cX8_look 27 = .ok (.iconst 0, 1) := by decide +kernel
theorem dX8_look_28 : decode cX8_look 28 = .ok (.istore 5, 2) := by decide +kernel
theorem dX8_look_30 : decode cX8_look 30 = .ok (.iload 5, 2) := by decide +kernel
theorem dX8_look_32 : decode cX8_look 32 = .ok (.iconst 5, 1) := by decide +kernel
theorem dX8_look_33 : decode cX8_look 33 = .ok (.if_icmp .ge 89, 3) := by decide +kernel
theorem dX8_look_36 : decode cX8_look 36 = .ok (.iload_n 2, 1) := by decide +kernel
theorem dX8_look_37 : decode cX8_look 37 = .ok (.ifCond .eq 85, 3) := by decide +kernel
theorem dX8_look_40 : decode cX8_look 40 = .ok (.iconst 0, 1) := by decide +kernel
theorem dX8_look_41 : decode cX8_look 41 = .ok (.istore 6, 2) := by decide +kernel
theorem dX8_look_43 : decode cX8_look 43 = .ok (.iload 6, 2) := by decide +kernel
theorem dX8_look_45 : decode cX8_look 45 = .ok (.bipush 6, 2) := by decide +kernel
theorem dX8_look_47 : decode cX8_look 47 = .ok (.if_icmp .ge 32, 3) := by decide +kernel
theorem dX8_look_50 : decode cX8_look 50 = .ok (.aload_n 0, 1) := by decide +kernel
theorem dX8_look_51 : decode cX8_look 51 = .ok (.getfield 36, 3) := by decide +kernel
theorem dX8_look_54 : decode cX8_look 54 = .ok (.iload 6, 2) := by decide +kernel
theorem dX8_look_56 : decode cX8_look 56 = .ok (.iload 6, 2) := by decide +kernel
theorem dX8_look_58 : decode cX8_look 58 = .ok (.aload_n 0, 1) := by decide +kernel
theorem dX8_look_59 : decode cX8_look 59 = .ok (.getfield 7, 3) := by decide +kernel
theorem dX8_look_62 : decode cX8_look 62 = .ok (.bipush 19, 2) := by decide +kernel
theorem dX8_look_64 : decode cX8_look 64 = .ok (.iload_n 1, 1) := by decide +kernel
theorem dX8_look_65 : decode cX8_look 65 = .ok (.iadd, 1) := by decide +kernel
theorem dX8_look_66 : decode cX8_look 66 = .ok (.iaload, 1) := by decide +kernel
theorem dX8_look_67 : decode cX8_look 67 = .ok (.iload 5, 2) := by decide +kernel
theorem dX8_look_69 : decode cX8_look 69 = .ok (.invokestatic 132, 3) := by decide +kernel
theorem dX8_look_72 : decode cX8_look 72 = .ok (.iastore, 1) := by decide +kernel
theorem dX8_look_73 : decode cX8_look 73 = .ok (.iinc 6 1, 3) := by decide +kernel
theorem dX8_look_76 : decode cX8_look 76 = .ok (.goto (-33), 3) := by decide +kernel
theorem dX8_look_79 : decode cX8_look 79 = .ok (.aload_n 0, 1) := by decide +kernel
theorem dX8_look_80 : decode cX8_look 80 = .ok (.iload_n 2, 1) := by decide +kernel
theorem dX8_look_81 : decode cX8_look 81 = .ok (.invokevirtual 194, 3) := by decide +kernel
theorem dX8_look_84 : decode cX8_look 84 = .ok (.istore 6, 2) := by decide +kernel
theorem dX8_look_86 : decode cX8_look 86 = .ok (.iload 6, 2) := by decide +kernel
theorem dX8_look_88 : decode cX8_look 88 = .ok (.iload 4, 2) := by decide +kernel
theorem dX8_look_90 : decode cX8_look 90 = .ok (.if_icmp .ge 8, 3) := by decide +kernel
theorem dX8_look_93 : decode cX8_look 93 = .ok (.iload 5, 2) := by decide +kernel
theorem dX8_look_95 : decode cX8_look 95 = .ok (.goto 4, 3) := by decide +kernel
theorem dX8_look_98 : decode cX8_look 98 = .ok (.iload_n 3, 1) := by decide +kernel
theorem dX8_look_99 : decode cX8_look 99 = .ok (.istore_n 3, 1) := by decide +kernel
theorem dX8_look_100 : decode cX8_look 100 = .ok (.iload 6, 2) := by decide +kernel
theorem dX8_look_102 : decode cX8_look 102 = .ok (.iload 4, 2) := by decide +kernel
theorem dX8_look_104 : decode cX8_look 104 = .ok (.if_icmp .ge 8, 3) := by decide +kernel
theorem dX8_look_107 : decode cX8_look 107 = .ok (.iload 6, 2) := by decide +kernel
theorem dX8_look_109 : decode cX8_look 109 = .ok (.goto 5, 3) := by decide +kernel
theorem dX8_look_112 : decode cX8_look 112 = .ok (.iload 4, 2) := by decide +kernel
theorem dX8_look_114 : decode cX8_look 114 = .ok (.istore 4, 2) := by decide +kernel
theorem dX8_look_116 : decode cX8_look 116 = .ok (.iinc 5 1, 3) := by decide +kernel
theorem dX8_look_119 : decode cX8_look 119 = .ok (.goto (-89), 3) := by decide +kernel
theorem dX8_look_122 : decode cX8_look 122 = .ok (.iload_n 3, 1) := by decide +kernel
theorem dX8_look_123 : decode cX8_look 123 = .ok (.ireturn, 1) := by decide +kernel
theorem dX8_sievesOf_0 : decode cX8_sievesOf 0 = .ok (.bipush 63, 2) := by decide +kernel
theorem dX8_sievesOf_2 : decode cX8_sievesOf 2 = .ok (.istore_n 2, 1) := by decide +kernel
theorem dX8_sievesOf_3 : decode cX8_sievesOf 3 = .ok (.bipush 81, 2) := by decide +kernel
theorem dX8_sievesOf_5 : decode cX8_sievesOf 5 = .ok (.istore_n 3, 1) := by decide +kernel
theorem dX8_sievesOf_6 : decode cX8_sievesOf 6 = .ok (.iload_n 3, 1) := by decide +kernel
theorem dX8_sievesOf_7 : decode cX8_sievesOf 7 = .ok (.bipush 81, 2) := by decide +kernel
theorem dX8_sievesOf_9 : decode cX8_sievesOf 9 = .ok (.iconst 5, 1) := by decide +kernel
theorem dX8_sievesOf_10 : decode cX8_sievesOf 10 = .ok (.aload_n 0, 1) := by decide +kernel
theorem dX8_sievesOf_11 : decode cX8_sievesOf 11 = .ok (.getfield 7, 3) := by decide +kernel
theorem dX8_sievesOf_14 : decode cX8_sievesOf 14 = .ok (.bipush 80, 2) := by decide +kernel
theorem dX8_sievesOf_16 : decode cX8_sievesOf 16 = .ok (.iaload, 1) := by decide +kernel
theorem dX8_sievesOf_17 : decode cX8_sievesOf 17 = .ok (.imul, 1) := by decide +kernel
theorem dX8_sievesOf_18 : decode cX8_sievesOf 18 = .ok (.iadd, 1) := by decide +kernel
theorem dX8_sievesOf_19 : decode cX8_sievesOf 19 = .ok (.if_icmp .ge 118, 3) := by decide +kernel
theorem dX8_sievesOf_22 : decode cX8_sievesOf 22 = .ok (.iconst 0, 1) := by decide +kernel
theorem dX8_sievesOf_23 : decode cX8_sievesOf 23 = .ok (.istore 4, 2) := by decide +kernel
theorem dX8_sievesOf_25 : decode cX8_sievesOf 25 = .ok (.iload 4, 2) := by decide +kernel
theorem dX8_sievesOf_27 : decode cX8_sievesOf 27 = .ok (.bipush 6, 2) := by decide +kernel
theorem dX8_sievesOf_29 : decode cX8_sievesOf 29 = .ok (.if_icmp .ge 102, 3) := by decide +kernel
theorem dX8_sievesOf_32 : decode cX8_sievesOf 32 = .ok (.aload_n 0, 1) := by decide +kernel
theorem dX8_sievesOf_33 : decode cX8_sievesOf 33 = .ok (.getfield 7, 3) := by decide +kernel
theorem dX8_sievesOf_36 : decode cX8_sievesOf 36 = .ok (.iload_n 3, 1) := by decide +kernel
theorem dX8_sievesOf_37 : decode cX8_sievesOf 37 = .ok (.iaload, 1) := by decide +kernel
theorem dX8_sievesOf_38 : decode cX8_sievesOf 38 = .ok (.iload_n 1, 1) := by decide +kernel
theorem dX8_sievesOf_39 : decode cX8_sievesOf 39 = .ok (.if_icmp .ne 60, 3) := by decide +kernel
theorem dX8_sievesOf_42 : decode cX8_sievesOf 42 = .ok (.aload_n 0, 1) := by decide +kernel
theorem dX8_sievesOf_43 : decode cX8_sievesOf 43 = .ok (.getfield 7, 3) := by decide +kernel
theorem dX8_sievesOf_46 : decode cX8_sievesOf 46 = .ok (.iload_n 3, 1) := by decide +kernel
theorem dX8_sievesOf_47 : decode cX8_sievesOf 47 = .ok (.iconst 3, 1) := by decide +kernel
theorem dX8_sievesOf_48 : decode cX8_sievesOf 48 = .ok (.iadd, 1) := by decide +kernel
theorem dX8_sievesOf_49 : decode cX8_sievesOf 49 = .ok (.iaload, 1) := by decide +kernel
theorem dX8_sievesOf_50 : decode cX8_sievesOf 50 = .ok (.iload 4, 2) := by decide +kernel
theorem dX8_sievesOf_52 : decode cX8_sievesOf 52 = .ok (.aload_n 0, 1) := by decide +kernel
theorem dX8_sievesOf_53 : decode cX8_sievesOf 53 = .ok (.getfield 7, 3) := by decide +kernel
theorem dX8_sievesOf_56 : decode cX8_sievesOf 56 = .ok (.iload_n 3, 1) := by decide +kernel
theorem dX8_sievesOf_57 : decode cX8_sievesOf 57 = .ok (.iconst 1, 1) := by decide +kernel
theorem dX8_sievesOf_58 : decode cX8_sievesOf 58 = .ok (.iadd, 1) := by decide +kernel
theorem dX8_sievesOf_59 : decode cX8_sievesOf 59 = .ok (.iaload, 1) := by decide +kernel
theorem dX8_sievesOf_60 : decode cX8_sievesOf 60 = .ok (.aload_n 0, 1) := by decide +kernel
theorem dX8_sievesOf_61 : decode cX8_sievesOf 61 = .ok (.getfield 7, 3) := by decide +kernel
theorem dX8_sievesOf_64 : decode cX8_sievesOf 64 = .ok (.iload_n 3, 1) := by decide +kernel
theorem dX8_sievesOf_65 : decode cX8_sievesOf 65 = .ok (.iconst 2, 1) := by decide +kernel
theorem dX8_sievesOf_66 : decode cX8_sievesOf 66 = .ok (.iadd, 1) := by decide +kernel
theorem dX8_sievesOf_67 : decode cX8_sievesOf 67 = .ok (.iaload, 1) := by decide +kernel
theorem dX8_sievesOf_68 : decode cX8_sievesOf 68 = .ok (.invokestatic 136, 3) := by decide +kernel
theorem dX8_sievesOf_71 : decode cX8_sievesOf 71 = .ok (.if_icmp .lt 7, 3) := by decide +kernel
theorem dX8_sievesOf_74 : decode cX8_sievesOf 74 = .ok (.iconst 1, 1) := by decide +kernel
theorem dX8_sievesOf_75 : decode cX8_sievesOf 75 = .ok (.goto 4, 3) := by decide +kernel
theorem dX8_sievesOf_78 : decode cX8_sievesOf 78 = .ok (.iconst 0, 1) := by decide +kernel
theorem dX8_sievesOf_79 : decode cX8_sievesOf 79 = .ok (.aload_n 0, 1) := by decide +kernel
theorem dX8_sievesOf_80 : decode cX8_sievesOf 80 = .ok (.getfield 7, 3) := by decide +kernel
theorem dX8_sievesOf_83 : decode cX8_sievesOf 83 = .ok (.iload_n 3, 1) := by decide +kernel
theorem dX8_sievesOf_84 : decode cX8_sievesOf 84 = .ok (.iconst 4, 1) := by decide +kernel
theorem dX8_sievesOf_85 : decode cX8_sievesOf 85 = .ok (.iadd, 1) := by decide +kernel
theorem dX8_sievesOf_86 : decode cX8_sievesOf 86 = .ok (.iaload, 1) := by decide +kernel
theorem dX8_sievesOf_87 : decode cX8_sievesOf 87 = .ok (.iconst 1, 1) := by decide +kernel
theorem dX8_sievesOf_88 : decode cX8_sievesOf 88 = .ok (.if_icmp .ne 7, 3) := by decide +kernel
theorem dX8_sievesOf_91 : decode cX8_sievesOf 91 = .ok (.iconst 1, 1) := by decide +kernel
theorem dX8_sievesOf_92 : decode cX8_sievesOf 92 = .ok (.goto 4, 3) := by decide +kernel
theorem dX8_sievesOf_95 : decode cX8_sievesOf 95 = .ok (.iconst 0, 1) := by decide +kernel
theorem dX8_sievesOf_96 : decode cX8_sievesOf 96 = .ok (.if_icmp .ne 7, 3) := by decide +kernel
theorem dX8_sievesOf_99 : decode cX8_sievesOf 99 = .ok (.iconst 1, 1) := by decide +kernel
theorem dX8_sievesOf_100 : decode cX8_sievesOf 100 = .ok (.goto 4, 3) := by decide +kernel
theorem dX8_sievesOf_103 : decode cX8_sievesOf 103 = .ok (.iconst 0, 1) := by decide +kernel
theorem dX8_sievesOf_104 : decode cX8_sievesOf 104 = .ok (.istore 5, 2) := by decide +kernel
theorem dX8_sievesOf_106 : decode cX8_sievesOf 106 = .ok (.iload_n 2, 1) := by decide +kernel
theorem dX8_sievesOf_107 : decode cX8_sievesOf 107 = .ok (.iload 5, 2) := by decide +kernel
theorem dX8_sievesOf_109 : decode cX8_sievesOf 109 = .ok (.ifCond .eq 8, 3) := by decide +kernel
theorem dX8_sievesOf_112 : decode cX8_sievesOf 112 = .ok (.bipush 63, 2) := by decide +kernel
theorem dX8_sievesOf_114 : decode cX8_sievesOf 114 = .ok (.goto 9, 3) := by decide +kernel
theorem dX8_sievesOf_117 : decode cX8_sievesOf 117 = .ok (.iconst 1, 1) := by decide +kernel
theorem dX8_sievesOf_118 : decode cX8_sievesOf 118 = .ok (.iload 4, 2) := by decide +kernel
theorem dX8_sievesOf_120 : decode cX8_sievesOf 120 = .ok (.ishl, 1) := by decide +kernel
theorem dX8_sievesOf_121 : decode cX8_sievesOf 121 = .ok (.iconst (-1), 1) := by decide +kernel
theorem dX8_sievesOf_122 : decode cX8_sievesOf 122 = .ok (.ixor, 1) := by decide +kernel
theorem dX8_sievesOf_123 : decode cX8_sievesOf 123 = .ok (.iand, 1) := by decide +kernel
theorem dX8_sievesOf_124 : decode cX8_sievesOf 124 = .ok (.istore_n 2, 1) := by decide +kernel
theorem dX8_sievesOf_125 : decode cX8_sievesOf 125 = .ok (.iinc 4 1, 3) := by decide +kernel
theorem dX8_sievesOf_128 : decode cX8_sievesOf 128 = .ok (.goto (-103), 3) := by decide +kernel
theorem dX8_sievesOf_131 : decode cX8_sievesOf 131 = .ok (.iinc 3 5, 3) := by decide +kernel
theorem dX8_sievesOf_134 : decode cX8_sievesOf 134 = .ok (.goto (-128), 3) := by decide +kernel
theorem dX8_sievesOf_137 : decode cX8_sievesOf 137 = .ok (.iload_n 2, 1) := by decide +kernel
theorem dX8_sievesOf_138 : decode cX8_sievesOf 138 = .ok (.ireturn, 1) := by decide +kernel
theorem dX8_kinds_0 : decode cX8_kinds 0 = .ok (.aload_n 0, 1) := by decide +kernel
theorem dX8_kinds_1 : decode cX8_kinds 1 = .ok (.iload_n 1, 1) := by decide +kernel
theorem dX8_kinds_2 : decode cX8_kinds 2 = .ok (.invokevirtual 160, 3) := by decide +kernel
theorem dX8_kinds_5 : decode cX8_kinds 5 = .ok (.ifCond .eq 11, 3) := by decide +kernel
theorem dX8_kinds_8 : decode cX8_kinds 8 = .ok (.aload_n 0, 1) := by decide +kernel
theorem dX8_kinds_9 : decode cX8_kinds 9 = .ok (.iload_n 1, 1) := by decide +kernel
theorem dX8_kinds_10 : decode cX8_kinds 10 = .ok (.invokevirtual 197, 3) := by decide +kernel
theorem dX8_kinds_13 : decode cX8_kinds 13 = .ok (.goto 9, 3) := by decide +kernel
theorem dX8_kinds_16 : decode cX8_kinds 16 = .ok (.aload_n 0, 1) := by decide +kernel
theorem dX8_kinds_17 : decode cX8_kinds 17 = .ok (.bipush (-2), 2) := by decide +kernel
theorem dX8_kinds_19 : decode cX8_kinds 19 = .ok (.invokevirtual 45, 3) := by decide +kernel
theorem dX8_kinds_22 : decode cX8_kinds 22 = .ok (.ireturn, 1) := by decide +kernel
theorem dX8_ask_0 : decode cX8_ask 0 = .ok (.aload_n 0, 1) := by decide +kernel
theorem dX8_ask_1 : decode cX8_ask 1 = .ok (.iload_n 1, 1) := by decide +kernel
theorem dX8_ask_2 : decode cX8_ask 2 = .ok (.invokevirtual 160, 3) := by decide +kernel
theorem dX8_ask_5 : decode cX8_ask 5 = .ok (.ifCond .ne 10, 3) := by decide +kernel
theorem dX8_ask_8 : decode cX8_ask 8 = .ok (.aload_n 0, 1) := by decide +kernel
theorem dX8_ask_9 : decode cX8_ask 9 = .ok (.bipush (-2), 2) := by decide +kernel
theorem dX8_ask_11 : decode cX8_ask 11 = .ok (.invokevirtual 45, 3) := by decide +kernel
theorem dX8_ask_14 : decode cX8_ask 14 = .ok (.ireturn, 1) := by decide +kernel
theorem dX8_ask_15 : decode cX8_ask 15 = .ok (.aload_n 0, 1) := by decide +kernel
theorem dX8_ask_16 : decode cX8_ask 16 = .ok (.iload_n 1, 1) := by decide +kernel
theorem dX8_ask_17 : decode cX8_ask 17 = .ok (.invokevirtual 197, 3) := by decide +kernel
theorem dX8_ask_20 : decode cX8_ask 20 = .ok (.istore_n 2, 1) := by decide +kernel
theorem dX8_ask_21 : decode cX8_ask 21 = .ok (.iconst (-1), 1) := by decide +kernel
theorem dX8_ask_22 : decode cX8_ask 22 = .ok (.istore_n 3, 1) := by decide +kernel
theorem dX8_ask_23 : decode cX8_ask 23 = .ok (.bipush 99, 2) := by decide +kernel
theorem dX8_ask_25 : decode cX8_ask 25 = .ok (.istore 4, 2) := by decide +kernel
theorem dX8_ask_27 : decode cX8_ask 27 = .ok (.iconst 0, 1) := by decide +kernel
theorem dX8_ask_28 : decode cX8_ask 28 = .ok (.istore 5, 2) := by decide +kernel
theorem dX8_ask_30 : decode cX8_ask 30 = .ok (.iload 5, 2) := by decide +kernel
theorem dX8_ask_32 : decode cX8_ask 32 = .ok (.sipush 305, 3) := by decide +kernel
theorem dX8_ask_35 : decode cX8_ask 35 = .ok (.if_icmp .ge 119, 3) := by decide +kernel
theorem dX8_ask_38 : decode cX8_ask 38 = .ok (.iload_n 2, 1) := by decide +kernel
theorem dX8_ask_39 : decode cX8_ask 39 = .ok (.ifCond .eq 115, 3) := by decide +kernel
theorem dX8_ask_42 : decode cX8_ask 42 = .ok (.iload 5, 2) := by decide +kernel
theorem dX8_ask_44 : decode cX8_ask 44 = .ok (.bipush 61, 2) := by decide +kernel
theorem dX8_ask_46 : decode cX8_ask 46 = .ok (.idiv, 1) := by decide +kernel
theorem dX8_ask_47 : decode cX8_ask 47 = .ok (.istore 6, 2) := by decide +kernel
theorem dX8_ask_49 : decode cX8_ask 49 = .ok (.iload 5, 2) := by decide +kernel
theorem dX8_ask_51 : decode cX8_ask 51 = .ok (.bipush 61, 2) := by decide +kernel
theorem dX8_ask_53 : decode cX8_ask 53 = .ok (.irem, 1) := by decide +kernel
theorem dX8_ask_54 : decode cX8_ask 54 = .ok (.istore 7, 2) := by decide +kernel
theorem dX8_ask_56 : decode cX8_ask 56 = .ok (.iconst 0, 1) := by decide +kernel
theorem dX8_ask_57 : decode cX8_ask 57 = .ok (.istore 8, 2) := by decide +kernel
theorem dX8_ask_59 : decode cX8_ask 59 = .ok (.iload 8, 2) := by decide +kernel
theorem dX8_ask_61 : decode cX8_ask 61 = .ok (.bipush 6, 2) := by decide +kernel
theorem dX8_ask_63 : decode cX8_ask 63 = .ok (.if_icmp .ge 42, 3) := by decide +kernel
theorem dX8_ask_66 : decode cX8_ask 66 = .ok (.aload_n 0, 1) := by decide +kernel
theorem dX8_ask_67 : decode cX8_ask 67 = .ok (.getfield 36, 3) := by decide +kernel
theorem dX8_ask_70 : decode cX8_ask 70 = .ok (.iload 8, 2) := by decide +kernel
theorem dX8_ask_72 : decode cX8_ask 72 = .ok (.iload 7, 2) := by decide +kernel
theorem dX8_ask_74 : decode cX8_ask 74 = .ok (.iload 8, 2) := by decide +kernel
theorem dX8_ask_76 : decode cX8_ask 76 = .ok (.aload_n 0, 1) := by decide +kernel
theorem dX8_ask_77 : decode cX8_ask 77 = .ok (.getfield 7, 3) := by decide +kernel
theorem dX8_ask_80 : decode cX8_ask 80 = .ok (.bipush 30, 2) := by decide +kernel
theorem dX8_ask_82 : decode cX8_ask 82 = .ok (.iload_n 1, 1) := by decide +kernel
theorem dX8_ask_83 : decode cX8_ask 83 = .ok (.iadd, 1) := by decide +kernel
theorem dX8_ask_84 : decode cX8_ask 84 = .ok (.iaload, 1) := by decide +kernel
theorem dX8_ask_85 : decode cX8_ask 85 = .ok (.iload 6, 2) := by decide +kernel
theorem dX8_ask_87 : decode cX8_ask 87 = .ok (.invokestatic 136, 3) := by decide +kernel
theorem dX8_ask_90 : decode cX8_ask 90 = .ok (.if_icmp .lt 7, 3) := by decide +kernel
theorem dX8_ask_93 : decode cX8_ask 93 = .ok (.iconst 1, 1) := by decide +kernel
theorem dX8_ask_94 : decode cX8_ask 94 = .ok (.goto 4, 3) := by decide +kernel
theorem dX8_ask_97 : decode cX8_ask 97 = .ok (.iconst 0, 1) := by decide +kernel
theorem dX8_ask_98 : decode cX8_ask 98 = .ok (.iastore, 1) := by decide +kernel
theorem dX8_ask_99 : decode cX8_ask 99 = .ok (.iinc 8 1, 3) := by decide +kernel
theorem dX8_ask_102 : decode cX8_ask 102 = .ok (.goto (-43), 3) := by decide +kernel
theorem dX8_ask_105 : decode cX8_ask 105 = .ok (.aload_n 0, 1) := by decide +kernel
theorem dX8_ask_106 : decode cX8_ask 106 = .ok (.iload_n 2, 1) := by decide +kernel
theorem dX8_ask_107 : decode cX8_ask 107 = .ok (.invokevirtual 194, 3) := by decide +kernel
theorem dX8_ask_110 : decode cX8_ask 110 = .ok (.istore 8, 2) := by decide +kernel
theorem dX8_ask_112 : decode cX8_ask 112 = .ok (.iload 8, 2) := by decide +kernel
theorem dX8_ask_114 : decode cX8_ask 114 = .ok (.iload 4, 2) := by decide +kernel
theorem dX8_ask_116 : decode cX8_ask 116 = .ok (.if_icmp .ge 14, 3) := by decide +kernel
theorem dX8_ask_119 : decode cX8_ask 119 = .ok (.bipush 100, 2) := by decide +kernel
theorem dX8_ask_121 : decode cX8_ask 121 = .ok (.iload 6, 2) := by decide +kernel
theorem dX8_ask_123 : decode cX8_ask 123 = .ok (.imul, 1) := by decide +kernel
theorem dX8_ask_124 : decode cX8_ask 124 = .ok (.iload 7, 2) := by decide +kernel
theorem dX8_ask_126 : decode cX8_ask 126 = .ok (.iadd, 1) := by decide +kernel
theorem dX8_ask_127 : decode cX8_ask 127 = .ok (.goto 4, 3) := by decide +kernel
theorem dX8_ask_130 : decode cX8_ask 130 = .ok (.iload_n 3, 1) := by decide +kernel
theorem dX8_ask_131 : decode cX8_ask 131 = .ok (.istore_n 3, 1) := by decide +kernel
theorem dX8_ask_132 : decode cX8_ask 132 = .ok (.iload 8, 2) := by decide +kernel
theorem dX8_ask_134 : decode cX8_ask 134 = .ok (.iload 4, 2) := by decide +kernel
theorem dX8_ask_136 : decode cX8_ask 136 = .ok (.if_icmp .ge 8, 3) := by decide +kernel
theorem dX8_ask_139 : decode cX8_ask 139 = .ok (.iload 8, 2) := by decide +kernel
theorem dX8_ask_141 : decode cX8_ask 141 = .ok (.goto 5, 3) := by decide +kernel
theorem dX8_ask_144 : decode cX8_ask 144 = .ok (.iload 4, 2) := by decide +kernel
theorem dX8_ask_146 : decode cX8_ask 146 = .ok (.istore 4, 2) := by decide +kernel
theorem dX8_ask_148 : decode cX8_ask 148 = .ok (.iinc 5 1, 3) := by decide +kernel
theorem dX8_ask_151 : decode cX8_ask 151 = .ok (.goto (-121), 3) := by decide +kernel
theorem dX8_ask_154 : decode cX8_ask 154 = .ok (.iload_n 3, 1) := by decide +kernel
theorem dX8_ask_155 : decode cX8_ask 155 = .ok (.ireturn, 1) := by decide +kernel
theorem dX8_gets_0 : decode cX8_gets 0 = .ok (.iload_n 1, 1) := by decide +kernel
theorem dX8_gets_1 : decode cX8_gets 1 = .ok (.iload_n 0, 1) := by decide +kernel
theorem dX8_gets_2 : decode cX8_gets 2 = .ok (.if_icmp .lt 9, 3) := by decide +kernel
theorem dX8_gets_5 : decode cX8_gets 5 = .ok (.iload_n 0, 1) := by decide +kernel
theorem dX8_gets_6 : decode cX8_gets 6 = .ok (.iconst 2, 1) := by decide +kernel
theorem dX8_gets_7 : decode cX8_gets 7 = .ok (.isub, 1) := by decide +kernel
theorem dX8_gets_8 : decode cX8_gets 8 = .ok (.goto 4, 3) := by decide +kernel
theorem dX8_gets_11 : decode cX8_gets 11 = .ok (.iload_n 0, 1) := by decide +kernel
theorem dX8_gets_12 : decode cX8_gets 12 = .ok (.ireturn, 1) := by decide +kernel
theorem dX8_rests_0 : decode cX8_rests 0 = .ok (.iconst 1, 1) := by decide +kernel
theorem dX8_rests_1 : decode cX8_rests 1 = .ok (.istore_n 3, 1) := by decide +kernel
theorem dX8_rests_2 : decode cX8_rests 2 = .ok (.iconst 1, 1) := by decide +kernel
theorem dX8_rests_3 : decode cX8_rests 3 = .ok (.istore 4, 2) := by decide +kernel
theorem dX8_rests_5 : decode cX8_rests 5 = .ok (.iload 4, 2) := by decide +kernel
theorem dX8_rests_7 : decode cX8_rests 7 = .ok (.bipush 10, 2) := by decide +kernel
theorem dX8_rests_9 : decode cX8_rests 9 = .ok (.if_icmp .ge 87, 3) := by decide +kernel
theorem dX8_rests_12 : decode cX8_rests 12 = .ok (.iload_n 3, 1) := by decide +kernel
theorem dX8_rests_13 : decode cX8_rests 13 = .ok (.ifCond .eq 75, 3) := by decide +kernel
theorem dX8_rests_16 : decode cX8_rests 16 = .ok (.aload_n 0, 1) := by decide +kernel
theorem dX8_rests_17 : decode cX8_rests 17 = .ok (.getfield 39, 3) := by decide +kernel
theorem dX8_rests_20 : decode cX8_rests 20 = .ok (.iload 4, 2) := by decide +kernel
theorem dX8_rests_22 : decode cX8_rests 22 = .ok (.iaload, 1) := by decide +kernel
theorem dX8_rests_23 : decode cX8_rests 23 = .ok (.aload_n 0, 1) := by decide +kernel
theorem dX8_rests_24 : decode cX8_rests 24 = .ok (.getfield 42, 3) := by decide +kernel
theorem dX8_rests_27 : decode cX8_rests 27 = .ok (.iload_n 2, 1) := by decide +kernel
theorem dX8_rests_28 : decode cX8_rests 28 = .ok (.iaload, 1) := by decide +kernel
theorem dX8_rests_29 : decode cX8_rests 29 = .ok (.invokestatic 200, 3) := by decide +kernel
theorem dX8_rests_32 : decode cX8_rests 32 = .ok (.aload_n 0, 1) := by decide +kernel
theorem dX8_rests_33 : decode cX8_rests 33 = .ok (.getfield 39, 3) := by decide +kernel
theorem dX8_rests_36 : decode cX8_rests 36 = .ok (.iload_n 1, 1) := by decide +kernel
theorem dX8_rests_37 : decode cX8_rests 37 = .ok (.iaload, 1) := by decide +kernel
theorem dX8_rests_38 : decode cX8_rests 38 = .ok (.aload_n 0, 1) := by decide +kernel
theorem dX8_rests_39 : decode cX8_rests 39 = .ok (.getfield 42, 3) := by decide +kernel
theorem dX8_rests_42 : decode cX8_rests 42 = .ok (.iload_n 2, 1) := by decide +kernel
theorem dX8_rests_43 : decode cX8_rests 43 = .ok (.iaload, 1) := by decide +kernel
theorem dX8_rests_44 : decode cX8_rests 44 = .ok (.invokestatic 200, 3) := by decide +kernel
theorem dX8_rests_47 : decode cX8_rests 47 = .ok (.if_icmp .gt 41, 3) := by decide +kernel
theorem dX8_rests_50 : decode cX8_rests 50 = .ok (.aload_n 0, 1) := by decide +kernel
theorem dX8_rests_51 : decode cX8_rests 51 = .ok (.getfield 42, 3) := by decide +kernel
theorem dX8_rests_54 : decode cX8_rests 54 = .ok (.iload 4, 2) := by decide +kernel
theorem dX8_rests_56 : decode cX8_rests 56 = .ok (.iaload, 1) := by decide +kernel
theorem dX8_rests_57 : decode cX8_rests 57 = .ok (.aload_n 0, 1) := by decide +kernel
theorem dX8_rests_58 : decode cX8_rests 58 = .ok (.getfield 39, 3) := by decide +kernel
theorem dX8_rests_61 : decode cX8_rests 61 = .ok (.iload_n 1, 1) := by decide +kernel
theorem dX8_rests_62 : decode cX8_rests 62 = .ok (.iaload, 1) := by decide +kernel
theorem dX8_rests_63 : decode cX8_rests 63 = .ok (.invokestatic 200, 3) := by decide +kernel
theorem dX8_rests_66 : decode cX8_rests 66 = .ok (.aload_n 0, 1) := by decide +kernel
theorem dX8_rests_67 : decode cX8_rests 67 = .ok (.getfield 42, 3) := by decide +kernel
theorem dX8_rests_70 : decode cX8_rests 70 = .ok (.iload_n 2, 1) := by decide +kernel
theorem dX8_rests_71 : decode cX8_rests 71 = .ok (.iaload, 1) := by decide +kernel
theorem dX8_rests_72 : decode cX8_rests 72 = .ok (.aload_n 0, 1) := by decide +kernel
theorem dX8_rests_73 : decode cX8_rests 73 = .ok (.getfield 39, 3) := by decide +kernel
theorem dX8_rests_76 : decode cX8_rests 76 = .ok (.iload_n 1, 1) := by decide +kernel
theorem dX8_rests_77 : decode cX8_rests 77 = .ok (.iaload, 1) := by decide +kernel
theorem dX8_rests_78 : decode cX8_rests 78 = .ok (.invokestatic 200, 3) := by decide +kernel
theorem dX8_rests_81 : decode cX8_rests 81 = .ok (.if_icmp .gt 7, 3) := by decide +kernel
theorem dX8_rests_84 : decode cX8_rests 84 = .ok (.iconst 1, 1) := by decide +kernel
theorem dX8_rests_85 : decode cX8_rests 85 = .ok (.goto 4, 3) := by decide +kernel
theorem dX8_rests_88 : decode cX8_rests 88 = .ok (.iconst 0, 1) := by decide +kernel
theorem dX8_rests_89 : decode cX8_rests 89 = .ok (.istore_n 3, 1) := by decide +kernel
theorem dX8_rests_90 : decode cX8_rests 90 = .ok (.iinc 4 1, 3) := by decide +kernel
theorem dX8_rests_93 : decode cX8_rests 93 = .ok (.goto (-88), 3) := by decide +kernel
theorem dX8_rests_96 : decode cX8_rests 96 = .ok (.iload_n 3, 1) := by decide +kernel
theorem dX8_rests_97 : decode cX8_rests 97 = .ok (.ireturn, 1) := by decide +kernel
theorem dX8_rivals_0 : decode cX8_rivals 0 = .ok (.aload_n 0, 1) := by decide +kernel
theorem dX8_rivals_1 : decode cX8_rivals 1 = .ok (.iload_n 1, 1) := by decide +kernel
theorem dX8_rivals_2 : decode cX8_rivals 2 = .ok (.invokevirtual 160, 3) := by decide +kernel
theorem dX8_rivals_5 : decode cX8_rivals 5 = .ok (.ifCond .eq 30, 3) := by decide +kernel
theorem dX8_rivals_8 : decode cX8_rivals 8 = .ok (.aload_n 0, 1) := by decide +kernel
theorem dX8_rivals_9 : decode cX8_rivals 9 = .ok (.iload_n 2, 1) := by decide +kernel
theorem dX8_rivals_10 : decode cX8_rivals 10 = .ok (.invokevirtual 160, 3) := by decide +kernel
theorem dX8_rivals_13 : decode cX8_rivals 13 = .ok (.ifCond .eq 22, 3) := by decide +kernel
theorem dX8_rivals_16 : decode cX8_rivals 16 = .ok (.iload_n 1, 1) := by decide +kernel
theorem dX8_rivals_17 : decode cX8_rivals 17 = .ok (.iload_n 2, 1) := by decide +kernel
theorem dX8_rivals_18 : decode cX8_rivals 18 = .ok (.if_icmp .eq 17, 3) := by decide +kernel
theorem dX8_rivals_21 : decode cX8_rivals 21 = .ok (.aload_n 0, 1) := by decide +kernel
theorem dX8_rivals_22 : decode cX8_rivals 22 = .ok (.iload_n 3, 1) := by decide +kernel
theorem dX8_rivals_23 : decode cX8_rivals 23 = .ok (.invokevirtual 157, 3) := by decide +kernel
theorem dX8_rivals_26 : decode cX8_rivals 26 = .ok (.ifCond .eq 9, 3) := by decide +kernel
theorem dX8_rivals_29 : decode cX8_rivals 29 = .ok (.iload 4, 2) := by decide +kernel
theorem dX8_rivals_31 : decode cX8_rivals 31 = .ok (.iconst (-1), 1) := by decide +kernel
theorem dX8_rivals_32 : decode cX8_rivals 32 = .ok (.if_icmp .ge 10, 3) := by decide +kernel
theorem dX8_rivals_35 : decode cX8_rivals 35 = .ok (.aload_n 0, 1) := by decide +kernel
theorem dX8_rivals_36 : decode cX8_rivals 36 = .ok (.bipush (-10), 2) := by decide +kernel
theorem dX8_rivals_38 : decode cX8_rivals 38 = .ok (.invokevirtual 176, 3) := by decide +kernel
theorem dX8_rivals_41 : decode cX8_rivals 41 = .ok (.ireturn, 1) := by decide +kernel
theorem dX8_rivals_42 : decode cX8_rivals 42 = .ok (.iconst 1, 1) := by decide +kernel
theorem dX8_rivals_43 : decode cX8_rivals 43 = .ok (.istore 5, 2) := by decide +kernel
theorem dX8_rivals_45 : decode cX8_rivals 45 = .ok (.iload 5, 2) := by decide +kernel
theorem dX8_rivals_47 : decode cX8_rivals 47 = .ok (.bipush 10, 2) := by decide +kernel
theorem dX8_rivals_49 : decode cX8_rivals 49 = .ok (.if_icmp .ge 113, 3) := by decide +kernel
theorem dX8_rivals_52 : decode cX8_rivals 52 = .ok (.aload_n 0, 1) := by decide +kernel
theorem dX8_rivals_53 : decode cX8_rivals 53 = .ok (.getfield 39, 3) := by decide +kernel
theorem dX8_rivals_56 : decode cX8_rivals 56 = .ok (.iload 5, 2) := by decide +kernel
theorem dX8_rivals_58 : decode cX8_rivals 58 = .ok (.aload_n 0, 1) := by decide +kernel
theorem dX8_rivals_59 : decode cX8_rivals 59 = .ok (.getfield 7, 3) := by decide +kernel
theorem dX8_rivals_62 : decode cX8_rivals 62 = .ok (.bipush 13, 2) := by decide +kernel
theorem dX8_rivals_64 : decode cX8_rivals 64 = .ok (.iload_n 3, 1) := by decide +kernel
theorem dX8_rivals_65 : decode cX8_rivals 65 = .ok (.iadd, 1) := by decide +kernel
theorem dX8_rivals_66 : decode cX8_rivals 66 = .ok (.iaload, 1) := by decide +kernel
theorem dX8_rivals_67 : decode cX8_rivals 67 = .ok (.aload_n 0, 1) := by decide +kernel
theorem dX8_rivals_68 : decode cX8_rivals 68 = .ok (.getfield 7, 3) := by decide +kernel
theorem dX8_rivals_71 : decode cX8_rivals 71 = .ok (.bipush 19, 2) := by decide +kernel
theorem dX8_rivals_73 : decode cX8_rivals 73 = .ok (.iload_n 3, 1) := by decide +kernel
theorem dX8_rivals_74 : decode cX8_rivals 74 = .ok (.iadd, 1) := by decide +kernel
theorem dX8_rivals_75 : decode cX8_rivals 75 = .ok (.iaload, 1) := by decide +kernel
theorem dX8_rivals_76 : decode cX8_rivals 76 = .ok (.aload_n 0, 1) := by decide +kernel
theorem dX8_rivals_77 : decode cX8_rivals 77 = .ok (.getfield 7, 3) := by decide +kernel
theorem dX8_rivals_80 : decode cX8_rivals 80 = .ok (.bipush 26, 2) := by decide +kernel
theorem dX8_rivals_82 : decode cX8_rivals 82 = .ok (.iload_n 1, 1) := by decide +kernel
theorem dX8_rivals_83 : decode cX8_rivals 83 = .ok (.iadd, 1) := by decide +kernel
theorem dX8_rivals_84 : decode cX8_rivals 84 = .ok (.iaload, 1) := by decide +kernel
theorem dX8_rivals_85 : decode cX8_rivals 85 = .ok (.iload 5, 2) := by decide +kernel
theorem dX8_rivals_87 : decode cX8_rivals 87 = .ok (.aload_n 0, 1) := by decide +kernel
theorem dX8_rivals_88 : decode cX8_rivals 88 = .ok (.getfield 7, 3) := by decide +kernel
theorem dX8_rivals_91 : decode cX8_rivals 91 = .ok (.bipush 10, 2) := by decide +kernel
theorem dX8_rivals_93 : decode cX8_rivals 93 = .ok (.iaload, 1) := by decide +kernel
theorem dX8_rivals_94 : decode cX8_rivals 94 = .ok (.invokestatic 136, 3) := by decide +kernel
theorem dX8_rivals_97 : decode cX8_rivals 97 = .ok (.invokestatic 142, 3) := by decide +kernel
theorem dX8_rivals_100 : decode cX8_rivals 100 = .ok (.invokestatic 148, 3) := by decide +kernel
theorem dX8_rivals_103 : decode cX8_rivals 103 = .ok (.iastore, 1) := by decide +kernel
theorem dX8_rivals_104 : decode cX8_rivals 104 = .ok (.aload_n 0, 1) := by decide +kernel
theorem dX8_rivals_105 : decode cX8_rivals 105 = .ok (.getfield 42, 3) := by decide +kernel
theorem dX8_rivals_108 : decode cX8_rivals 108 = .ok (.iload 5, 2) := by decide +kernel
theorem dX8_rivals_110 : decode cX8_rivals 110 = .ok (.aload_n 0, 1) := by decide +kernel
theorem dX8_rivals_111 : decode cX8_rivals 111 = .ok (.getfield 7, 3) := by decide +kernel
theorem dX8_rivals_114 : decode cX8_rivals 114 = .ok (.bipush 13, 2) := by decide +kernel
theorem dX8_rivals_116 : decode cX8_rivals 116 = .ok (.iload_n 3, 1) := by decide +kernel
theorem dX8_rivals_117 : decode cX8_rivals 117 = .ok (.iadd, 1) := by decide +kernel
theorem dX8_rivals_118 : decode cX8_rivals 118 = .ok (.iaload, 1) := by decide +kernel
theorem dX8_rivals_119 : decode cX8_rivals 119 = .ok (.aload_n 0, 1) := by decide +kernel
theorem dX8_rivals_120 : decode cX8_rivals 120 = .ok (.getfield 7, 3) := by decide +kernel
theorem dX8_rivals_123 : decode cX8_rivals 123 = .ok (.bipush 19, 2) := by decide +kernel
theorem dX8_rivals_125 : decode cX8_rivals 125 = .ok (.iload_n 3, 1) := by decide +kernel
theorem dX8_rivals_126 : decode cX8_rivals 126 = .ok (.iadd, 1) := by decide +kernel
theorem dX8_rivals_127 : decode cX8_rivals 127 = .ok (.iaload, 1) := by decide +kernel
theorem dX8_rivals_128 : decode cX8_rivals 128 = .ok (.aload_n 0, 1) := by decide +kernel
theorem dX8_rivals_129 : decode cX8_rivals 129 = .ok (.getfield 7, 3) := by decide +kernel
theorem dX8_rivals_132 : decode cX8_rivals 132 = .ok (.bipush 26, 2) := by decide +kernel
theorem dX8_rivals_134 : decode cX8_rivals 134 = .ok (.iload_n 2, 1) := by decide +kernel
theorem dX8_rivals_135 : decode cX8_rivals 135 = .ok (.iadd, 1) := by decide +kernel
theorem dX8_rivals_136 : decode cX8_rivals 136 = .ok (.iaload, 1) := by decide +kernel
theorem dX8_rivals_137 : decode cX8_rivals 137 = .ok (.iload 5, 2) := by decide +kernel
theorem dX8_rivals_139 : decode cX8_rivals 139 = .ok (.aload_n 0, 1) := by decide +kernel
theorem dX8_rivals_140 : decode cX8_rivals 140 = .ok (.getfield 7, 3) := by decide +kernel
theorem dX8_rivals_143 : decode cX8_rivals 143 = .ok (.bipush 10, 2) := by decide +kernel
theorem dX8_rivals_145 : decode cX8_rivals 145 = .ok (.iaload, 1) := by decide +kernel
theorem dX8_rivals_146 : decode cX8_rivals 146 = .ok (.invokestatic 136, 3) := by decide +kernel
theorem dX8_rivals_149 : decode cX8_rivals 149 = .ok (.invokestatic 142, 3) := by decide +kernel
theorem dX8_rivals_152 : decode cX8_rivals 152 = .ok (.invokestatic 148, 3) := by decide +kernel
theorem dX8_rivals_155 : decode cX8_rivals 155 = .ok (.iastore, 1) := by decide +kernel
theorem dX8_rivals_156 : decode cX8_rivals 156 = .ok (.iinc 5 1, 3) := by decide +kernel
theorem dX8_rivals_159 : decode cX8_rivals 159 = .ok (.goto (-114), 3) := by decide +kernel
theorem dX8_rivals_162 : decode cX8_rivals 162 = .ok (.iconst 0, 1) := by decide +kernel
theorem dX8_rivals_163 : decode cX8_rivals 163 = .ok (.istore 5, 2) := by decide +kernel
theorem dX8_rivals_165 : decode cX8_rivals 165 = .ok (.bipush (-5), 2) := by decide +kernel
theorem dX8_rivals_167 : decode cX8_rivals 167 = .ok (.istore 6, 2) := by decide +kernel
theorem dX8_rivals_169 : decode cX8_rivals 169 = .ok (.bipush 11, 2) := by decide +kernel
theorem dX8_rivals_171 : decode cX8_rivals 171 = .ok (.istore 7, 2) := by decide +kernel
theorem dX8_rivals_173 : decode cX8_rivals 173 = .ok (.iload 7, 2) := by decide +kernel
theorem dX8_rivals_175 : decode cX8_rivals 175 = .ok (.bipush 100, 2) := by decide +kernel
theorem dX8_rivals_177 : decode cX8_rivals 177 = .ok (.if_icmp .ge 53, 3) := by decide +kernel
theorem dX8_rivals_180 : decode cX8_rivals 180 = .ok (.iload 7, 2) := by decide +kernel
theorem dX8_rivals_182 : decode cX8_rivals 182 = .ok (.bipush 10, 2) := by decide +kernel
theorem dX8_rivals_184 : decode cX8_rivals 184 = .ok (.irem, 1) := by decide +kernel
theorem dX8_rivals_185 : decode cX8_rivals 185 = .ok (.ifCond .le 39, 3) := by decide +kernel
theorem dX8_rivals_188 : decode cX8_rivals 188 = .ok (.aload_n 0, 1) := by decide +kernel
theorem dX8_rivals_189 : decode cX8_rivals 189 = .ok (.iload 7, 2) := by decide +kernel
theorem dX8_rivals_191 : decode cX8_rivals 191 = .ok (.bipush 10, 2) := by decide +kernel
theorem dX8_rivals_193 : decode cX8_rivals 193 = .ok (.idiv, 1) := by decide +kernel
theorem dX8_rivals_194 : decode cX8_rivals 194 = .ok (.iload 7, 2) := by decide +kernel
theorem dX8_rivals_196 : decode cX8_rivals 196 = .ok (.bipush 10, 2) := by decide +kernel
theorem dX8_rivals_198 : decode cX8_rivals 198 = .ok (.irem, 1) := by decide +kernel
theorem dX8_rivals_199 : decode cX8_rivals 199 = .ok (.invokevirtual 203, 3) := by decide +kernel
theorem dX8_rivals_202 : decode cX8_rivals 202 = .ok (.ifCond .eq 22, 3) := by decide +kernel
theorem dX8_rivals_205 : decode cX8_rivals 205 = .ok (.iload 5, 2) := by decide +kernel
theorem dX8_rivals_207 : decode cX8_rivals 207 = .ok (.iload 4, 2) := by decide +kernel
theorem dX8_rivals_209 : decode cX8_rivals 209 = .ok (.if_icmp .ne 8, 3) := by decide +kernel
theorem dX8_rivals_212 : decode cX8_rivals 212 = .ok (.iload 7, 2) := by decide +kernel
theorem dX8_rivals_214 : decode cX8_rivals 214 = .ok (.goto 5, 3) := by decide +kernel
theorem dX8_rivals_217 : decode cX8_rivals 217 = .ok (.iload 6, 2) := by decide +kernel
theorem dX8_rivals_219 : decode cX8_rivals 219 = .ok (.istore 6, 2) := by decide +kernel
theorem dX8_rivals_221 : decode cX8_rivals 221 = .ok (.iinc 5 1, 3) := by decide +kernel
theorem dX8_rivals_224 : decode cX8_rivals 224 = .ok (.iinc 7 1, 3) := by decide +kernel
theorem dX8_rivals_227 : decode cX8_rivals 227 = .ok (.goto (-54), 3) := by decide +kernel
theorem dX8_rivals_230 : decode cX8_rivals 230 = .ok (.iload 4, 2) := by decide +kernel
theorem dX8_rivals_232 : decode cX8_rivals 232 = .ok (.iconst (-1), 1) := by decide +kernel
theorem dX8_rivals_233 : decode cX8_rivals 233 = .ok (.if_icmp .ne 8, 3) := by decide +kernel
theorem dX8_rivals_236 : decode cX8_rivals 236 = .ok (.iload 5, 2) := by decide +kernel
theorem dX8_rivals_238 : decode cX8_rivals 238 = .ok (.goto 5, 3) := by decide +kernel
theorem dX8_rivals_241 : decode cX8_rivals 241 = .ok (.iload 6, 2) := by decide +kernel
theorem dX8_rivals_243 : decode cX8_rivals 243 = .ok (.ireturn, 1) := by decide +kernel
theorem dX8_tellPart_0 : decode cX8_tellPart 0 = .ok (.lload_n 1, 1) := by decide +kernel
theorem dX8_tellPart_1 : decode cX8_tellPart 1 = .ok (.lstore 5, 2) := by decide +kernel
theorem dX8_tellPart_3 : decode cX8_tellPart 3 = .ok (.lload_n 3, 1) := by decide +kernel
theorem dX8_tellPart_4 : decode cX8_tellPart 4 = .ok (.lstore 7, 2) := by decide +kernel
theorem dX8_tellPart_6 : decode cX8_tellPart 6 = .ok (.lload 7, 2) := by decide +kernel
theorem dX8_tellPart_8 : decode cX8_tellPart 8 = .ok (.lconst 0, 1) := by decide +kernel
theorem dX8_tellPart_9 : decode cX8_tellPart 9 = .ok (.lcmp, 1) := by decide +kernel
theorem dX8_tellPart_10 : decode cX8_tellPart 10 = .ok (.ifCond .eq 21, 3) := by decide +kernel
theorem dX8_tellPart_13 : decode cX8_tellPart 13 = .ok (.lload 5, 2) := by decide +kernel
theorem dX8_tellPart_15 : decode cX8_tellPart 15 = .ok (.lload 7, 2) := by decide +kernel
theorem dX8_tellPart_17 : decode cX8_tellPart 17 = .ok (.lrem, 1) := by decide +kernel
theorem dX8_tellPart_18 : decode cX8_tellPart 18 = .ok (.lstore 9, 2) := by decide +kernel
theorem dX8_tellPart_20 : decode cX8_tellPart 20 = .ok (.lload 7, 2) := by decide +kernel
theorem dX8_tellPart_22 : decode cX8_tellPart 22 = .ok (.lstore 5, 2) := by decide +kernel
theorem dX8_tellPart_24 : decode cX8_tellPart 24 = .ok (.lload 9, 2) := by decide +kernel
theorem dX8_tellPart_26 : decode cX8_tellPart 26 = .ok (.lstore 7, 2) := by decide +kernel
theorem dX8_tellPart_28 : decode cX8_tellPart 28 = .ok (.goto (-22), 3) := by decide +kernel
theorem dX8_tellPart_31 : decode cX8_tellPart 31 = .ok (.aload_n 0, 1) := by decide +kernel
theorem dX8_tellPart_32 : decode cX8_tellPart 32 = .ok (.lload_n 1, 1) := by decide +kernel
theorem dX8_tellPart_33 : decode cX8_tellPart 33 = .ok (.lload 5, 2) := by decide +kernel
theorem dX8_tellPart_35 : decode cX8_tellPart 35 = .ok (.ldiv, 1) := by decide +kernel
theorem dX8_tellPart_36 : decode cX8_tellPart 36 = .ok (.putfield 206, 3) := by decide +kernel
theorem dX8_tellPart_39 : decode cX8_tellPart 39 = .ok (.aload_n 0, 1) := by decide +kernel
theorem dX8_tellPart_40 : decode cX8_tellPart 40 = .ok (.lload_n 3, 1) := by decide +kernel
theorem dX8_tellPart_41 : decode cX8_tellPart 41 = .ok (.lload 5, 2) := by decide +kernel
theorem dX8_tellPart_43 : decode cX8_tellPart 43 = .ok (.ldiv, 1) := by decide +kernel
theorem dX8_tellPart_44 : decode cX8_tellPart 44 = .ok (.putfield 20, 3) := by decide +kernel
theorem dX8_tellPart_47 : decode cX8_tellPart 47 = .ok (.return_, 1) := by decide +kernel
theorem dX8_rain_0 : decode cX8_rain 0 = .ok (.aload_n 0, 1) := by decide +kernel
theorem dX8_rain_1 : decode cX8_rain 1 = .ok (.iload_n 1, 1) := by decide +kernel
theorem dX8_rain_2 : decode cX8_rain 2 = .ok (.invokevirtual 157, 3) := by decide +kernel
theorem dX8_rain_5 : decode cX8_rain 5 = .ok (.ifCond .eq 13, 3) := by decide +kernel
theorem dX8_rain_8 : decode cX8_rain 8 = .ok (.iload_n 2, 1) := by decide +kernel
theorem dX8_rain_9 : decode cX8_rain 9 = .ok (.iconst 0, 1) := by decide +kernel
theorem dX8_rain_10 : decode cX8_rain 10 = .ok (.bipush 10, 2) := by decide +kernel
theorem dX8_rain_12 : decode cX8_rain 12 = .ok (.invokestatic 49, 3) := by decide +kernel
theorem dX8_rain_15 : decode cX8_rain 15 = .ok (.ifCond .ne 10, 3) := by decide +kernel
theorem dX8_rain_18 : decode cX8_rain 18 = .ok (.aload_n 0, 1) := by decide +kernel
theorem dX8_rain_19 : decode cX8_rain 19 = .ok (.bipush (-2), 2) := by decide +kernel
theorem dX8_rain_21 : decode cX8_rain 21 = .ok (.invokevirtual 45, 3) := by decide +kernel
theorem dX8_rain_24 : decode cX8_rain 24 = .ok (.ireturn, 1) := by decide +kernel
theorem dX8_rain_25 : decode cX8_rain 25 = .ok (.lconst 0, 1) := by decide +kernel
theorem dX8_rain_26 : decode cX8_rain 26 = .ok (.lstore_n 3, 1) := by decide +kernel
theorem dX8_rain_27 : decode cX8_rain 27 = .ok (.iconst 0, 1) := by decide +kernel
theorem dX8_rain_28 : decode cX8_rain 28 = .ok (.istore 5, 2) := by decide +kernel
theorem dX8_rain_30 : decode cX8_rain 30 = .ok (.iload 5, 2) := by decide +kernel
theorem dX8_rain_32 : decode cX8_rain 32 = .ok (.aload_n 0, 1) := by decide +kernel
theorem dX8_rain_33 : decode cX8_rain 33 = .ok (.getfield 7, 3) := by decide +kernel
theorem dX8_rain_36 : decode cX8_rain 36 = .ok (.bipush 25, 2) := by decide +kernel
theorem dX8_rain_38 : decode cX8_rain 38 = .ok (.iaload, 1) := by decide +kernel
theorem dX8_rain_39 : decode cX8_rain 39 = .ok (.if_icmp .ge 43, 3) := by decide +kernel
theorem dX8_rain_42 : decode cX8_rain 42 = .ok (.lload_n 3, 1) := by decide +kernel
theorem dX8_rain_43 : decode cX8_rain 43 = .ok (.iload_n 2, 1) := by decide +kernel
theorem dX8_rain_44 : decode cX8_rain 44 = .ok (.aload_n 0, 1) := by decide +kernel
theorem dX8_rain_45 : decode cX8_rain 45 = .ok (.iload_n 1, 1) := by decide +kernel
theorem dX8_rain_46 : decode cX8_rain 46 = .ok (.iload 5, 2) := by decide +kernel
theorem dX8_rain_48 : decode cX8_rain 48 = .ok (.iconst 4, 1) := by decide +kernel
theorem dX8_rain_49 : decode cX8_rain 49 = .ok (.invokevirtual 145, 3) := by decide +kernel
theorem dX8_rain_52 : decode cX8_rain 52 = .ok (.invokestatic 148, 3) := by decide +kernel
theorem dX8_rain_55 : decode cX8_rain 55 = .ok (.imul, 1) := by decide +kernel
theorem dX8_rain_56 : decode cX8_rain 56 = .ok (.bipush 10, 2) := by decide +kernel
theorem dX8_rain_58 : decode cX8_rain 58 = .ok (.iload_n 2, 1) := by decide +kernel
theorem dX8_rain_59 : decode cX8_rain 59 = .ok (.isub, 1) := by decide +kernel
theorem dX8_rain_60 : decode cX8_rain 60 = .ok (.aload_n 0, 1) := by decide +kernel
theorem dX8_rain_61 : decode cX8_rain 61 = .ok (.iload_n 1, 1) := by decide +kernel
theorem dX8_rain_62 : decode cX8_rain 62 = .ok (.iload 5, 2) := by decide +kernel
theorem dX8_rain_64 : decode cX8_rain 64 = .ok (.iconst 0, 1) := by decide +kernel
theorem dX8_rain_65 : decode cX8_rain 65 = .ok (.invokevirtual 145, 3) := by decide +kernel
theorem dX8_rain_68 : decode cX8_rain 68 = .ok (.invokestatic 148, 3) := by decide +kernel
theorem dX8_rain_71 : decode cX8_rain 71 = .ok (.imul, 1) := by decide +kernel
theorem dX8_rain_72 : decode cX8_rain 72 = .ok (.iadd, 1) := by decide +kernel
theorem dX8_rain_73 : decode cX8_rain 73 = .ok (.i2l, 1) := by decide +kernel
theorem dX8_rain_74 : decode cX8_rain 74 = .ok (.ladd, 1) := by decide +kernel
theorem dX8_rain_75 : decode cX8_rain 75 = .ok (.lstore_n 3, 1) := by decide +kernel
theorem dX8_rain_76 : decode cX8_rain 76 = .ok (.iinc 5 1, 3) := by decide +kernel
theorem dX8_rain_79 : decode cX8_rain 79 = .ok (.goto (-49), 3) := by decide +kernel
theorem dX8_rain_82 : decode cX8_rain 82 = .ok (.aload_n 0, 1) := by decide +kernel
theorem dX8_rain_83 : decode cX8_rain 83 = .ok (.lload_n 3, 1) := by decide +kernel
theorem dX8_rain_84 : decode cX8_rain 84 = .ok (.ldc2_w 209, 3) := by decide +kernel
theorem dX8_rain_87 : decode cX8_rain 87 = .ok (.invokevirtual 211, 3) := by decide +kernel
theorem dX8_rain_90 : decode cX8_rain 90 = .ok (.iconst 1, 1) := by decide +kernel
theorem dX8_rain_91 : decode cX8_rain 91 = .ok (.ireturn, 1) := by decide +kernel
theorem dX8_years_0 : decode cX8_years 0 = .ok (.iload_n 1, 1) := by decide +kernel
theorem dX8_years_1 : decode cX8_years 1 = .ok (.iconst 0, 1) := by decide +kernel
theorem dX8_years_2 : decode cX8_years 2 = .ok (.ldc 215, 2) := by decide +kernel
theorem dX8_years_4 : decode cX8_years 4 = .ok (.invokestatic 49, 3) := by decide +kernel
theorem dX8_years_7 : decode cX8_years 7 = .ok (.ifCond .eq 13, 3) := by decide +kernel
theorem dX8_years_10 : decode cX8_years 10 = .ok (.iload_n 2, 1) := by decide +kernel
theorem dX8_years_11 : decode cX8_years 11 = .ok (.iconst 0, 1) := by decide +kernel
theorem dX8_years_12 : decode cX8_years 12 = .ok (.bipush 60, 2) := by decide +kernel
theorem dX8_years_14 : decode cX8_years 14 = .ok (.invokestatic 49, 3) := by decide +kernel
theorem dX8_years_17 : decode cX8_years 17 = .ok (.ifCond .ne 10, 3) := by decide +kernel
theorem dX8_years_20 : decode cX8_years 20 = .ok (.aload_n 0, 1) := by decide +kernel
theorem dX8_years_21 : decode cX8_years 21 = .ok (.bipush (-2), 2) := by decide +kernel
theorem dX8_years_23 : decode cX8_years 23 = .ok (.invokevirtual 45, 3) := by decide +kernel
theorem dX8_years_26 : decode cX8_years 26 = .ok (.ireturn, 1) := by decide +kernel
theorem dX8_years_27 : decode cX8_years 27 = .ok (.aload_n 0, 1) := by decide +kernel
theorem dX8_years_28 : decode cX8_years 28 = .ok (.invokevirtual 169, 3) := by decide +kernel
theorem dX8_years_31 : decode cX8_years 31 = .ok (.iload_n 1, 1) := by decide +kernel
theorem dX8_years_32 : decode cX8_years 32 = .ok (.i2l, 1) := by decide +kernel
theorem dX8_years_33 : decode cX8_years 33 = .ok (.lstore_n 3, 1) := by decide +kernel
theorem dX8_years_34 : decode cX8_years 34 = .ok (.iconst 0, 1) := by decide +kernel
theorem dX8_years_35 : decode cX8_years 35 = .ok (.istore 5, 2) := by decide +kernel
theorem dX8_years_37 : decode cX8_years 37 = .ok (.iload 5, 2) := by decide +kernel
theorem dX8_years_39 : decode cX8_years 39 = .ok (.iload_n 2, 1) := by decide +kernel
theorem dX8_years_40 : decode cX8_years 40 = .ok (.if_icmp .ge 89, 3) := by decide +kernel
theorem dX8_years_43 : decode cX8_years 43 = .ok (.lload_n 3, 1) := by decide +kernel
theorem dX8_years_44 : decode cX8_years 44 = .ok (.ldc2_w 216, 3) := by decide +kernel
theorem dX8_years_47 : decode cX8_years 47 = .ok (.lmul, 1) := by decide +kernel
theorem dX8_years_48 : decode cX8_years 48 = .ok (.ldc2_w 218, 3) := by decide +kernel
theorem dX8_years_51 : decode cX8_years 51 = .ok (.ladd, 1) := by decide +kernel
theorem dX8_years_52 : decode cX8_years 52 = .ok (.ldc2_w 220, 3) := by decide +kernel
theorem dX8_years_55 : decode cX8_years 55 = .ok (.lrem, 1) := by decide +kernel
theorem dX8_years_56 : decode cX8_years 56 = .ok (.lstore_n 3, 1) := by decide +kernel
theorem dX8_years_57 : decode cX8_years 57 = .ok (.lload_n 3, 1) := by decide +kernel
theorem dX8_years_58 : decode cX8_years 58 = .ok (.ldc2_w 222, 3) := by decide +kernel
theorem dX8_years_61 : decode cX8_years 61 = .ok (.ldiv, 1) := by decide +kernel
theorem dX8_years_62 : decode cX8_years 62 = .ok (.ldc2_w 224, 3) := by decide +kernel
theorem dX8_years_65 : decode cX8_years 65 = .ok (.lrem, 1) := by decide +kernel
theorem dX8_years_66 : decode cX8_years 66 = .ok (.l2i, 1) := by decide +kernel
theorem dX8_years_67 : decode cX8_years 67 = .ok (.istore 6, 2) := by decide +kernel
theorem dX8_years_69 : decode cX8_years 69 = .ok (.lload_n 3, 1) := by decide +kernel
theorem dX8_years_70 : decode cX8_years 70 = .ok (.ldc2_w 226, 3) := by decide +kernel
theorem dX8_years_73 : decode cX8_years 73 = .ok (.ldiv, 1) := by decide +kernel
theorem dX8_years_74 : decode cX8_years 74 = .ok (.ldc2_w 228, 3) := by decide +kernel
theorem dX8_years_77 : decode cX8_years 77 = .ok (.lrem, 1) := by decide +kernel
theorem dX8_years_78 : decode cX8_years 78 = .ok (.l2i, 1) := by decide +kernel
theorem dX8_years_79 : decode cX8_years 79 = .ok (.istore 7, 2) := by decide +kernel
theorem dX8_years_81 : decode cX8_years 81 = .ok (.aload_n 0, 1) := by decide +kernel
theorem dX8_years_82 : decode cX8_years 82 = .ok (.iload 6, 2) := by decide +kernel
theorem dX8_years_84 : decode cX8_years 84 = .ok (.invokevirtual 157, 3) := by decide +kernel
theorem dX8_years_87 : decode cX8_years 87 = .ok (.ifCond .eq 29, 3) := by decide +kernel
theorem dX8_years_90 : decode cX8_years 90 = .ok (.aload_n 0, 1) := by decide +kernel
theorem dX8_years_91 : decode cX8_years 91 = .ok (.getfield 7, 3) := by decide +kernel
theorem dX8_years_94 : decode cX8_years 94 = .ok (.sipush 624, 3) := by decide +kernel
theorem dX8_years_97 : decode cX8_years 97 = .ok (.iload 6, 2) := by decide +kernel
theorem dX8_years_99 : decode cX8_years 99 = .ok (.iadd, 1) := by decide +kernel
theorem dX8_years_100 : decode cX8_years 100 = .ok (.aload_n 0, 1) := by decide +kernel
theorem dX8_years_101 : decode cX8_years 101 = .ok (.iload 7, 2) := by decide +kernel
theorem dX8_years_103 : decode cX8_years 103 = .ok (.invokevirtual 160, 3) := by decide +kernel
theorem dX8_years_106 : decode cX8_years 106 = .ok (.ifCond .eq 8, 3) := by decide +kernel
theorem dX8_years_109 : decode cX8_years 109 = .ok (.iload 7, 2) := by decide +kernel
theorem dX8_years_111 : decode cX8_years 111 = .ok (.goto 4, 3) := by decide +kernel
theorem dX8_years_114 : decode cX8_years 114 = .ok (.iconst (-1), 1) := by decide +kernel
theorem dX8_years_115 : decode cX8_years 115 = .ok (.iastore, 1) := by decide +kernel
theorem dX8_years_116 : decode cX8_years 116 = .ok (.aload_n 0, 1) := by decide +kernel
theorem dX8_years_117 : decode cX8_years 117 = .ok (.sipush 624, 3) := by decide +kernel
theorem dX8_years_120 : decode cX8_years 120 = .ok (.invokevirtual 154, 3) := by decide +kernel
theorem dX8_years_123 : decode cX8_years 123 = .ok (.iinc 5 1, 3) := by decide +kernel
theorem dX8_years_126 : decode cX8_years 126 = .ok (.goto (-89), 3) := by decide +kernel
theorem dX8_years_129 : decode cX8_years 129 = .ok (.aload_n 0, 1) := by decide +kernel
theorem dX8_years_130 : decode cX8_years 130 = .ok (.sipush 624, 3) := by decide +kernel
theorem dX8_years_133 : decode cX8_years 133 = .ok (.invokevirtual 166, 3) := by decide +kernel
theorem dX8_years_136 : decode cX8_years 136 = .ok (.ireturn, 1) := by decide +kernel
theorem dX8_part_0 : decode cX8_part 0 = .ok (.iload_n 1, 1) := by decide +kernel
theorem dX8_part_1 : decode cX8_part 1 = .ok (.iconst 0, 1) := by decide +kernel
theorem dX8_part_2 : decode cX8_part 2 = .ok (.iconst 1, 1) := by decide +kernel
theorem dX8_part_3 : decode cX8_part 3 = .ok (.invokestatic 49, 3) := by decide +kernel
theorem dX8_part_6 : decode cX8_part 6 = .ok (.ifCond .ne 11, 3) := by decide +kernel
theorem dX8_part_9 : decode cX8_part 9 = .ok (.aload_n 0, 1) := by decide +kernel
theorem dX8_part_10 : decode cX8_part 10 = .ok (.bipush (-2), 2) := by decide +kernel
theorem dX8_part_12 : decode cX8_part 12 = .ok (.invokevirtual 45, 3) := by decide +kernel
theorem dX8_part_15 : decode cX8_part 15 = .ok (.i2l, 1) := by decide +kernel
theorem dX8_part_16 : decode cX8_part 16 = .ok (.lreturn, 1) := by decide +kernel
theorem dX8_part_17 : decode cX8_part 17 = .ok (.iload_n 1, 1) := by decide +kernel
theorem dX8_part_18 : decode cX8_part 18 = .ok (.ifCond .ne 10, 3) := by decide +kernel
theorem dX8_part_21 : decode cX8_part 21 = .ok (.aload_n 0, 1) := by decide +kernel
theorem dX8_part_22 : decode cX8_part 22 = .ok (.getfield 206, 3) := by decide +kernel
theorem dX8_part_25 : decode cX8_part 25 = .ok (.goto 7, 3) := by decide +kernel
theorem dX8_part_28 : decode cX8_part 28 = .ok (.aload_n 0, 1) := by decide +kernel
theorem dX8_part_29 : decode cX8_part 29 = .ok (.getfield 20, 3) := by decide +kernel
theorem dX8_part_32 : decode cX8_part 32 = .ok (.lreturn, 1) := by decide +kernel
theorem dX8_image_0 : decode cX8_image 0 = .ok (.iload_n 1, 1) := by decide +kernel
theorem dX8_image_1 : decode cX8_image 1 = .ok (.iconst 0, 1) := by decide +kernel
theorem dX8_image_2 : decode cX8_image 2 = .ok (.iconst 1, 1) := by decide +kernel
theorem dX8_image_3 : decode cX8_image 3 = .ok (.invokestatic 49, 3) := by decide +kernel
theorem dX8_image_6 : decode cX8_image 6 = .ok (.ifCond .ne 10, 3) := by decide +kernel
theorem dX8_image_9 : decode cX8_image 9 = .ok (.aload_n 0, 1) := by decide +kernel
theorem dX8_image_10 : decode cX8_image 10 = .ok (.bipush (-2), 2) := by decide +kernel
theorem dX8_image_12 : decode cX8_image 12 = .ok (.invokevirtual 45, 3) := by decide +kernel
theorem dX8_image_15 : decode cX8_image 15 = .ok (.ireturn, 1) := by decide +kernel
theorem dX8_image_16 : decode cX8_image 16 = .ok (.iconst 0, 1) := by decide +kernel
theorem dX8_image_17 : decode cX8_image 17 = .ok (.istore_n 2, 1) := by decide +kernel
theorem dX8_image_18 : decode cX8_image 18 = .ok (.iload_n 2, 1) := by decide +kernel
theorem dX8_image_19 : decode cX8_image 19 = .ok (.sipush 208, 3) := by decide +kernel
theorem dX8_image_22 : decode cX8_image 22 = .ok (.if_icmp .ge 31, 3) := by decide +kernel
theorem dX8_image_25 : decode cX8_image 25 = .ok (.aload_n 0, 1) := by decide +kernel
theorem dX8_image_26 : decode cX8_image 26 = .ok (.getfield 7, 3) := by decide +kernel
theorem dX8_image_29 : decode cX8_image 29 = .ok (.sipush 208, 3) := by decide +kernel
theorem dX8_image_32 : decode cX8_image 32 = .ok (.sipush 208, 3) := by decide +kernel
theorem dX8_image_35 : decode cX8_image 35 = .ok (.iload_n 1, 1) := by decide +kernel
theorem dX8_image_36 : decode cX8_image 36 = .ok (.imul, 1) := by decide +kernel
theorem dX8_image_37 : decode cX8_image 37 = .ok (.iadd, 1) := by decide +kernel
theorem dX8_image_38 : decode cX8_image 38 = .ok (.iload_n 2, 1) := by decide +kernel
theorem dX8_image_39 : decode cX8_image 39 = .ok (.iadd, 1) := by decide +kernel
theorem dX8_image_40 : decode cX8_image 40 = .ok (.aload_n 0, 1) := by decide +kernel
theorem dX8_image_41 : decode cX8_image 41 = .ok (.getfield 7, 3) := by decide +kernel
theorem dX8_image_44 : decode cX8_image 44 = .ok (.iload_n 2, 1) := by decide +kernel
theorem dX8_image_45 : decode cX8_image 45 = .ok (.iaload, 1) := by decide +kernel
theorem dX8_image_46 : decode cX8_image 46 = .ok (.iastore, 1) := by decide +kernel
theorem dX8_image_47 : decode cX8_image 47 = .ok (.iinc 2 1, 3) := by decide +kernel
theorem dX8_image_50 : decode cX8_image 50 = .ok (.goto (-32), 3) := by decide +kernel
theorem dX8_image_53 : decode cX8_image 53 = .ok (.aload_n 0, 1) := by decide +kernel
theorem dX8_image_54 : decode cX8_image 54 = .ok (.getfield 13, 3) := by decide +kernel
theorem dX8_image_57 : decode cX8_image 57 = .ok (.iload_n 1, 1) := by decide +kernel
theorem dX8_image_58 : decode cX8_image 58 = .ok (.iconst 1, 1) := by decide +kernel
theorem dX8_image_59 : decode cX8_image 59 = .ok (.bastore, 1) := by decide +kernel
theorem dX8_image_60 : decode cX8_image 60 = .ok (.iconst 1, 1) := by decide +kernel
theorem dX8_image_61 : decode cX8_image 61 = .ok (.ireturn, 1) := by decide +kernel
theorem dX8_from_0 : decode cX8_from 0 = .ok (.iload_n 1, 1) := by decide +kernel
theorem dX8_from_1 : decode cX8_from 1 = .ok (.iconst 0, 1) := by decide +kernel
theorem dX8_from_2 : decode cX8_from 2 = .ok (.iconst 1, 1) := by decide +kernel
theorem dX8_from_3 : decode cX8_from 3 = .ok (.invokestatic 49, 3) := by decide +kernel
theorem dX8_from_6 : decode cX8_from 6 = .ok (.ifCond .ne 10, 3) := by decide +kernel
theorem dX8_from_9 : decode cX8_from 9 = .ok (.aload_n 0, 1) := by decide +kernel
theorem dX8_from_10 : decode cX8_from 10 = .ok (.bipush (-2), 2) := by decide +kernel
theorem dX8_from_12 : decode cX8_from 12 = .ok (.invokevirtual 45, 3) := by decide +kernel
theorem dX8_from_15 : decode cX8_from 15 = .ok (.ireturn, 1) := by decide +kernel
theorem dX8_from_16 : decode cX8_from 16 = .ok (.aload_n 0, 1) := by decide +kernel
theorem dX8_from_17 : decode cX8_from 17 = .ok (.getfield 13, 3) := by decide +kernel
theorem dX8_from_20 : decode cX8_from 20 = .ok (.iload_n 1, 1) := by decide +kernel
theorem dX8_from_21 : decode cX8_from 21 = .ok (.baload, 1) := by decide +kernel
theorem dX8_from_22 : decode cX8_from 22 = .ok (.ifCond .ne 10, 3) := by decide +kernel
theorem dX8_from_25 : decode cX8_from 25 = .ok (.aload_n 0, 1) := by decide +kernel
theorem dX8_from_26 : decode cX8_from 26 = .ok (.bipush (-3), 2) := by decide +kernel
theorem dX8_from_28 : decode cX8_from 28 = .ok (.invokevirtual 45, 3) := by decide +kernel
theorem dX8_from_31 : decode cX8_from 31 = .ok (.ireturn, 1) := by decide +kernel
theorem dX8_from_32 : decode cX8_from 32 = .ok (.iconst 0, 1) := by decide +kernel
theorem dX8_from_33 : decode cX8_from 33 = .ok (.istore_n 2, 1) := by decide +kernel
theorem dX8_from_34 : decode cX8_from 34 = .ok (.iload_n 2, 1) := by decide +kernel
theorem dX8_from_35 : decode cX8_from 35 = .ok (.sipush 208, 3) := by decide +kernel
theorem dX8_from_38 : decode cX8_from 38 = .ok (.if_icmp .ge 31, 3) := by decide +kernel
theorem dX8_from_41 : decode cX8_from 41 = .ok (.aload_n 0, 1) := by decide +kernel
theorem dX8_from_42 : decode cX8_from 42 = .ok (.getfield 7, 3) := by decide +kernel
theorem dX8_from_45 : decode cX8_from 45 = .ok (.iload_n 2, 1) := by decide +kernel
theorem dX8_from_46 : decode cX8_from 46 = .ok (.aload_n 0, 1) := by decide +kernel
theorem dX8_from_47 : decode cX8_from 47 = .ok (.getfield 7, 3) := by decide +kernel
theorem dX8_from_50 : decode cX8_from 50 = .ok (.sipush 208, 3) := by decide +kernel
theorem dX8_from_53 : decode cX8_from 53 = .ok (.sipush 208, 3) := by decide +kernel
theorem dX8_from_56 : decode cX8_from 56 = .ok (.iload_n 1, 1) := by decide +kernel
theorem dX8_from_57 : decode cX8_from 57 = .ok (.imul, 1) := by decide +kernel
theorem dX8_from_58 : decode cX8_from 58 = .ok (.iadd, 1) := by decide +kernel
theorem dX8_from_59 : decode cX8_from 59 = .ok (.iload_n 2, 1) := by decide +kernel
theorem dX8_from_60 : decode cX8_from 60 = .ok (.iadd, 1) := by decide +kernel
theorem dX8_from_61 : decode cX8_from 61 = .ok (.iaload, 1) := by decide +kernel
theorem dX8_from_62 : decode cX8_from 62 = .ok (.iastore, 1) := by decide +kernel
theorem dX8_from_63 : decode cX8_from 63 = .ok (.iinc 2 1, 3) := by decide +kernel
theorem dX8_from_66 : decode cX8_from 66 = .ok (.goto (-32), 3) := by decide +kernel
theorem dX8_from_69 : decode cX8_from 69 = .ok (.iconst 1, 1) := by decide +kernel
theorem dX8_from_70 : decode cX8_from 70 = .ok (.ireturn, 1) := by decide +kernel
theorem dX8_status_0 : decode cX8_status 0 = .ok (.iload_n 1, 1) := by decide +kernel
theorem dX8_status_1 : decode cX8_status 1 = .ok (.iconst 0, 1) := by decide +kernel
theorem dX8_status_2 : decode cX8_status 2 = .ok (.iconst 2, 1) := by decide +kernel
theorem dX8_status_3 : decode cX8_status 3 = .ok (.invokestatic 49, 3) := by decide +kernel
theorem dX8_status_6 : decode cX8_status 6 = .ok (.ifCond .eq 12, 3) := by decide +kernel
theorem dX8_status_9 : decode cX8_status 9 = .ok (.aload_n 0, 1) := by decide +kernel
theorem dX8_status_10 : decode cX8_status 10 = .ok (.getfield 17, 3) := by decide +kernel
theorem dX8_status_13 : decode cX8_status 13 = .ok (.iload_n 1, 1) := by decide +kernel
theorem dX8_status_14 : decode cX8_status 14 = .ok (.iaload, 1) := by decide +kernel
theorem dX8_status_15 : decode cX8_status 15 = .ok (.goto 8, 3) := by decide +kernel
theorem dX8_status_18 : decode cX8_status 18 = .ok (.aload_n 0, 1) := by decide +kernel
theorem dX8_status_19 : decode cX8_status 19 = .ok (.iconst (-1), 1) := by decide +kernel
theorem dX8_status_20 : decode cX8_status 20 = .ok (.invokevirtual 176, 3) := by decide +kernel
theorem dX8_status_23 : decode cX8_status 23 = .ok (.ireturn, 1) := by decide +kernel
theorem dX8_outOnes_0 : decode cX8_outOnes 0 = .ok (.iconst 0, 1) := by decide +kernel
theorem dX8_outOnes_1 : decode cX8_outOnes 1 = .ok (.istore_n 1, 1) := by decide +kernel
theorem dX8_outOnes_2 : decode cX8_outOnes 2 = .ok (.iconst 0, 1) := by decide +kernel
theorem dX8_outOnes_3 : decode cX8_outOnes 3 = .ok (.istore_n 2, 1) := by decide +kernel
theorem dX8_outOnes_4 : decode cX8_outOnes 4 = .ok (.iload_n 2, 1) := by decide +kernel
theorem dX8_outOnes_5 : decode cX8_outOnes 5 = .ok (.aload_n 0, 1) := by decide +kernel
theorem dX8_outOnes_6 : decode cX8_outOnes 6 = .ok (.getfield 7, 3) := by decide +kernel
theorem dX8_outOnes_9 : decode cX8_outOnes 9 = .ok (.bipush 12, 2) := by decide +kernel
theorem dX8_outOnes_11 : decode cX8_outOnes 11 = .ok (.iaload, 1) := by decide +kernel
theorem dX8_outOnes_12 : decode cX8_outOnes 12 = .ok (.if_icmp .ge 29, 3) := by decide +kernel
theorem dX8_outOnes_15 : decode cX8_outOnes 15 = .ok (.iload_n 1, 1) := by decide +kernel
theorem dX8_outOnes_16 : decode cX8_outOnes 16 = .ok (.aload_n 0, 1) := by decide +kernel
theorem dX8_outOnes_17 : decode cX8_outOnes 17 = .ok (.getfield 7, 3) := by decide +kernel
theorem dX8_outOnes_20 : decode cX8_outOnes 20 = .ok (.iconst 0, 1) := by decide +kernel
theorem dX8_outOnes_21 : decode cX8_outOnes 21 = .ok (.iload_n 2, 1) := by decide +kernel
theorem dX8_outOnes_22 : decode cX8_outOnes 22 = .ok (.iadd, 1) := by decide +kernel
theorem dX8_outOnes_23 : decode cX8_outOnes 23 = .ok (.iaload, 1) := by decide +kernel
theorem dX8_outOnes_24 : decode cX8_outOnes 24 = .ok (.iconst (-1), 1) := by decide +kernel
theorem dX8_outOnes_25 : decode cX8_outOnes 25 = .ok (.if_icmp .ne 7, 3) := by decide +kernel
theorem dX8_outOnes_28 : decode cX8_outOnes 28 = .ok (.iconst 0, 1) := by decide +kernel
theorem dX8_outOnes_29 : decode cX8_outOnes 29 = .ok (.goto 4, 3) := by decide +kernel
theorem dX8_outOnes_32 : decode cX8_outOnes 32 = .ok (.iconst 1, 1) := by decide +kernel
theorem dX8_outOnes_33 : decode cX8_outOnes 33 = .ok (.iadd, 1) := by decide +kernel
theorem dX8_outOnes_34 : decode cX8_outOnes 34 = .ok (.istore_n 1, 1) := by decide +kernel
theorem dX8_outOnes_35 : decode cX8_outOnes 35 = .ok (.iinc 2 1, 3) := by decide +kernel
theorem dX8_outOnes_38 : decode cX8_outOnes 38 = .ok (.goto (-34), 3) := by decide +kernel
theorem dX8_outOnes_41 : decode cX8_outOnes 41 = .ok (.iload_n 1, 1) := by decide +kernel
theorem dX8_outOnes_42 : decode cX8_outOnes 42 = .ok (.ireturn, 1) := by decide +kernel
theorem dX8_countOf_0 : decode cX8_countOf 0 = .ok (.iload_n 1, 1) := by decide +kernel
theorem dX8_countOf_1 : decode cX8_countOf 1 = .ok (.tableswitch 130 0 9 #[55, 63, 71, 79, 87, 92, 98, 106, 114, 122], 55) := by decide +kernel
theorem dX8_countOf_56 : decode cX8_countOf 56 = .ok (.aload_n 0, 1) := by decide +kernel
theorem dX8_countOf_57 : decode cX8_countOf 57 = .ok (.getfield 7, 3) := by decide +kernel
theorem dX8_countOf_60 : decode cX8_countOf 60 = .ok (.bipush 12, 2) := by decide +kernel
theorem dX8_countOf_62 : decode cX8_countOf 62 = .ok (.iaload, 1) := by decide +kernel
theorem dX8_countOf_63 : decode cX8_countOf 63 = .ok (.ireturn, 1) := by decide +kernel
theorem dX8_countOf_64 : decode cX8_countOf 64 = .ok (.aload_n 0, 1) := by decide +kernel
theorem dX8_countOf_65 : decode cX8_countOf 65 = .ok (.getfield 7, 3) := by decide +kernel
theorem dX8_countOf_68 : decode cX8_countOf 68 = .ok (.bipush 25, 2) := by decide +kernel
theorem dX8_countOf_70 : decode cX8_countOf 70 = .ok (.iaload, 1) := by decide +kernel
theorem dX8_countOf_71 : decode cX8_countOf 71 = .ok (.ireturn, 1) := by decide +kernel
theorem dX8_countOf_72 : decode cX8_countOf 72 = .ok (.aload_n 0, 1) := by decide +kernel
theorem dX8_countOf_73 : decode cX8_countOf 73 = .ok (.getfield 7, 3) := by decide +kernel
theorem dX8_countOf_76 : decode cX8_countOf 76 = .ok (.bipush 11, 2) := by decide +kernel
theorem dX8_countOf_78 : decode cX8_countOf 78 = .ok (.iaload, 1) := by decide +kernel
theorem dX8_countOf_79 : decode cX8_countOf 79 = .ok (.ireturn, 1) := by decide +kernel
theorem dX8_countOf_80 : decode cX8_countOf 80 = .ok (.aload_n 0, 1) := by decide +kernel
theorem dX8_countOf_81 : decode cX8_countOf 81 = .ok (.getfield 7, 3) := by decide +kernel
theorem dX8_countOf_84 : decode cX8_countOf 84 = .ok (.bipush 10, 2) := by decide +kernel
theorem dX8_countOf_86 : decode cX8_countOf 86 = .ok (.iaload, 1) := by decide +kernel
theorem dX8_countOf_87 : decode cX8_countOf 87 = .ok (.ireturn, 1) := by decide +kernel
theorem dX8_countOf_88 : decode cX8_countOf 88 = .ok (.aload_n 0, 1) := by decide +kernel
theorem dX8_countOf_89 : decode cX8_countOf 89 = .ok (.invokevirtual 230, 3) := by decide +kernel
theorem dX8_countOf_92 : decode cX8_countOf 92 = .ok (.ireturn, 1) := by decide +kernel
theorem dX8_countOf_93 : decode cX8_countOf 93 = .ok (.aload_n 0, 1) := by decide +kernel
theorem dX8_countOf_94 : decode cX8_countOf 94 = .ok (.iconst 0, 1) := by decide +kernel
theorem dX8_countOf_95 : decode cX8_countOf 95 = .ok (.invokevirtual 166, 3) := by decide +kernel
theorem dX8_countOf_98 : decode cX8_countOf 98 = .ok (.ireturn, 1) := by decide +kernel
theorem dX8_countOf_99 : decode cX8_countOf 99 = .ok (.aload_n 0, 1) := by decide +kernel
theorem dX8_countOf_100 : decode cX8_countOf 100 = .ok (.getfield 7, 3) := by decide +kernel
theorem dX8_countOf_103 : decode cX8_countOf 103 = .ok (.bipush 34, 2) := by decide +kernel
theorem dX8_countOf_105 : decode cX8_countOf 105 = .ok (.iaload, 1) := by decide +kernel
theorem dX8_countOf_106 : decode cX8_countOf 106 = .ok (.ireturn, 1) := by decide +kernel
theorem dX8_countOf_107 : decode cX8_countOf 107 = .ok (.aload_n 0, 1) := by decide +kernel
theorem dX8_countOf_108 : decode cX8_countOf 108 = .ok (.getfield 7, 3) := by decide +kernel
theorem dX8_countOf_111 : decode cX8_countOf 111 = .ok (.bipush 55, 2) := by decide +kernel
theorem dX8_countOf_113 : decode cX8_countOf 113 = .ok (.iaload, 1) := by decide +kernel
theorem dX8_countOf_114 : decode cX8_countOf 114 = .ok (.ireturn, 1) := by decide +kernel
theorem dX8_countOf_115 : decode cX8_countOf 115 = .ok (.aload_n 0, 1) := by decide +kernel
theorem dX8_countOf_116 : decode cX8_countOf 116 = .ok (.getfield 7, 3) := by decide +kernel
theorem dX8_countOf_119 : decode cX8_countOf 119 = .ok (.bipush 80, 2) := by decide +kernel
theorem dX8_countOf_121 : decode cX8_countOf 121 = .ok (.iaload, 1) := by decide +kernel
theorem dX8_countOf_122 : decode cX8_countOf 122 = .ok (.ireturn, 1) := by decide +kernel
theorem dX8_countOf_123 : decode cX8_countOf 123 = .ok (.aload_n 0, 1) := by decide +kernel
theorem dX8_countOf_124 : decode cX8_countOf 124 = .ok (.getfield 7, 3) := by decide +kernel
theorem dX8_countOf_127 : decode cX8_countOf 127 = .ok (.bipush 111, 2) := by decide +kernel
theorem dX8_countOf_129 : decode cX8_countOf 129 = .ok (.iaload, 1) := by decide +kernel
theorem dX8_countOf_130 : decode cX8_countOf 130 = .ok (.ireturn, 1) := by decide +kernel
theorem dX8_countOf_131 : decode cX8_countOf 131 = .ok (.aload_n 0, 1) := by decide +kernel
theorem dX8_countOf_132 : decode cX8_countOf 132 = .ok (.getfield 64, 3) := by decide +kernel
theorem dX8_countOf_135 : decode cX8_countOf 135 = .ok (.ireturn, 1) := by decide +kernel
theorem dX8_count_0 : decode cX8_count 0 = .ok (.iload_n 1, 1) := by decide +kernel
theorem dX8_count_1 : decode cX8_count 1 = .ok (.iconst 0, 1) := by decide +kernel
theorem dX8_count_2 : decode cX8_count 2 = .ok (.bipush 10, 2) := by decide +kernel
theorem dX8_count_4 : decode cX8_count 4 = .ok (.invokestatic 49, 3) := by decide +kernel
theorem dX8_count_7 : decode cX8_count 7 = .ok (.ifCond .eq 11, 3) := by decide +kernel
theorem dX8_count_10 : decode cX8_count 10 = .ok (.aload_n 0, 1) := by decide +kernel
theorem dX8_count_11 : decode cX8_count 11 = .ok (.iload_n 1, 1) := by decide +kernel
theorem dX8_count_12 : decode cX8_count 12 = .ok (.invokevirtual 233, 3) := by decide +kernel
theorem dX8_count_15 : decode cX8_count 15 = .ok (.goto 9, 3) := by decide +kernel
theorem dX8_count_18 : decode cX8_count 18 = .ok (.aload_n 0, 1) := by decide +kernel
theorem dX8_count_19 : decode cX8_count 19 = .ok (.bipush (-2), 2) := by decide +kernel
theorem dX8_count_21 : decode cX8_count 21 = .ok (.invokevirtual 45, 3) := by decide +kernel
theorem dX8_count_24 : decode cX8_count 24 = .ok (.ireturn, 1) := by decide +kernel
theorem dX8_join_0 : decode cX8_join 0 = .ok (.lload_n 1, 1) := by decide +kernel
theorem dX8_join_1 : decode cX8_join 1 = .ok (.lstore 5, 2) := by decide +kernel
theorem dX8_join_3 : decode cX8_join 3 = .ok (.iload_n 3, 1) := by decide +kernel
theorem dX8_join_4 : decode cX8_join 4 = .ok (.istore 7, 2) := by decide +kernel
theorem dX8_join_6 : decode cX8_join 6 = .ok (.iload 7, 2) := by decide +kernel
theorem dX8_join_8 : decode cX8_join 8 = .ok (.iload_n 3, 1) := by decide +kernel
theorem dX8_join_9 : decode cX8_join 9 = .ok (.iload 4, 2) := by decide +kernel
theorem dX8_join_11 : decode cX8_join 11 = .ok (.iadd, 1) := by decide +kernel
theorem dX8_join_12 : decode cX8_join 12 = .ok (.if_icmp .ge 26, 3) := by decide +kernel
theorem dX8_join_15 : decode cX8_join 15 = .ok (.ldc2_w 236, 3) := by decide +kernel
theorem dX8_join_18 : decode cX8_join 18 = .ok (.lload 5, 2) := by decide +kernel
theorem dX8_join_20 : decode cX8_join 20 = .ok (.lmul, 1) := by decide +kernel
theorem dX8_join_21 : decode cX8_join 21 = .ok (.aload_n 0, 1) := by decide +kernel
theorem dX8_join_22 : decode cX8_join 22 = .ok (.getfield 7, 3) := by decide +kernel
theorem dX8_join_25 : decode cX8_join 25 = .ok (.iload 7, 2) := by decide +kernel
theorem dX8_join_27 : decode cX8_join 27 = .ok (.iaload, 1) := by decide +kernel
theorem dX8_join_28 : decode cX8_join 28 = .ok (.i2l, 1) := by decide +kernel
theorem dX8_join_29 : decode cX8_join 29 = .ok (.ladd, 1) := by decide +kernel
theorem dX8_join_30 : decode cX8_join 30 = .ok (.lstore 5, 2) := by decide +kernel
theorem dX8_join_32 : decode cX8_join 32 = .ok (.iinc 7 1, 3) := by decide +kernel
theorem dX8_join_35 : decode cX8_join 35 = .ok (.goto (-29), 3) := by decide +kernel
theorem dX8_join_38 : decode cX8_join 38 = .ok (.lload 5, 2) := by decide +kernel
theorem dX8_join_40 : decode cX8_join 40 = .ok (.lreturn, 1) := by decide +kernel
theorem dX8_digest_0 : decode cX8_digest 0 = .ok (.ldc2_w 238, 3) := by decide +kernel
theorem dX8_digest_3 : decode cX8_digest 3 = .ok (.lstore_n 1, 1) := by decide +kernel
theorem dX8_digest_4 : decode cX8_digest 4 = .ok (.iconst 0, 1) := by decide +kernel
theorem dX8_digest_5 : decode cX8_digest 5 = .ok (.istore_n 3, 1) := by decide +kernel
theorem dX8_digest_6 : decode cX8_digest 6 = .ok (.iload_n 3, 1) := by decide +kernel
theorem dX8_digest_7 : decode cX8_digest 7 = .ok (.bipush 11, 2) := by decide +kernel
theorem dX8_digest_9 : decode cX8_digest 9 = .ok (.if_icmp .ge 22, 3) := by decide +kernel
theorem dX8_digest_12 : decode cX8_digest 12 = .ok (.ldc2_w 236, 3) := by decide +kernel
theorem dX8_digest_15 : decode cX8_digest 15 = .ok (.lload_n 1, 1) := by decide +kernel
theorem dX8_digest_16 : decode cX8_digest 16 = .ok (.lmul, 1) := by decide +kernel
theorem dX8_digest_17 : decode cX8_digest 17 = .ok (.aload_n 0, 1) := by decide +kernel
theorem dX8_digest_18 : decode cX8_digest 18 = .ok (.iload_n 3, 1) := by decide +kernel
theorem dX8_digest_19 : decode cX8_digest 19 = .ok (.invokevirtual 233, 3) := by decide +kernel
theorem dX8_digest_22 : decode cX8_digest 22 = .ok (.i2l, 1) := by decide +kernel
theorem dX8_digest_23 : decode cX8_digest 23 = .ok (.ladd, 1) := by decide +kernel
theorem dX8_digest_24 : decode cX8_digest 24 = .ok (.lstore_n 1, 1) := by decide +kernel
theorem dX8_digest_25 : decode cX8_digest 25 = .ok (.iinc 3 1, 3) := by decide +kernel
theorem dX8_digest_28 : decode cX8_digest 28 = .ok (.goto (-22), 3) := by decide +kernel
theorem dX8_digest_31 : decode cX8_digest 31 = .ok (.iconst 0, 1) := by decide +kernel
theorem dX8_digest_32 : decode cX8_digest 32 = .ok (.istore_n 3, 1) := by decide +kernel
theorem dX8_digest_33 : decode cX8_digest 33 = .ok (.iload_n 3, 1) := by decide +kernel
theorem dX8_digest_34 : decode cX8_digest 34 = .ok (.aload_n 0, 1) := by decide +kernel
theorem dX8_digest_35 : decode cX8_digest 35 = .ok (.getfield 7, 3) := by decide +kernel
theorem dX8_digest_38 : decode cX8_digest 38 = .ok (.bipush 12, 2) := by decide +kernel
theorem dX8_digest_40 : decode cX8_digest 40 = .ok (.iaload, 1) := by decide +kernel
theorem dX8_digest_41 : decode cX8_digest 41 = .ok (.if_icmp .ge 55, 3) := by decide +kernel
theorem dX8_digest_44 : decode cX8_digest 44 = .ok (.ldc2_w 236, 3) := by decide +kernel
theorem dX8_digest_47 : decode cX8_digest 47 = .ok (.ldc2_w 236, 3) := by decide +kernel
theorem dX8_digest_50 : decode cX8_digest 50 = .ok (.ldc2_w 236, 3) := by decide +kernel
theorem dX8_digest_53 : decode cX8_digest 53 = .ok (.lload_n 1, 1) := by decide +kernel
theorem dX8_digest_54 : decode cX8_digest 54 = .ok (.lmul, 1) := by decide +kernel
theorem dX8_digest_55 : decode cX8_digest 55 = .ok (.aload_n 0, 1) := by decide +kernel
theorem dX8_digest_56 : decode cX8_digest 56 = .ok (.getfield 7, 3) := by decide +kernel
theorem dX8_digest_59 : decode cX8_digest 59 = .ok (.bipush 13, 2) := by decide +kernel
theorem dX8_digest_61 : decode cX8_digest 61 = .ok (.iload_n 3, 1) := by decide +kernel
theorem dX8_digest_62 : decode cX8_digest 62 = .ok (.iadd, 1) := by decide +kernel
theorem dX8_digest_63 : decode cX8_digest 63 = .ok (.iaload, 1) := by decide +kernel
theorem dX8_digest_64 : decode cX8_digest 64 = .ok (.i2l, 1) := by decide +kernel
theorem dX8_digest_65 : decode cX8_digest 65 = .ok (.ladd, 1) := by decide +kernel
theorem dX8_digest_66 : decode cX8_digest 66 = .ok (.lmul, 1) := by decide +kernel
theorem dX8_digest_67 : decode cX8_digest 67 = .ok (.aload_n 0, 1) := by decide +kernel
theorem dX8_digest_68 : decode cX8_digest 68 = .ok (.getfield 7, 3) := by decide +kernel
theorem dX8_digest_71 : decode cX8_digest 71 = .ok (.bipush 19, 2) := by decide +kernel
theorem dX8_digest_73 : decode cX8_digest 73 = .ok (.iload_n 3, 1) := by decide +kernel
theorem dX8_digest_74 : decode cX8_digest 74 = .ok (.iadd, 1) := by decide +kernel
theorem dX8_digest_75 : decode cX8_digest 75 = .ok (.iaload, 1) := by decide +kernel
theorem dX8_digest_76 : decode cX8_digest 76 = .ok (.i2l, 1) := by decide +kernel
theorem dX8_digest_77 : decode cX8_digest 77 = .ok (.ladd, 1) := by decide +kernel
theorem dX8_digest_78 : decode cX8_digest 78 = .ok (.lmul, 1) := by decide +kernel
theorem dX8_digest_79 : decode cX8_digest 79 = .ok (.aload_n 0, 1) := by decide +kernel
theorem dX8_digest_80 : decode cX8_digest 80 = .ok (.getfield 7, 3) := by decide +kernel
theorem dX8_digest_83 : decode cX8_digest 83 = .ok (.iconst 0, 1) := by decide +kernel
theorem dX8_digest_84 : decode cX8_digest 84 = .ok (.iload_n 3, 1) := by decide +kernel
theorem dX8_digest_85 : decode cX8_digest 85 = .ok (.iadd, 1) := by decide +kernel
theorem dX8_digest_86 : decode cX8_digest 86 = .ok (.iaload, 1) := by decide +kernel
theorem dX8_digest_87 : decode cX8_digest 87 = .ok (.i2l, 1) := by decide +kernel
theorem dX8_digest_88 : decode cX8_digest 88 = .ok (.ladd, 1) := by decide +kernel
theorem dX8_digest_89 : decode cX8_digest 89 = .ok (.lstore_n 1, 1) := by decide +kernel
theorem dX8_digest_90 : decode cX8_digest 90 = .ok (.iinc 3 1, 3) := by decide +kernel
theorem dX8_digest_93 : decode cX8_digest 93 = .ok (.goto (-60), 3) := by decide +kernel
theorem dX8_digest_96 : decode cX8_digest 96 = .ok (.iconst 0, 1) := by decide +kernel
theorem dX8_digest_97 : decode cX8_digest 97 = .ok (.istore_n 3, 1) := by decide +kernel
theorem dX8_digest_98 : decode cX8_digest 98 = .ok (.iload_n 3, 1) := by decide +kernel
theorem dX8_digest_99 : decode cX8_digest 99 = .ok (.aload_n 0, 1) := by decide +kernel
theorem dX8_digest_100 : decode cX8_digest 100 = .ok (.getfield 7, 3) := by decide +kernel
theorem dX8_digest_103 : decode cX8_digest 103 = .ok (.bipush 25, 2) := by decide +kernel
theorem dX8_digest_105 : decode cX8_digest 105 = .ok (.iaload, 1) := by decide +kernel
theorem dX8_digest_106 : decode cX8_digest 106 = .ok (.if_icmp .ge 56, 3) := by decide +kernel
theorem dX8_digest_109 : decode cX8_digest 109 = .ok (.ldc2_w 236, 3) := by decide +kernel
theorem dX8_digest_112 : decode cX8_digest 112 = .ok (.ldc2_w 236, 3) := by decide +kernel
theorem dX8_digest_115 : decode cX8_digest 115 = .ok (.ldc2_w 236, 3) := by decide +kernel
theorem dX8_digest_118 : decode cX8_digest 118 = .ok (.lload_n 1, 1) := by decide +kernel
theorem dX8_digest_119 : decode cX8_digest 119 = .ok (.lmul, 1) := by decide +kernel
theorem dX8_digest_120 : decode cX8_digest 120 = .ok (.aload_n 0, 1) := by decide +kernel
theorem dX8_digest_121 : decode cX8_digest 121 = .ok (.getfield 7, 3) := by decide +kernel
theorem dX8_digest_124 : decode cX8_digest 124 = .ok (.bipush 26, 2) := by decide +kernel
theorem dX8_digest_126 : decode cX8_digest 126 = .ok (.iload_n 3, 1) := by decide +kernel
theorem dX8_digest_127 : decode cX8_digest 127 = .ok (.iadd, 1) := by decide +kernel
theorem dX8_digest_128 : decode cX8_digest 128 = .ok (.iaload, 1) := by decide +kernel
theorem dX8_digest_129 : decode cX8_digest 129 = .ok (.i2l, 1) := by decide +kernel
theorem dX8_digest_130 : decode cX8_digest 130 = .ok (.ladd, 1) := by decide +kernel
theorem dX8_digest_131 : decode cX8_digest 131 = .ok (.lmul, 1) := by decide +kernel
theorem dX8_digest_132 : decode cX8_digest 132 = .ok (.aload_n 0, 1) := by decide +kernel
theorem dX8_digest_133 : decode cX8_digest 133 = .ok (.getfield 7, 3) := by decide +kernel
theorem dX8_digest_136 : decode cX8_digest 136 = .ok (.bipush 30, 2) := by decide +kernel
theorem dX8_digest_138 : decode cX8_digest 138 = .ok (.iload_n 3, 1) := by decide +kernel
theorem dX8_digest_139 : decode cX8_digest 139 = .ok (.iadd, 1) := by decide +kernel
theorem dX8_digest_140 : decode cX8_digest 140 = .ok (.iaload, 1) := by decide +kernel
theorem dX8_digest_141 : decode cX8_digest 141 = .ok (.i2l, 1) := by decide +kernel
theorem dX8_digest_142 : decode cX8_digest 142 = .ok (.ladd, 1) := by decide +kernel
theorem dX8_digest_143 : decode cX8_digest 143 = .ok (.lmul, 1) := by decide +kernel
theorem dX8_digest_144 : decode cX8_digest 144 = .ok (.aload_n 0, 1) := by decide +kernel
theorem dX8_digest_145 : decode cX8_digest 145 = .ok (.getfield 7, 3) := by decide +kernel
theorem dX8_digest_148 : decode cX8_digest 148 = .ok (.bipush 6, 2) := by decide +kernel
theorem dX8_digest_150 : decode cX8_digest 150 = .ok (.iload_n 3, 1) := by decide +kernel
theorem dX8_digest_151 : decode cX8_digest 151 = .ok (.iadd, 1) := by decide +kernel
theorem dX8_digest_152 : decode cX8_digest 152 = .ok (.iaload, 1) := by decide +kernel
theorem dX8_digest_153 : decode cX8_digest 153 = .ok (.i2l, 1) := by decide +kernel
theorem dX8_digest_154 : decode cX8_digest 154 = .ok (.ladd, 1) := by decide +kernel
theorem dX8_digest_155 : decode cX8_digest 155 = .ok (.lstore_n 1, 1) := by decide +kernel
theorem dX8_digest_156 : decode cX8_digest 156 = .ok (.iinc 3 1, 3) := by decide +kernel
theorem dX8_digest_159 : decode cX8_digest 159 = .ok (.goto (-61), 3) := by decide +kernel
theorem dX8_digest_162 : decode cX8_digest 162 = .ok (.aload_n 0, 1) := by decide +kernel
theorem dX8_digest_163 : decode cX8_digest 163 = .ok (.lload_n 1, 1) := by decide +kernel
theorem dX8_digest_164 : decode cX8_digest 164 = .ok (.bipush 35, 2) := by decide +kernel
theorem dX8_digest_166 : decode cX8_digest 166 = .ok (.iconst 4, 1) := by decide +kernel
theorem dX8_digest_167 : decode cX8_digest 167 = .ok (.aload_n 0, 1) := by decide +kernel
theorem dX8_digest_168 : decode cX8_digest 168 = .ok (.getfield 7, 3) := by decide +kernel
theorem dX8_digest_171 : decode cX8_digest 171 = .ok (.bipush 34, 2) := by decide +kernel
theorem dX8_digest_173 : decode cX8_digest 173 = .ok (.iaload, 1) := by decide +kernel
theorem dX8_digest_174 : decode cX8_digest 174 = .ok (.imul, 1) := by decide +kernel
theorem dX8_digest_175 : decode cX8_digest 175 = .ok (.invokevirtual 240, 3) := by decide +kernel
theorem dX8_digest_178 : decode cX8_digest 178 = .ok (.lstore_n 1, 1) := by decide +kernel
theorem dX8_digest_179 : decode cX8_digest 179 = .ok (.aload_n 0, 1) := by decide +kernel
theorem dX8_digest_180 : decode cX8_digest 180 = .ok (.lload_n 1, 1) := by decide +kernel
theorem dX8_digest_181 : decode cX8_digest 181 = .ok (.bipush 56, 2) := by decide +kernel
theorem dX8_digest_183 : decode cX8_digest 183 = .ok (.iconst 4, 1) := by decide +kernel
theorem dX8_digest_184 : decode cX8_digest 184 = .ok (.aload_n 0, 1) := by decide +kernel
theorem dX8_digest_185 : decode cX8_digest 185 = .ok (.getfield 7, 3) := by decide +kernel
theorem dX8_digest_188 : decode cX8_digest 188 = .ok (.bipush 55, 2) := by decide +kernel
theorem dX8_digest_190 : decode cX8_digest 190 = .ok (.iaload, 1) := by decide +kernel
theorem dX8_digest_191 : decode cX8_digest 191 = .ok (.imul, 1) := by decide +kernel
theorem dX8_digest_192 : decode cX8_digest 192 = .ok (.invokevirtual 240, 3) := by decide +kernel
theorem dX8_digest_195 : decode cX8_digest 195 = .ok (.lstore_n 1, 1) := by decide +kernel
theorem dX8_digest_196 : decode cX8_digest 196 = .ok (.aload_n 0, 1) := by decide +kernel
theorem dX8_digest_197 : decode cX8_digest 197 = .ok (.lload_n 1, 1) := by decide +kernel
theorem dX8_digest_198 : decode cX8_digest 198 = .ok (.bipush 81, 2) := by decide +kernel
theorem dX8_digest_200 : decode cX8_digest 200 = .ok (.iconst 5, 1) := by decide +kernel
theorem dX8_digest_201 : decode cX8_digest 201 = .ok (.aload_n 0, 1) := by decide +kernel
theorem dX8_digest_202 : decode cX8_digest 202 = .ok (.getfield 7, 3) := by decide +kernel
theorem dX8_digest_205 : decode cX8_digest 205 = .ok (.bipush 80, 2) := by decide +kernel
theorem dX8_digest_207 : decode cX8_digest 207 = .ok (.iaload, 1) := by decide +kernel
theorem dX8_digest_208 : decode cX8_digest 208 = .ok (.imul, 1) := by decide +kernel
theorem dX8_digest_209 : decode cX8_digest 209 = .ok (.invokevirtual 240, 3) := by decide +kernel
theorem dX8_digest_212 : decode cX8_digest 212 = .ok (.lstore_n 1, 1) := by decide +kernel
theorem dX8_digest_213 : decode cX8_digest 213 = .ok (.ldc2_w 236, 3) := by decide +kernel
theorem dX8_digest_216 : decode cX8_digest 216 = .ok (.ldc2_w 236, 3) := by decide +kernel
theorem dX8_digest_219 : decode cX8_digest 219 = .ok (.lload_n 1, 1) := by decide +kernel
theorem dX8_digest_220 : decode cX8_digest 220 = .ok (.lmul, 1) := by decide +kernel
theorem dX8_digest_221 : decode cX8_digest 221 = .ok (.aload_n 0, 1) := by decide +kernel
theorem dX8_digest_222 : decode cX8_digest 222 = .ok (.getfield 206, 3) := by decide +kernel
theorem dX8_digest_225 : decode cX8_digest 225 = .ok (.ladd, 1) := by decide +kernel
theorem dX8_digest_226 : decode cX8_digest 226 = .ok (.lmul, 1) := by decide +kernel
theorem dX8_digest_227 : decode cX8_digest 227 = .ok (.aload_n 0, 1) := by decide +kernel
theorem dX8_digest_228 : decode cX8_digest 228 = .ok (.getfield 20, 3) := by decide +kernel
theorem dX8_digest_231 : decode cX8_digest 231 = .ok (.ladd, 1) := by decide +kernel
theorem dX8_digest_232 : decode cX8_digest 232 = .ok (.lreturn, 1) := by decide +kernel
theorem dJ6_bitCount_0f7a4_0 : decode cJ6_bitCount_0f7a4 0 = .ok (.iload_n 0, 1) := by decide +kernel
theorem dJ6_bitCount_0f7a4_1 : decode cJ6_bitCount_0f7a4 1 = .ok (.iload_n 0, 1) := by decide +kernel
theorem dJ6_bitCount_0f7a4_2 : decode cJ6_bitCount_0f7a4 2 = .ok (.iconst 1, 1) := by decide +kernel
theorem dJ6_bitCount_0f7a4_3 : decode cJ6_bitCount_0f7a4 3 = .ok (.iushr, 1) := by decide +kernel
theorem dJ6_bitCount_0f7a4_4 : decode cJ6_bitCount_0f7a4 4 = .ok (.ldc_w 265, 3) := by decide +kernel
theorem dJ6_bitCount_0f7a4_7 : decode cJ6_bitCount_0f7a4 7 = .ok (.iand, 1) := by decide +kernel
theorem dJ6_bitCount_0f7a4_8 : decode cJ6_bitCount_0f7a4 8 = .ok (.isub, 1) := by decide +kernel
theorem dJ6_bitCount_0f7a4_9 : decode cJ6_bitCount_0f7a4 9 = .ok (.istore_n 0, 1) := by decide +kernel
theorem dJ6_bitCount_0f7a4_10 : decode cJ6_bitCount_0f7a4 10 = .ok (.iload_n 0, 1) := by decide +kernel
theorem dJ6_bitCount_0f7a4_11 : decode cJ6_bitCount_0f7a4 11 = .ok (.ldc_w 266, 3) := by decide +kernel
theorem dJ6_bitCount_0f7a4_14 : decode cJ6_bitCount_0f7a4 14 = .ok (.iand, 1) := by decide +kernel
theorem dJ6_bitCount_0f7a4_15 : decode cJ6_bitCount_0f7a4 15 = .ok (.iload_n 0, 1) := by decide +kernel
theorem dJ6_bitCount_0f7a4_16 : decode cJ6_bitCount_0f7a4 16 = .ok (.iconst 2, 1) := by decide +kernel
theorem dJ6_bitCount_0f7a4_17 : decode cJ6_bitCount_0f7a4 17 = .ok (.iushr, 1) := by decide +kernel
theorem dJ6_bitCount_0f7a4_18 : decode cJ6_bitCount_0f7a4 18 = .ok (.ldc_w 266, 3) := by decide +kernel
theorem dJ6_bitCount_0f7a4_21 : decode cJ6_bitCount_0f7a4 21 = .ok (.iand, 1) := by decide +kernel
theorem dJ6_bitCount_0f7a4_22 : decode cJ6_bitCount_0f7a4 22 = .ok (.iadd, 1) := by decide +kernel
theorem dJ6_bitCount_0f7a4_23 : decode cJ6_bitCount_0f7a4 23 = .ok (.istore_n 0, 1) := by decide +kernel
theorem dJ6_bitCount_0f7a4_24 : decode cJ6_bitCount_0f7a4 24 = .ok (.iload_n 0, 1) := by decide +kernel
theorem dJ6_bitCount_0f7a4_25 : decode cJ6_bitCount_0f7a4 25 = .ok (.iload_n 0, 1) := by decide +kernel
theorem dJ6_bitCount_0f7a4_26 : decode cJ6_bitCount_0f7a4 26 = .ok (.iconst 4, 1) := by decide +kernel
theorem dJ6_bitCount_0f7a4_27 : decode cJ6_bitCount_0f7a4 27 = .ok (.iushr, 1) := by decide +kernel
theorem dJ6_bitCount_0f7a4_28 : decode cJ6_bitCount_0f7a4 28 = .ok (.iadd, 1) := by decide +kernel
theorem dJ6_bitCount_0f7a4_29 : decode cJ6_bitCount_0f7a4 29 = .ok (.ldc_w 267, 3) := by decide +kernel
theorem dJ6_bitCount_0f7a4_32 : decode cJ6_bitCount_0f7a4 32 = .ok (.iand, 1) := by decide +kernel
theorem dJ6_bitCount_0f7a4_33 : decode cJ6_bitCount_0f7a4 33 = .ok (.istore_n 0, 1) := by decide +kernel
theorem dJ6_bitCount_0f7a4_34 : decode cJ6_bitCount_0f7a4 34 = .ok (.iload_n 0, 1) := by decide +kernel
theorem dJ6_bitCount_0f7a4_35 : decode cJ6_bitCount_0f7a4 35 = .ok (.iload_n 0, 1) := by decide +kernel
theorem dJ6_bitCount_0f7a4_36 : decode cJ6_bitCount_0f7a4 36 = .ok (.bipush 8, 2) := by decide +kernel
theorem dJ6_bitCount_0f7a4_38 : decode cJ6_bitCount_0f7a4 38 = .ok (.iushr, 1) := by decide +kernel
theorem dJ6_bitCount_0f7a4_39 : decode cJ6_bitCount_0f7a4 39 = .ok (.iadd, 1) := by decide +kernel
theorem dJ6_bitCount_0f7a4_40 : decode cJ6_bitCount_0f7a4 40 = .ok (.istore_n 0, 1) := by decide +kernel
theorem dJ6_bitCount_0f7a4_41 : decode cJ6_bitCount_0f7a4 41 = .ok (.iload_n 0, 1) := by decide +kernel
theorem dJ6_bitCount_0f7a4_42 : decode cJ6_bitCount_0f7a4 42 = .ok (.iload_n 0, 1) := by decide +kernel
theorem dJ6_bitCount_0f7a4_43 : decode cJ6_bitCount_0f7a4 43 = .ok (.bipush 16, 2) := by decide +kernel
theorem dJ6_bitCount_0f7a4_45 : decode cJ6_bitCount_0f7a4 45 = .ok (.iushr, 1) := by decide +kernel
theorem dJ6_bitCount_0f7a4_46 : decode cJ6_bitCount_0f7a4 46 = .ok (.iadd, 1) := by decide +kernel
theorem dJ6_bitCount_0f7a4_47 : decode cJ6_bitCount_0f7a4 47 = .ok (.istore_n 0, 1) := by decide +kernel
theorem dJ6_bitCount_0f7a4_48 : decode cJ6_bitCount_0f7a4 48 = .ok (.iload_n 0, 1) := by decide +kernel
theorem dJ6_bitCount_0f7a4_49 : decode cJ6_bitCount_0f7a4 49 = .ok (.bipush 63, 2) := by decide +kernel
theorem dJ6_bitCount_0f7a4_51 : decode cJ6_bitCount_0f7a4 51 = .ok (.iand, 1) := by decide +kernel
theorem dJ6_bitCount_0f7a4_52 : decode cJ6_bitCount_0f7a4 52 = .ok (.ireturn, 1) := by decide +kernel
theorem dJ9_max_7cf53_0 : decode cJ9_max_7cf53 0 = .ok (.iload_n 0, 1) := by decide +kernel
theorem dJ9_max_7cf53_1 : decode cJ9_max_7cf53 1 = .ok (.iload_n 1, 1) := by decide +kernel
theorem dJ9_max_7cf53_2 : decode cJ9_max_7cf53 2 = .ok (.if_icmp .lt 7, 3) := by decide +kernel
theorem dJ9_max_7cf53_5 : decode cJ9_max_7cf53 5 = .ok (.iload_n 0, 1) := by decide +kernel
theorem dJ9_max_7cf53_6 : decode cJ9_max_7cf53 6 = .ok (.goto 4, 3) := by decide +kernel
theorem dJ9_max_7cf53_9 : decode cJ9_max_7cf53 9 = .ok (.iload_n 1, 1) := by decide +kernel
theorem dJ9_max_7cf53_10 : decode cJ9_max_7cf53 10 = .ok (.ireturn, 1) := by decide +kernel
theorem dJ9_min_7cf53_0 : decode cJ9_min_7cf53 0 = .ok (.iload_n 0, 1) := by decide +kernel
theorem dJ9_min_7cf53_1 : decode cJ9_min_7cf53 1 = .ok (.iload_n 1, 1) := by decide +kernel
theorem dJ9_min_7cf53_2 : decode cJ9_min_7cf53 2 = .ok (.if_icmp .gt 7, 3) := by decide +kernel
theorem dJ9_min_7cf53_5 : decode cJ9_min_7cf53 5 = .ok (.iload_n 0, 1) := by decide +kernel
theorem dJ9_min_7cf53_6 : decode cJ9_min_7cf53 6 = .ok (.goto 4, 3) := by decide +kernel
theorem dJ9_min_7cf53_9 : decode cJ9_min_7cf53 9 = .ok (.iload_n 1, 1) := by decide +kernel
theorem dJ9_min_7cf53_10 : decode cJ9_min_7cf53 10 = .ok (.ireturn, 1) := by decide +kernel
theorem dJ0_length_8abf5_0 : decode cJ0_length_8abf5 0 = .ok (.aload_n 0, 1) := by decide +kernel
theorem dJ0_length_8abf5_1 : decode cJ0_length_8abf5 1 = .ok (.getfield 9, 3) := by decide +kernel
theorem dJ0_length_8abf5_4 : decode cJ0_length_8abf5 4 = .ok (.arraylength, 1) := by decide +kernel
theorem dJ0_length_8abf5_5 : decode cJ0_length_8abf5 5 = .ok (.aload_n 0, 1) := by decide +kernel
theorem dJ0_length_8abf5_6 : decode cJ0_length_8abf5 6 = .ok (.invokevirtual 335, 3) := by decide +kernel
theorem dJ0_length_8abf5_9 : decode cJ0_length_8abf5 9 = .ok (.ishr, 1) := by decide +kernel
theorem dJ0_length_8abf5_10 : decode cJ0_length_8abf5 10 = .ok (.ireturn, 1) := by decide +kernel
theorem dJ0_charAt_5068e_0 : decode cJ0_charAt_5068e 0 = .ok (.aload_n 0, 1) := by decide +kernel
theorem dJ0_charAt_5068e_1 : decode cJ0_charAt_5068e 1 = .ok (.invokevirtual 492, 3) := by decide +kernel
theorem dJ0_charAt_5068e_4 : decode cJ0_charAt_5068e 4 = .ok (.ifCond .eq 12, 3) := by decide +kernel
theorem dJ0_charAt_5068e_7 : decode cJ0_charAt_5068e 7 = .ok (.aload_n 0, 1) := by decide +kernel
theorem dJ0_charAt_5068e_8 : decode cJ0_charAt_5068e 8 = .ok (.getfield 9, 3) := by decide +kernel
theorem dJ0_charAt_5068e_11 : decode cJ0_charAt_5068e 11 = .ok (.iload_n 1, 1) := by decide +kernel
theorem dJ0_charAt_5068e_12 : decode cJ0_charAt_5068e 12 = .ok (.invokestatic 495, 3) := by decide +kernel
theorem dJ0_charAt_5068e_15 : decode cJ0_charAt_5068e 15 = .ok (.ireturn, 1) := by decide +kernel
theorem dJ0_charAt_5068e_16 : decode cJ0_charAt_5068e 16 = .ok (.aload_n 0, 1) := by decide +kernel
theorem dJ0_charAt_5068e_17 : decode cJ0_charAt_5068e 17 = .ok (.getfield 9, 3) := by decide +kernel
theorem dJ0_charAt_5068e_20 : decode cJ0_charAt_5068e 20 = .ok (.iload_n 1, 1) := by decide +kernel
theorem dJ0_charAt_5068e_21 : decode cJ0_charAt_5068e 21 = .ok (.invokestatic 498, 3) := by decide +kernel
theorem dJ0_charAt_5068e_24 : decode cJ0_charAt_5068e 24 = .ok (.ireturn, 1) := by decide +kernel
theorem dJ0_coder_7d493_0 : decode cJ0_coder_7d493 0 = .ok (.getstatic 38, 3) := by decide +kernel
theorem dJ0_coder_7d493_3 : decode cJ0_coder_7d493 3 = .ok (.ifCond .eq 10, 3) := by decide +kernel
theorem dJ0_coder_7d493_6 : decode cJ0_coder_7d493 6 = .ok (.aload_n 0, 1) := by decide +kernel
theorem dJ0_coder_7d493_7 : decode cJ0_coder_7d493 7 = .ok (.getfield 15, 3) := by decide +kernel
theorem dJ0_coder_7d493_10 : decode cJ0_coder_7d493 10 = .ok (.goto 4, 3) := by decide +kernel
theorem dJ0_coder_7d493_13 : decode cJ0_coder_7d493 13 = .ok (.iconst 1, 1) := by decide +kernel
theorem dJ0_coder_7d493_14 : decode cJ0_coder_7d493 14 = .ok (.ireturn, 1) := by decide +kernel
theorem dJ0_isLatin1_aae02_0 : decode cJ0_isLatin1_aae02 0 = .ok (.getstatic 38, 3) := by decide +kernel
theorem dJ0_isLatin1_aae02_3 : decode cJ0_isLatin1_aae02 3 = .ok (.ifCond .eq 14, 3) := by decide +kernel
theorem dJ0_isLatin1_aae02_6 : decode cJ0_isLatin1_aae02 6 = .ok (.aload_n 0, 1) := by decide +kernel
theorem dJ0_isLatin1_aae02_7 : decode cJ0_isLatin1_aae02 7 = .ok (.getfield 15, 3) := by decide +kernel
theorem dJ0_isLatin1_aae02_10 : decode cJ0_isLatin1_aae02 10 = .ok (.ifCond .ne 7, 3) := by decide +kernel
theorem dJ0_isLatin1_aae02_13 : decode cJ0_isLatin1_aae02 13 = .ok (.iconst 1, 1) := by decide +kernel
theorem dJ0_isLatin1_aae02_14 : decode cJ0_isLatin1_aae02 14 = .ok (.goto 4, 3) := by decide +kernel
theorem dJ0_isLatin1_aae02_17 : decode cJ0_isLatin1_aae02 17 = .ok (.iconst 0, 1) := by decide +kernel
theorem dJ0_isLatin1_aae02_18 : decode cJ0_isLatin1_aae02 18 = .ok (.ireturn, 1) := by decide +kernel
theorem dJ0_checkIndex_df160_0 : decode cJ0_checkIndex_df160 0 = .ok (.iload_n 0, 1) := by decide +kernel
theorem dJ0_checkIndex_df160_1 : decode cJ0_checkIndex_df160 1 = .ok (.iload_n 1, 1) := by decide +kernel
theorem dJ0_checkIndex_df160_2 : decode cJ0_checkIndex_df160 2 = .ok (.getstatic 1053, 3) := by decide +kernel
theorem dJ0_checkIndex_df160_5 : decode cJ0_checkIndex_df160 5 = .ok (.invokestatic 1059, 3) := by decide +kernel
theorem dJ0_checkIndex_df160_8 : decode cJ0_checkIndex_df160 8 = .ok (.pop, 1) := by decide +kernel
theorem dJ0_checkIndex_df160_9 : decode cJ0_checkIndex_df160 9 = .ok (.return_, 1) := by decide +kernel
theorem dJ1_charAt_3b067_0 : decode cJ1_charAt_3b067 0 = .ok (.iload_n 1, 1) := by decide +kernel
theorem dJ1_charAt_3b067_1 : decode cJ1_charAt_3b067 1 = .ok (.aload_n 0, 1) := by decide +kernel
theorem dJ1_charAt_3b067_2 : decode cJ1_charAt_3b067 2 = .ok (.arraylength, 1) := by decide +kernel
theorem dJ1_charAt_3b067_3 : decode cJ1_charAt_3b067 3 = .ok (.invokestatic 9, 3) := by decide +kernel
theorem dJ1_charAt_3b067_6 : decode cJ1_charAt_3b067 6 = .ok (.aload_n 0, 1) := by decide +kernel
theorem dJ1_charAt_3b067_7 : decode cJ1_charAt_3b067 7 = .ok (.iload_n 1, 1) := by decide +kernel
theorem dJ1_charAt_3b067_8 : decode cJ1_charAt_3b067 8 = .ok (.baload, 1) := by decide +kernel
theorem dJ1_charAt_3b067_9 : decode cJ1_charAt_3b067 9 = .ok (.sipush 255, 3) := by decide +kernel
theorem dJ1_charAt_3b067_12 : decode cJ1_charAt_3b067 12 = .ok (.iand, 1) := by decide +kernel
theorem dJ1_charAt_3b067_13 : decode cJ1_charAt_3b067 13 = .ok (.i2c, 1) := by decide +kernel
theorem dJ1_charAt_3b067_14 : decode cJ1_charAt_3b067 14 = .ok (.ireturn, 1) := by decide +kernel
theorem dJ3_checkIndex_8e157_0 : decode cJ3_checkIndex_8e157 0 = .ok (.iload_n 0, 1) := by decide +kernel
theorem dJ3_checkIndex_8e157_1 : decode cJ3_checkIndex_8e157 1 = .ok (.ifCond .lt 8, 3) := by decide +kernel
theorem dJ3_checkIndex_8e157_4 : decode cJ3_checkIndex_8e157 4 = .ok (.iload_n 0, 1) := by decide +kernel
theorem dJ3_checkIndex_8e157_5 : decode cJ3_checkIndex_8e157 5 = .ok (.iload_n 1, 1) := by decide +kernel
theorem dJ3_checkIndex_8e157_6 : decode cJ3_checkIndex_8e157 6 = .ok (.if_icmp .lt 10, 3) := by decide +kernel
theorem dJ3_checkIndex_8e157_9 : decode cJ3_checkIndex_8e157 9 = .ok (.aload_n 2, 1) := by decide +kernel
theorem dJ3_checkIndex_8e157_10 : decode cJ3_checkIndex_8e157 10 = .ok (.iload_n 0, 1) := by decide +kernel
theorem dJ3_checkIndex_8e157_11 : decode cJ3_checkIndex_8e157 11 = .ok (.iload_n 1, 1) := by decide +kernel
theorem dJ3_checkIndex_8e157_12 : decode cJ3_checkIndex_8e157 12 = .ok (.invokestatic 95, 3) := by decide +kernel
theorem dJ3_checkIndex_8e157_15 : decode cJ3_checkIndex_8e157 15 = .ok (.athrow, 1) := by decide +kernel
theorem dJ3_checkIndex_8e157_16 : decode cJ3_checkIndex_8e157 16 = .ok (.iload_n 0, 1) := by decide +kernel
theorem dJ3_checkIndex_8e157_17 : decode cJ3_checkIndex_8e157 17 = .ok (.ireturn, 1) := by decide +kernel
theorem dL_law_0 : decode cL_law 0 = .ok (.new 7, 3) := by decide +kernel
theorem dL_law_3 : decode cL_law 3 = .ok (.dup, 1) := by decide +kernel
theorem dL_law_4 : decode cL_law 4 = .ok (.invokespecial 9, 3) := by decide +kernel
theorem dL_law_7 : decode cL_law 7 = .ok (.astore_n 1, 1) := by decide +kernel
theorem dL_law_8 : decode cL_law 8 = .ok (.new 10, 3) := by decide +kernel
theorem dL_law_11 : decode cL_law 11 = .ok (.dup, 1) := by decide +kernel
theorem dL_law_12 : decode cL_law 12 = .ok (.invokespecial 12, 3) := by decide +kernel
theorem dL_law_15 : decode cL_law 15 = .ok (.astore_n 2, 1) := by decide +kernel
theorem dL_law_16 : decode cL_law 16 = .ok (.iconst 0, 1) := by decide +kernel
theorem dL_law_17 : decode cL_law 17 = .ok (.istore_n 3, 1) := by decide +kernel
theorem dL_law_18 : decode cL_law 18 = .ok (.iload_n 3, 1) := by decide +kernel
theorem dL_law_19 : decode cL_law 19 = .ok (.aload_n 0, 1) := by decide +kernel
theorem dL_law_20 : decode cL_law 20 = .ok (.arraylength, 1) := by decide +kernel
theorem dL_law_21 : decode cL_law 21 = .ok (.bipush 6, 2) := by decide +kernel
theorem dL_law_23 : decode cL_law 23 = .ok (.isub, 1) := by decide +kernel
theorem dL_law_24 : decode cL_law 24 = .ok (.if_icmp .gt 1352, 3) := by decide +kernel
theorem dL_law_27 : decode cL_law 27 = .ok (.aload_n 0, 1) := by decide +kernel
theorem dL_law_28 : decode cL_law 28 = .ok (.iload_n 3, 1) := by decide +kernel
theorem dL_law_29 : decode cL_law 29 = .ok (.iaload, 1) := by decide +kernel
theorem dL_law_30 : decode cL_law 30 = .ok (.bipush 63, 2) := by decide +kernel
theorem dL_law_32 : decode cL_law 32 = .ok (.iand, 1) := by decide +kernel
theorem dL_law_33 : decode cL_law 33 = .ok (.tableswitch 1337 0 39 #[175, 198, 231, 264, 287, 300, 313, 346, 369, 392, 415, 428, 461, 494, 527, 560, 593, 626, 659, 682, 725, 748, 801, 834, 857, 910, 973, 996, 1019, 1042, 1065, 1088, 1141, 1174, 1207, 1231, 1254, 1277, 1300, 1323], 175) := by decide +kernel
theorem dL_law_208 : decode cL_law 208 = .ok (.aload_n 1, 1) := by decide +kernel
theorem dL_law_209 : decode cL_law 209 = .ok (.aload_n 0, 1) := by decide +kernel
theorem dL_law_210 : decode cL_law 210 = .ok (.iload_n 3, 1) := by decide +kernel
theorem dL_law_211 : decode cL_law 211 = .ok (.iconst 1, 1) := by decide +kernel
theorem dL_law_212 : decode cL_law 212 = .ok (.iadd, 1) := by decide +kernel
theorem dL_law_213 : decode cL_law 213 = .ok (.iaload, 1) := by decide +kernel
theorem dL_law_214 : decode cL_law 214 = .ok (.invokevirtual 13, 3) := by decide +kernel
theorem dL_law_217 : decode cL_law 217 = .ok (.aload_n 2, 1) := by decide +kernel
theorem dL_law_218 : decode cL_law 218 = .ok (.aload_n 0, 1) := by decide +kernel
theorem dL_law_219 : decode cL_law 219 = .ok (.iload_n 3, 1) := by decide +kernel
theorem dL_law_220 : decode cL_law 220 = .ok (.iconst 1, 1) := by decide +kernel
theorem dL_law_221 : decode cL_law 221 = .ok (.iadd, 1) := by decide +kernel
theorem dL_law_222 : decode cL_law 222 = .ok (.iaload, 1) := by decide +kernel
theorem dL_law_223 : decode cL_law 223 = .ok (.invokevirtual 17, 3) := by decide +kernel
theorem dL_law_226 : decode cL_law 226 = .ok (.if_icmp .eq 1144, 3) := by decide +kernel
theorem dL_law_229 : decode cL_law 229 = .ok (.iconst 0, 1) := by decide +kernel
theorem dL_law_230 : decode cL_law 230 = .ok (.ireturn, 1) := by decide +kernel
theorem dL_law_231 : decode cL_law 231 = .ok (.aload_n 1, 1) := by decide +kernel
theorem dL_law_232 : decode cL_law 232 = .ok (.aload_n 0, 1) := by decide +kernel
theorem dL_law_233 : decode cL_law 233 = .ok (.iload_n 3, 1) := by decide +kernel
theorem dL_law_234 : decode cL_law 234 = .ok (.iconst 1, 1) := by decide +kernel
theorem dL_law_235 : decode cL_law 235 = .ok (.iadd, 1) := by decide +kernel
theorem dL_law_236 : decode cL_law 236 = .ok (.iaload, 1) := by decide +kernel
theorem dL_law_237 : decode cL_law 237 = .ok (.aload_n 0, 1) := by decide +kernel
theorem dL_law_238 : decode cL_law 238 = .ok (.iload_n 3, 1) := by decide +kernel
theorem dL_law_239 : decode cL_law 239 = .ok (.iconst 2, 1) := by decide +kernel
theorem dL_law_240 : decode cL_law 240 = .ok (.iadd, 1) := by decide +kernel
theorem dL_law_241 : decode cL_law 241 = .ok (.iaload, 1) := by decide +kernel
theorem dL_law_242 : decode cL_law 242 = .ok (.invokevirtual 18, 3) := by decide +kernel
theorem dL_law_245 : decode cL_law 245 = .ok (.aload_n 2, 1) := by decide +kernel
theorem dL_law_246 : decode cL_law 246 = .ok (.aload_n 0, 1) := by decide +kernel
theorem dL_law_247 : decode cL_law 247 = .ok (.iload_n 3, 1) := by decide +kernel
theorem dL_law_248 : decode cL_law 248 = .ok (.iconst 1, 1) := by decide +kernel
theorem dL_law_249 : decode cL_law 249 = .ok (.iadd, 1) := by decide +kernel
theorem dL_law_250 : decode cL_law 250 = .ok (.iaload, 1) := by decide +kernel
theorem dL_law_251 : decode cL_law 251 = .ok (.aload_n 0, 1) := by decide +kernel
theorem dL_law_252 : decode cL_law 252 = .ok (.iload_n 3, 1) := by decide +kernel
theorem dL_law_253 : decode cL_law 253 = .ok (.iconst 2, 1) := by decide +kernel
theorem dL_law_254 : decode cL_law 254 = .ok (.iadd, 1) := by decide +kernel
theorem dL_law_255 : decode cL_law 255 = .ok (.iaload, 1) := by decide +kernel
theorem dL_law_256 : decode cL_law 256 = .ok (.invokevirtual 22, 3) := by decide +kernel
theorem dL_law_259 : decode cL_law 259 = .ok (.if_icmp .eq 1111, 3) := by decide +kernel
theorem dL_law_262 : decode cL_law 262 = .ok (.iconst 0, 1) := by decide +kernel
theorem dL_law_263 : decode cL_law 263 = .ok (.ireturn, 1) := by decide +kernel
theorem dL_law_264 : decode cL_law 264 = .ok (.aload_n 1, 1) := by decide +kernel
theorem dL_law_265 : decode cL_law 265 = .ok (.aload_n 0, 1) := by decide +kernel
theorem dL_law_266 : decode cL_law 266 = .ok (.iload_n 3, 1) := by decide +kernel
theorem dL_law_267 : decode cL_law 267 = .ok (.iconst 1, 1) := by decide +kernel
theorem dL_law_268 : decode cL_law 268 = .ok (.iadd, 1) := by decide +kernel
theorem dL_law_269 : decode cL_law 269 = .ok (.iaload, 1) := by decide +kernel
theorem dL_law_270 : decode cL_law 270 = .ok (.aload_n 0, 1) := by decide +kernel
theorem dL_law_271 : decode cL_law 271 = .ok (.iload_n 3, 1) := by decide +kernel
theorem dL_law_272 : decode cL_law 272 = .ok (.iconst 2, 1) := by decide +kernel
theorem dL_law_273 : decode cL_law 273 = .ok (.iadd, 1) := by decide +kernel
theorem dL_law_274 : decode cL_law 274 = .ok (.iaload, 1) := by decide +kernel
theorem dL_law_275 : decode cL_law 275 = .ok (.invokevirtual 23, 3) := by decide +kernel
theorem dL_law_278 : decode cL_law 278 = .ok (.aload_n 2, 1) := by decide +kernel
theorem dL_law_279 : decode cL_law 279 = .ok (.aload_n 0, 1) := by decide +kernel
theorem dL_law_280 : decode cL_law 280 = .ok (.iload_n 3, 1) := by decide +kernel
theorem dL_law_281 : decode cL_law 281 = .ok (.iconst 1, 1) := by decide +kernel
theorem dL_law_282 : decode cL_law 282 = .ok (.iadd, 1) := by decide +kernel
theorem dL_law_283 : decode cL_law 283 = .ok (.iaload, 1) := by decide +kernel
theorem dL_law_284 : decode cL_law 284 = .ok (.aload_n 0, 1) := by decide +kernel
theorem dL_law_285 : decode cL_law 285 = .ok (.iload_n 3, 1) := by decide +kernel
theorem dL_law_286 : decode cL_law 286 = .ok (.iconst 2, 1) := by decide +kernel
theorem dL_law_287 : decode cL_law 287 = .ok (.iadd, 1) := by decide +kernel
theorem dL_law_288 : decode cL_law 288 = .ok (.iaload, 1) := by decide +kernel
theorem dL_law_289 : decode cL_law 289 = .ok (.invokevirtual 26, 3) := by decide +kernel
theorem dL_law_292 : decode cL_law 292 = .ok (.if_icmp .eq 1078, 3) := by decide +kernel
theorem dL_law_295 : decode cL_law 295 = .ok (.iconst 0, 1) := by decide +kernel
theorem dL_law_296 : decode cL_law 296 = .ok (.ireturn, 1) := by decide +kernel
theorem dL_law_297 : decode cL_law 297 = .ok (.aload_n 1, 1) := by decide +kernel
theorem dL_law_298 : decode cL_law 298 = .ok (.aload_n 0, 1) := by decide +kernel
theorem dL_law_299 : decode cL_law 299 = .ok (.iload_n 3, 1) := by decide +kernel
theorem dL_law_300 : decode cL_law 300 = .ok (.iconst 1, 1) := by decide +kernel
theorem dL_law_301 : decode cL_law 301 = .ok (.iadd, 1) := by decide +kernel
theorem dL_law_302 : decode cL_law 302 = .ok (.iaload, 1) := by decide +kernel
theorem dL_law_303 : decode cL_law 303 = .ok (.invokevirtual 27, 3) := by decide +kernel
theorem dL_law_306 : decode cL_law 306 = .ok (.aload_n 2, 1) := by decide +kernel
theorem dL_law_307 : decode cL_law 307 = .ok (.aload_n 0, 1) := by decide +kernel
theorem dL_law_308 : decode cL_law 308 = .ok (.iload_n 3, 1) := by decide +kernel
theorem dL_law_309 : decode cL_law 309 = .ok (.iconst 1, 1) := by decide +kernel
theorem dL_law_310 : decode cL_law 310 = .ok (.iadd, 1) := by decide +kernel
theorem dL_law_311 : decode cL_law 311 = .ok (.iaload, 1) := by decide +kernel
theorem dL_law_312 : decode cL_law 312 = .ok (.invokevirtual 30, 3) := by decide +kernel
theorem dL_law_315 : decode cL_law 315 = .ok (.if_icmp .eq 1055, 3) := by decide +kernel
theorem dL_law_318 : decode cL_law 318 = .ok (.iconst 0, 1) := by decide +kernel
theorem dL_law_319 : decode cL_law 319 = .ok (.ireturn, 1) := by decide +kernel
theorem dL_law_320 : decode cL_law 320 = .ok (.aload_n 1, 1) := by decide +kernel
theorem dL_law_321 : decode cL_law 321 = .ok (.invokevirtual 31, 3) := by decide +kernel
theorem dL_law_324 : decode cL_law 324 = .ok (.aload_n 2, 1) := by decide +kernel
theorem dL_law_325 : decode cL_law 325 = .ok (.invokevirtual 35, 3) := by decide +kernel
theorem dL_law_328 : decode cL_law 328 = .ok (.if_icmp .eq 1042, 3) := by decide +kernel
theorem dL_law_331 : decode cL_law 331 = .ok (.iconst 0, 1) := by decide +kernel
theorem dL_law_332 : decode cL_law 332 = .ok (.ireturn, 1) := by decide +kernel
theorem dL_law_333 : decode cL_law 333 = .ok (.aload_n 1, 1) := by decide +kernel
theorem dL_law_334 : decode cL_law 334 = .ok (.invokevirtual 36, 3) := by decide +kernel
theorem dL_law_337 : decode cL_law 337 = .ok (.aload_n 2, 1) := by decide +kernel
theorem dL_law_338 : decode cL_law 338 = .ok (.invokevirtual 39, 3) := by decide +kernel
theorem dL_law_341 : decode cL_law 341 = .ok (.if_icmp .eq 1029, 3) := by decide +kernel
theorem dL_law_344 : decode cL_law 344 = .ok (.iconst 0, 1) := by decide +kernel
theorem dL_law_345 : decode cL_law 345 = .ok (.ireturn, 1) := by decide +kernel
theorem dL_law_346 : decode cL_law 346 = .ok (.aload_n 1, 1) := by decide +kernel
theorem dL_law_347 : decode cL_law 347 = .ok (.aload_n 0, 1) := by decide +kernel
theorem dL_law_348 : decode cL_law 348 = .ok (.iload_n 3, 1) := by decide +kernel
theorem dL_law_349 : decode cL_law 349 = .ok (.iconst 1, 1) := by decide +kernel
theorem dL_law_350 : decode cL_law 350 = .ok (.iadd, 1) := by decide +kernel
theorem dL_law_351 : decode cL_law 351 = .ok (.iaload, 1) := by decide +kernel
theorem dL_law_352 : decode cL_law 352 = .ok (.aload_n 0, 1) := by decide +kernel
theorem dL_law_353 : decode cL_law 353 = .ok (.iload_n 3, 1) := by decide +kernel
theorem dL_law_354 : decode cL_law 354 = .ok (.iconst 2, 1) := by decide +kernel
theorem dL_law_355 : decode cL_law 355 = .ok (.iadd, 1) := by decide +kernel
theorem dL_law_356 : decode cL_law 356 = .ok (.iaload, 1) := by decide +kernel
theorem dL_law_357 : decode cL_law 357 = .ok (.invokevirtual 40, 3) := by decide +kernel
theorem dL_law_360 : decode cL_law 360 = .ok (.aload_n 2, 1) := by decide +kernel
theorem dL_law_361 : decode cL_law 361 = .ok (.aload_n 0, 1) := by decide +kernel
theorem dL_law_362 : decode cL_law 362 = .ok (.iload_n 3, 1) := by decide +kernel
theorem dL_law_363 : decode cL_law 363 = .ok (.iconst 1, 1) := by decide +kernel
theorem dL_law_364 : decode cL_law 364 = .ok (.iadd, 1) := by decide +kernel
theorem dL_law_365 : decode cL_law 365 = .ok (.iaload, 1) := by decide +kernel
theorem dL_law_366 : decode cL_law 366 = .ok (.aload_n 0, 1) := by decide +kernel
theorem dL_law_367 : decode cL_law 367 = .ok (.iload_n 3, 1) := by decide +kernel
theorem dL_law_368 : decode cL_law 368 = .ok (.iconst 2, 1) := by decide +kernel
theorem dL_law_369 : decode cL_law 369 = .ok (.iadd, 1) := by decide +kernel
theorem dL_law_370 : decode cL_law 370 = .ok (.iaload, 1) := by decide +kernel
theorem dL_law_371 : decode cL_law 371 = .ok (.invokevirtual 43, 3) := by decide +kernel
theorem dL_law_374 : decode cL_law 374 = .ok (.if_icmp .eq 996, 3) := by decide +kernel
theorem dL_law_377 : decode cL_law 377 = .ok (.iconst 0, 1) := by decide +kernel
theorem dL_law_378 : decode cL_law 378 = .ok (.ireturn, 1) := by decide +kernel
theorem dL_law_379 : decode cL_law 379 = .ok (.aload_n 1, 1) := by decide +kernel
theorem dL_law_380 : decode cL_law 380 = .ok (.aload_n 0, 1) := by decide +kernel
theorem dL_law_381 : decode cL_law 381 = .ok (.iload_n 3, 1) := by decide +kernel
theorem dL_law_382 : decode cL_law 382 = .ok (.iconst 1, 1) := by decide +kernel
theorem dL_law_383 : decode cL_law 383 = .ok (.iadd, 1) := by decide +kernel
theorem dL_law_384 : decode cL_law 384 = .ok (.iaload, 1) := by decide +kernel
theorem dL_law_385 : decode cL_law 385 = .ok (.invokevirtual 44, 3) := by decide +kernel
theorem dL_law_388 : decode cL_law 388 = .ok (.aload_n 2, 1) := by decide +kernel
theorem dL_law_389 : decode cL_law 389 = .ok (.aload_n 0, 1) := by decide +kernel
theorem dL_law_390 : decode cL_law 390 = .ok (.iload_n 3, 1) := by decide +kernel
theorem dL_law_391 : decode cL_law 391 = .ok (.iconst 1, 1) := by decide +kernel
theorem dL_law_392 : decode cL_law 392 = .ok (.iadd, 1) := by decide +kernel
theorem dL_law_393 : decode cL_law 393 = .ok (.iaload, 1) := by decide +kernel
theorem dL_law_394 : decode cL_law 394 = .ok (.invokevirtual 47, 3) := by decide +kernel
theorem dL_law_397 : decode cL_law 397 = .ok (.if_icmp .eq 973, 3) := by decide +kernel
theorem dL_law_400 : decode cL_law 400 = .ok (.iconst 0, 1) := by decide +kernel
theorem dL_law_401 : decode cL_law 401 = .ok (.ireturn, 1) := by decide +kernel
theorem dL_law_402 : decode cL_law 402 = .ok (.aload_n 1, 1) := by decide +kernel
theorem dL_law_403 : decode cL_law 403 = .ok (.aload_n 0, 1) := by decide +kernel
theorem dL_law_404 : decode cL_law 404 = .ok (.iload_n 3, 1) := by decide +kernel
theorem dL_law_405 : decode cL_law 405 = .ok (.iconst 1, 1) := by decide +kernel
theorem dL_law_406 : decode cL_law 406 = .ok (.iadd, 1) := by decide +kernel
theorem dL_law_407 : decode cL_law 407 = .ok (.iaload, 1) := by decide +kernel
theorem dL_law_408 : decode cL_law 408 = .ok (.invokevirtual 48, 3) := by decide +kernel
theorem dL_law_411 : decode cL_law 411 = .ok (.aload_n 2, 1) := by decide +kernel
theorem dL_law_412 : decode cL_law 412 = .ok (.aload_n 0, 1) := by decide +kernel
theorem dL_law_413 : decode cL_law 413 = .ok (.iload_n 3, 1) := by decide +kernel
theorem dL_law_414 : decode cL_law 414 = .ok (.iconst 1, 1) := by decide +kernel
theorem dL_law_415 : decode cL_law 415 = .ok (.iadd, 1) := by decide +kernel
theorem dL_law_416 : decode cL_law 416 = .ok (.iaload, 1) := by decide +kernel
theorem dL_law_417 : decode cL_law 417 = .ok (.invokevirtual 51, 3) := by decide +kernel
theorem dL_law_420 : decode cL_law 420 = .ok (.if_icmp .eq 950, 3) := by decide +kernel
theorem dL_law_423 : decode cL_law 423 = .ok (.iconst 0, 1) := by decide +kernel
theorem dL_law_424 : decode cL_law 424 = .ok (.ireturn, 1) := by decide +kernel
theorem dL_law_425 : decode cL_law 425 = .ok (.aload_n 1, 1) := by decide +kernel
theorem dL_law_426 : decode cL_law 426 = .ok (.aload_n 0, 1) := by decide +kernel
theorem dL_law_427 : decode cL_law 427 = .ok (.iload_n 3, 1) := by decide +kernel
theorem dL_law_428 : decode cL_law 428 = .ok (.iconst 1, 1) := by decide +kernel
theorem dL_law_429 : decode cL_law 429 = .ok (.iadd, 1) := by decide +kernel
theorem dL_law_430 : decode cL_law 430 = .ok (.iaload, 1) := by decide +kernel
theorem dL_law_431 : decode cL_law 431 = .ok (.invokevirtual 52, 3) := by decide +kernel
theorem dL_law_434 : decode cL_law 434 = .ok (.aload_n 2, 1) := by decide +kernel
theorem dL_law_435 : decode cL_law 435 = .ok (.aload_n 0, 1) := by decide +kernel
theorem dL_law_436 : decode cL_law 436 = .ok (.iload_n 3, 1) := by decide +kernel
theorem dL_law_437 : decode cL_law 437 = .ok (.iconst 1, 1) := by decide +kernel
theorem dL_law_438 : decode cL_law 438 = .ok (.iadd, 1) := by decide +kernel
theorem dL_law_439 : decode cL_law 439 = .ok (.iaload, 1) := by decide +kernel
theorem dL_law_440 : decode cL_law 440 = .ok (.invokevirtual 55, 3) := by decide +kernel
theorem dL_law_443 : decode cL_law 443 = .ok (.if_icmp .eq 927, 3) := by decide +kernel
theorem dL_law_446 : decode cL_law 446 = .ok (.iconst 0, 1) := by decide +kernel
theorem dL_law_447 : decode cL_law 447 = .ok (.ireturn, 1) := by decide +kernel
theorem dL_law_448 : decode cL_law 448 = .ok (.aload_n 1, 1) := by decide +kernel
theorem dL_law_449 : decode cL_law 449 = .ok (.invokevirtual 56, 3) := by decide +kernel
theorem dL_law_452 : decode cL_law 452 = .ok (.aload_n 2, 1) := by decide +kernel
theorem dL_law_453 : decode cL_law 453 = .ok (.invokevirtual 59, 3) := by decide +kernel
theorem dL_law_456 : decode cL_law 456 = .ok (.if_icmp .eq 914, 3) := by decide +kernel
theorem dL_law_459 : decode cL_law 459 = .ok (.iconst 0, 1) := by decide +kernel
theorem dL_law_460 : decode cL_law 460 = .ok (.ireturn, 1) := by decide +kernel
theorem dL_law_461 : decode cL_law 461 = .ok (.aload_n 1, 1) := by decide +kernel
theorem dL_law_462 : decode cL_law 462 = .ok (.aload_n 0, 1) := by decide +kernel
theorem dL_law_463 : decode cL_law 463 = .ok (.iload_n 3, 1) := by decide +kernel
theorem dL_law_464 : decode cL_law 464 = .ok (.iconst 1, 1) := by decide +kernel
theorem dL_law_465 : decode cL_law 465 = .ok (.iadd, 1) := by decide +kernel
theorem dL_law_466 : decode cL_law 466 = .ok (.iaload, 1) := by decide +kernel
theorem dL_law_467 : decode cL_law 467 = .ok (.aload_n 0, 1) := by decide +kernel
theorem dL_law_468 : decode cL_law 468 = .ok (.iload_n 3, 1) := by decide +kernel
theorem dL_law_469 : decode cL_law 469 = .ok (.iconst 2, 1) := by decide +kernel
theorem dL_law_470 : decode cL_law 470 = .ok (.iadd, 1) := by decide +kernel
theorem dL_law_471 : decode cL_law 471 = .ok (.iaload, 1) := by decide +kernel
theorem dL_law_472 : decode cL_law 472 = .ok (.invokevirtual 60, 3) := by decide +kernel
theorem dL_law_475 : decode cL_law 475 = .ok (.aload_n 2, 1) := by decide +kernel
theorem dL_law_476 : decode cL_law 476 = .ok (.aload_n 0, 1) := by decide +kernel
theorem dL_law_477 : decode cL_law 477 = .ok (.iload_n 3, 1) := by decide +kernel
theorem dL_law_478 : decode cL_law 478 = .ok (.iconst 1, 1) := by decide +kernel
theorem dL_law_479 : decode cL_law 479 = .ok (.iadd, 1) := by decide +kernel
theorem dL_law_480 : decode cL_law 480 = .ok (.iaload, 1) := by decide +kernel
theorem dL_law_481 : decode cL_law 481 = .ok (.aload_n 0, 1) := by decide +kernel
theorem dL_law_482 : decode cL_law 482 = .ok (.iload_n 3, 1) := by decide +kernel
theorem dL_law_483 : decode cL_law 483 = .ok (.iconst 2, 1) := by decide +kernel
theorem dL_law_484 : decode cL_law 484 = .ok (.iadd, 1) := by decide +kernel
theorem dL_law_485 : decode cL_law 485 = .ok (.iaload, 1) := by decide +kernel
theorem dL_law_486 : decode cL_law 486 = .ok (.invokevirtual 63, 3) := by decide +kernel
theorem dL_law_489 : decode cL_law 489 = .ok (.if_icmp .eq 881, 3) := by decide +kernel
theorem dL_law_492 : decode cL_law 492 = .ok (.iconst 0, 1) := by decide +kernel
theorem dL_law_493 : decode cL_law 493 = .ok (.ireturn, 1) := by decide +kernel
theorem dL_law_494 : decode cL_law 494 = .ok (.aload_n 1, 1) := by decide +kernel
theorem dL_law_495 : decode cL_law 495 = .ok (.aload_n 0, 1) := by decide +kernel
theorem dL_law_496 : decode cL_law 496 = .ok (.iload_n 3, 1) := by decide +kernel
theorem dL_law_497 : decode cL_law 497 = .ok (.iconst 1, 1) := by decide +kernel
theorem dL_law_498 : decode cL_law 498 = .ok (.iadd, 1) := by decide +kernel
theorem dL_law_499 : decode cL_law 499 = .ok (.iaload, 1) := by decide +kernel
theorem dL_law_500 : decode cL_law 500 = .ok (.aload_n 0, 1) := by decide +kernel
theorem dL_law_501 : decode cL_law 501 = .ok (.iload_n 3, 1) := by decide +kernel
theorem dL_law_502 : decode cL_law 502 = .ok (.iconst 2, 1) := by decide +kernel
theorem dL_law_503 : decode cL_law 503 = .ok (.iadd, 1) := by decide +kernel
theorem dL_law_504 : decode cL_law 504 = .ok (.iaload, 1) := by decide +kernel
theorem dL_law_505 : decode cL_law 505 = .ok (.invokevirtual 64, 3) := by decide +kernel
theorem dL_law_508 : decode cL_law 508 = .ok (.aload_n 2, 1) := by decide +kernel
theorem dL_law_509 : decode cL_law 509 = .ok (.aload_n 0, 1) := by decide +kernel
theorem dL_law_510 : decode cL_law 510 = .ok (.iload_n 3, 1) := by decide +kernel
theorem dL_law_511 : decode cL_law 511 = .ok (.iconst 1, 1) := by decide +kernel
theorem dL_law_512 : decode cL_law 512 = .ok (.iadd, 1) := by decide +kernel
theorem dL_law_513 : decode cL_law 513 = .ok (.iaload, 1) := by decide +kernel
theorem dL_law_514 : decode cL_law 514 = .ok (.aload_n 0, 1) := by decide +kernel
theorem dL_law_515 : decode cL_law 515 = .ok (.iload_n 3, 1) := by decide +kernel
theorem dL_law_516 : decode cL_law 516 = .ok (.iconst 2, 1) := by decide +kernel
theorem dL_law_517 : decode cL_law 517 = .ok (.iadd, 1) := by decide +kernel
theorem dL_law_518 : decode cL_law 518 = .ok (.iaload, 1) := by decide +kernel
theorem dL_law_519 : decode cL_law 519 = .ok (.invokevirtual 67, 3) := by decide +kernel
theorem dL_law_522 : decode cL_law 522 = .ok (.if_icmp .eq 848, 3) := by decide +kernel
theorem dL_law_525 : decode cL_law 525 = .ok (.iconst 0, 1) := by decide +kernel
theorem dL_law_526 : decode cL_law 526 = .ok (.ireturn, 1) := by decide +kernel
theorem dL_law_527 : decode cL_law 527 = .ok (.aload_n 1, 1) := by decide +kernel
theorem dL_law_528 : decode cL_law 528 = .ok (.aload_n 0, 1) := by decide +kernel
theorem dL_law_529 : decode cL_law 529 = .ok (.iload_n 3, 1) := by decide +kernel
theorem dL_law_530 : decode cL_law 530 = .ok (.iconst 1, 1) := by decide +kernel
theorem dL_law_531 : decode cL_law 531 = .ok (.iadd, 1) := by decide +kernel
theorem dL_law_532 : decode cL_law 532 = .ok (.iaload, 1) := by decide +kernel
theorem dL_law_533 : decode cL_law 533 = .ok (.aload_n 0, 1) := by decide +kernel
theorem dL_law_534 : decode cL_law 534 = .ok (.iload_n 3, 1) := by decide +kernel
theorem dL_law_535 : decode cL_law 535 = .ok (.iconst 2, 1) := by decide +kernel
theorem dL_law_536 : decode cL_law 536 = .ok (.iadd, 1) := by decide +kernel
theorem dL_law_537 : decode cL_law 537 = .ok (.iaload, 1) := by decide +kernel
theorem dL_law_538 : decode cL_law 538 = .ok (.invokevirtual 68, 3) := by decide +kernel
theorem dL_law_541 : decode cL_law 541 = .ok (.aload_n 2, 1) := by decide +kernel
theorem dL_law_542 : decode cL_law 542 = .ok (.aload_n 0, 1) := by decide +kernel
theorem dL_law_543 : decode cL_law 543 = .ok (.iload_n 3, 1) := by decide +kernel
theorem dL_law_544 : decode cL_law 544 = .ok (.iconst 1, 1) := by decide +kernel
theorem dL_law_545 : decode cL_law 545 = .ok (.iadd, 1) := by decide +kernel
theorem dL_law_546 : decode cL_law 546 = .ok (.iaload, 1) := by decide +kernel
theorem dL_law_547 : decode cL_law 547 = .ok (.aload_n 0, 1) := by decide +kernel
theorem dL_law_548 : decode cL_law 548 = .ok (.iload_n 3, 1) := by decide +kernel
theorem dL_law_549 : decode cL_law 549 = .ok (.iconst 2, 1) := by decide +kernel
theorem dL_law_550 : decode cL_law 550 = .ok (.iadd, 1) := by decide +kernel
theorem dL_law_551 : decode cL_law 551 = .ok (.iaload, 1) := by decide +kernel
theorem dL_law_552 : decode cL_law 552 = .ok (.invokevirtual 71, 3) := by decide +kernel
theorem dL_law_555 : decode cL_law 555 = .ok (.if_icmp .eq 815, 3) := by decide +kernel
theorem dL_law_558 : decode cL_law 558 = .ok (.iconst 0, 1) := by decide +kernel
theorem dL_law_559 : decode cL_law 559 = .ok (.ireturn, 1) := by decide +kernel
theorem dL_law_560 : decode cL_law 560 = .ok (.aload_n 1, 1) := by decide +kernel
theorem dL_law_561 : decode cL_law 561 = .ok (.aload_n 0, 1) := by decide +kernel
theorem dL_law_562 : decode cL_law 562 = .ok (.iload_n 3, 1) := by decide +kernel
theorem dL_law_563 : decode cL_law 563 = .ok (.iconst 1, 1) := by decide +kernel
theorem dL_law_564 : decode cL_law 564 = .ok (.iadd, 1) := by decide +kernel
theorem dL_law_565 : decode cL_law 565 = .ok (.iaload, 1) := by decide +kernel
theorem dL_law_566 : decode cL_law 566 = .ok (.aload_n 0, 1) := by decide +kernel
theorem dL_law_567 : decode cL_law 567 = .ok (.iload_n 3, 1) := by decide +kernel
theorem dL_law_568 : decode cL_law 568 = .ok (.iconst 2, 1) := by decide +kernel
theorem dL_law_569 : decode cL_law 569 = .ok (.iadd, 1) := by decide +kernel
theorem dL_law_570 : decode cL_law 570 = .ok (.iaload, 1) := by decide +kernel
theorem dL_law_571 : decode cL_law 571 = .ok (.invokevirtual 72, 3) := by decide +kernel
theorem dL_law_574 : decode cL_law 574 = .ok (.aload_n 2, 1) := by decide +kernel
theorem dL_law_575 : decode cL_law 575 = .ok (.aload_n 0, 1) := by decide +kernel
theorem dL_law_576 : decode cL_law 576 = .ok (.iload_n 3, 1) := by decide +kernel
theorem dL_law_577 : decode cL_law 577 = .ok (.iconst 1, 1) := by decide +kernel
theorem dL_law_578 : decode cL_law 578 = .ok (.iadd, 1) := by decide +kernel
theorem dL_law_579 : decode cL_law 579 = .ok (.iaload, 1) := by decide +kernel
theorem dL_law_580 : decode cL_law 580 = .ok (.aload_n 0, 1) := by decide +kernel
theorem dL_law_581 : decode cL_law 581 = .ok (.iload_n 3, 1) := by decide +kernel
theorem dL_law_582 : decode cL_law 582 = .ok (.iconst 2, 1) := by decide +kernel
theorem dL_law_583 : decode cL_law 583 = .ok (.iadd, 1) := by decide +kernel
theorem dL_law_584 : decode cL_law 584 = .ok (.iaload, 1) := by decide +kernel
theorem dL_law_585 : decode cL_law 585 = .ok (.invokevirtual 75, 3) := by decide +kernel
theorem dL_law_588 : decode cL_law 588 = .ok (.if_icmp .eq 782, 3) := by decide +kernel
theorem dL_law_591 : decode cL_law 591 = .ok (.iconst 0, 1) := by decide +kernel
theorem dL_law_592 : decode cL_law 592 = .ok (.ireturn, 1) := by decide +kernel
theorem dL_law_593 : decode cL_law 593 = .ok (.aload_n 1, 1) := by decide +kernel
theorem dL_law_594 : decode cL_law 594 = .ok (.aload_n 0, 1) := by decide +kernel
theorem dL_law_595 : decode cL_law 595 = .ok (.iload_n 3, 1) := by decide +kernel
theorem dL_law_596 : decode cL_law 596 = .ok (.iconst 1, 1) := by decide +kernel
theorem dL_law_597 : decode cL_law 597 = .ok (.iadd, 1) := by decide +kernel
theorem dL_law_598 : decode cL_law 598 = .ok (.iaload, 1) := by decide +kernel
theorem dL_law_599 : decode cL_law 599 = .ok (.aload_n 0, 1) := by decide +kernel
theorem dL_law_600 : decode cL_law 600 = .ok (.iload_n 3, 1) := by decide +kernel
theorem dL_law_601 : decode cL_law 601 = .ok (.iconst 2, 1) := by decide +kernel
theorem dL_law_602 : decode cL_law 602 = .ok (.iadd, 1) := by decide +kernel
theorem dL_law_603 : decode cL_law 603 = .ok (.iaload, 1) := by decide +kernel
theorem dL_law_604 : decode cL_law 604 = .ok (.invokevirtual 76, 3) := by decide +kernel
theorem dL_law_607 : decode cL_law 607 = .ok (.aload_n 2, 1) := by decide +kernel
theorem dL_law_608 : decode cL_law 608 = .ok (.aload_n 0, 1) := by decide +kernel
theorem dL_law_609 : decode cL_law 609 = .ok (.iload_n 3, 1) := by decide +kernel
theorem dL_law_610 : decode cL_law 610 = .ok (.iconst 1, 1) := by decide +kernel
theorem dL_law_611 : decode cL_law 611 = .ok (.iadd, 1) := by decide +kernel
theorem dL_law_612 : decode cL_law 612 = .ok (.iaload, 1) := by decide +kernel
theorem dL_law_613 : decode cL_law 613 = .ok (.aload_n 0, 1) := by decide +kernel
theorem dL_law_614 : decode cL_law 614 = .ok (.iload_n 3, 1) := by decide +kernel
theorem dL_law_615 : decode cL_law 615 = .ok (.iconst 2, 1) := by decide +kernel
theorem dL_law_616 : decode cL_law 616 = .ok (.iadd, 1) := by decide +kernel
theorem dL_law_617 : decode cL_law 617 = .ok (.iaload, 1) := by decide +kernel
theorem dL_law_618 : decode cL_law 618 = .ok (.invokevirtual 79, 3) := by decide +kernel
theorem dL_law_621 : decode cL_law 621 = .ok (.if_icmp .eq 749, 3) := by decide +kernel
theorem dL_law_624 : decode cL_law 624 = .ok (.iconst 0, 1) := by decide +kernel
theorem dL_law_625 : decode cL_law 625 = .ok (.ireturn, 1) := by decide +kernel
theorem dL_law_626 : decode cL_law 626 = .ok (.aload_n 1, 1) := by decide +kernel
theorem dL_law_627 : decode cL_law 627 = .ok (.aload_n 0, 1) := by decide +kernel
theorem dL_law_628 : decode cL_law 628 = .ok (.iload_n 3, 1) := by decide +kernel
theorem dL_law_629 : decode cL_law 629 = .ok (.iconst 1, 1) := by decide +kernel
theorem dL_law_630 : decode cL_law 630 = .ok (.iadd, 1) := by decide +kernel
theorem dL_law_631 : decode cL_law 631 = .ok (.iaload, 1) := by decide +kernel
theorem dL_law_632 : decode cL_law 632 = .ok (.aload_n 0, 1) := by decide +kernel
theorem dL_law_633 : decode cL_law 633 = .ok (.iload_n 3, 1) := by decide +kernel
theorem dL_law_634 : decode cL_law 634 = .ok (.iconst 2, 1) := by decide +kernel
theorem dL_law_635 : decode cL_law 635 = .ok (.iadd, 1) := by decide +kernel
theorem dL_law_636 : decode cL_law 636 = .ok (.iaload, 1) := by decide +kernel
theorem dL_law_637 : decode cL_law 637 = .ok (.invokevirtual 80, 3) := by decide +kernel
theorem dL_law_640 : decode cL_law 640 = .ok (.aload_n 2, 1) := by decide +kernel
theorem dL_law_641 : decode cL_law 641 = .ok (.aload_n 0, 1) := by decide +kernel
theorem dL_law_642 : decode cL_law 642 = .ok (.iload_n 3, 1) := by decide +kernel
theorem dL_law_643 : decode cL_law 643 = .ok (.iconst 1, 1) := by decide +kernel
theorem dL_law_644 : decode cL_law 644 = .ok (.iadd, 1) := by decide +kernel
theorem dL_law_645 : decode cL_law 645 = .ok (.iaload, 1) := by decide +kernel
theorem dL_law_646 : decode cL_law 646 = .ok (.aload_n 0, 1) := by decide +kernel
theorem dL_law_647 : decode cL_law 647 = .ok (.iload_n 3, 1) := by decide +kernel
theorem dL_law_648 : decode cL_law 648 = .ok (.iconst 2, 1) := by decide +kernel
theorem dL_law_649 : decode cL_law 649 = .ok (.iadd, 1) := by decide +kernel
theorem dL_law_650 : decode cL_law 650 = .ok (.iaload, 1) := by decide +kernel
theorem dL_law_651 : decode cL_law 651 = .ok (.invokevirtual 83, 3) := by decide +kernel
theorem dL_law_654 : decode cL_law 654 = .ok (.if_icmp .eq 716, 3) := by decide +kernel
theorem dL_law_657 : decode cL_law 657 = .ok (.iconst 0, 1) := by decide +kernel
theorem dL_law_658 : decode cL_law 658 = .ok (.ireturn, 1) := by decide +kernel
theorem dL_law_659 : decode cL_law 659 = .ok (.aload_n 1, 1) := by decide +kernel
theorem dL_law_660 : decode cL_law 660 = .ok (.aload_n 0, 1) := by decide +kernel
theorem dL_law_661 : decode cL_law 661 = .ok (.iload_n 3, 1) := by decide +kernel
theorem dL_law_662 : decode cL_law 662 = .ok (.iconst 1, 1) := by decide +kernel
theorem dL_law_663 : decode cL_law 663 = .ok (.iadd, 1) := by decide +kernel
theorem dL_law_664 : decode cL_law 664 = .ok (.iaload, 1) := by decide +kernel
theorem dL_law_665 : decode cL_law 665 = .ok (.aload_n 0, 1) := by decide +kernel
theorem dL_law_666 : decode cL_law 666 = .ok (.iload_n 3, 1) := by decide +kernel
theorem dL_law_667 : decode cL_law 667 = .ok (.iconst 2, 1) := by decide +kernel
theorem dL_law_668 : decode cL_law 668 = .ok (.iadd, 1) := by decide +kernel
theorem dL_law_669 : decode cL_law 669 = .ok (.iaload, 1) := by decide +kernel
theorem dL_law_670 : decode cL_law 670 = .ok (.invokevirtual 84, 3) := by decide +kernel
theorem dL_law_673 : decode cL_law 673 = .ok (.aload_n 2, 1) := by decide +kernel
theorem dL_law_674 : decode cL_law 674 = .ok (.aload_n 0, 1) := by decide +kernel
theorem dL_law_675 : decode cL_law 675 = .ok (.iload_n 3, 1) := by decide +kernel
theorem dL_law_676 : decode cL_law 676 = .ok (.iconst 1, 1) := by decide +kernel
theorem dL_law_677 : decode cL_law 677 = .ok (.iadd, 1) := by decide +kernel
theorem dL_law_678 : decode cL_law 678 = .ok (.iaload, 1) := by decide +kernel
theorem dL_law_679 : decode cL_law 679 = .ok (.aload_n 0, 1) := by decide +kernel
theorem dL_law_680 : decode cL_law 680 = .ok (.iload_n 3, 1) := by decide +kernel
theorem dL_law_681 : decode cL_law 681 = .ok (.iconst 2, 1) := by decide +kernel
theorem dL_law_682 : decode cL_law 682 = .ok (.iadd, 1) := by decide +kernel
theorem dL_law_683 : decode cL_law 683 = .ok (.iaload, 1) := by decide +kernel
theorem dL_law_684 : decode cL_law 684 = .ok (.invokevirtual 87, 3) := by decide +kernel
theorem dL_law_687 : decode cL_law 687 = .ok (.if_icmp .eq 683, 3) := by decide +kernel
theorem dL_law_690 : decode cL_law 690 = .ok (.iconst 0, 1) := by decide +kernel
theorem dL_law_691 : decode cL_law 691 = .ok (.ireturn, 1) := by decide +kernel
theorem dL_law_692 : decode cL_law 692 = .ok (.aload_n 1, 1) := by decide +kernel
theorem dL_law_693 : decode cL_law 693 = .ok (.aload_n 0, 1) := by decide +kernel
theorem dL_law_694 : decode cL_law 694 = .ok (.iload_n 3, 1) := by decide +kernel
theorem dL_law_695 : decode cL_law 695 = .ok (.iconst 1, 1) := by decide +kernel
theorem dL_law_696 : decode cL_law 696 = .ok (.iadd, 1) := by decide +kernel
theorem dL_law_697 : decode cL_law 697 = .ok (.iaload, 1) := by decide +kernel
theorem dL_law_698 : decode cL_law 698 = .ok (.invokevirtual 88, 3) := by decide +kernel
theorem dL_law_701 : decode cL_law 701 = .ok (.aload_n 2, 1) := by decide +kernel
theorem dL_law_702 : decode cL_law 702 = .ok (.aload_n 0, 1) := by decide +kernel
theorem dL_law_703 : decode cL_law 703 = .ok (.iload_n 3, 1) := by decide +kernel
theorem dL_law_704 : decode cL_law 704 = .ok (.iconst 1, 1) := by decide +kernel
theorem dL_law_705 : decode cL_law 705 = .ok (.iadd, 1) := by decide +kernel
theorem dL_law_706 : decode cL_law 706 = .ok (.iaload, 1) := by decide +kernel
theorem dL_law_707 : decode cL_law 707 = .ok (.invokevirtual 91, 3) := by decide +kernel
theorem dL_law_710 : decode cL_law 710 = .ok (.if_icmp .eq 660, 3) := by decide +kernel
theorem dL_law_713 : decode cL_law 713 = .ok (.iconst 0, 1) := by decide +kernel
theorem dL_law_714 : decode cL_law 714 = .ok (.ireturn, 1) := by decide +kernel
theorem dL_law_715 : decode cL_law 715 = .ok (.aload_n 1, 1) := by decide +kernel
theorem dL_law_716 : decode cL_law 716 = .ok (.aload_n 0, 1) := by decide +kernel
theorem dL_law_717 : decode cL_law 717 = .ok (.iload_n 3, 1) := by decide +kernel
theorem dL_law_718 : decode cL_law 718 = .ok (.iconst 1, 1) := by decide +kernel
theorem dL_law_719 : decode cL_law 719 = .ok (.iadd, 1) := by decide +kernel
theorem dL_law_720 : decode cL_law 720 = .ok (.iaload, 1) := by decide +kernel
theorem dL_law_721 : decode cL_law 721 = .ok (.aload_n 0, 1) := by decide +kernel
theorem dL_law_722 : decode cL_law 722 = .ok (.iload_n 3, 1) := by decide +kernel
theorem dL_law_723 : decode cL_law 723 = .ok (.iconst 2, 1) := by decide +kernel
theorem dL_law_724 : decode cL_law 724 = .ok (.iadd, 1) := by decide +kernel
theorem dL_law_725 : decode cL_law 725 = .ok (.iaload, 1) := by decide +kernel
theorem dL_law_726 : decode cL_law 726 = .ok (.aload_n 0, 1) := by decide +kernel
theorem dL_law_727 : decode cL_law 727 = .ok (.iload_n 3, 1) := by decide +kernel
theorem dL_law_728 : decode cL_law 728 = .ok (.iconst 3, 1) := by decide +kernel
theorem dL_law_729 : decode cL_law 729 = .ok (.iadd, 1) := by decide +kernel
theorem dL_law_730 : decode cL_law 730 = .ok (.iaload, 1) := by decide +kernel
theorem dL_law_731 : decode cL_law 731 = .ok (.invokevirtual 92, 3) := by decide +kernel
theorem dL_law_734 : decode cL_law 734 = .ok (.aload_n 2, 1) := by decide +kernel
theorem dL_law_735 : decode cL_law 735 = .ok (.aload_n 0, 1) := by decide +kernel
theorem dL_law_736 : decode cL_law 736 = .ok (.iload_n 3, 1) := by decide +kernel
theorem dL_law_737 : decode cL_law 737 = .ok (.iconst 1, 1) := by decide +kernel
theorem dL_law_738 : decode cL_law 738 = .ok (.iadd, 1) := by decide +kernel
theorem dL_law_739 : decode cL_law 739 = .ok (.iaload, 1) := by decide +kernel
theorem dL_law_740 : decode cL_law 740 = .ok (.aload_n 0, 1) := by decide +kernel
theorem dL_law_741 : decode cL_law 741 = .ok (.iload_n 3, 1) := by decide +kernel
theorem dL_law_742 : decode cL_law 742 = .ok (.iconst 2, 1) := by decide +kernel
theorem dL_law_743 : decode cL_law 743 = .ok (.iadd, 1) := by decide +kernel
theorem dL_law_744 : decode cL_law 744 = .ok (.iaload, 1) := by decide +kernel
theorem dL_law_745 : decode cL_law 745 = .ok (.aload_n 0, 1) := by decide +kernel
theorem dL_law_746 : decode cL_law 746 = .ok (.iload_n 3, 1) := by decide +kernel
theorem dL_law_747 : decode cL_law 747 = .ok (.iconst 3, 1) := by decide +kernel
theorem dL_law_748 : decode cL_law 748 = .ok (.iadd, 1) := by decide +kernel
theorem dL_law_749 : decode cL_law 749 = .ok (.iaload, 1) := by decide +kernel
theorem dL_law_750 : decode cL_law 750 = .ok (.invokevirtual 96, 3) := by decide +kernel
theorem dL_law_753 : decode cL_law 753 = .ok (.if_icmp .eq 617, 3) := by decide +kernel
theorem dL_law_756 : decode cL_law 756 = .ok (.iconst 0, 1) := by decide +kernel
theorem dL_law_757 : decode cL_law 757 = .ok (.ireturn, 1) := by decide +kernel
theorem dL_law_758 : decode cL_law 758 = .ok (.aload_n 1, 1) := by decide +kernel
theorem dL_law_759 : decode cL_law 759 = .ok (.aload_n 0, 1) := by decide +kernel
theorem dL_law_760 : decode cL_law 760 = .ok (.iload_n 3, 1) := by decide +kernel
theorem dL_law_761 : decode cL_law 761 = .ok (.iconst 1, 1) := by decide +kernel
theorem dL_law_762 : decode cL_law 762 = .ok (.iadd, 1) := by decide +kernel
theorem dL_law_763 : decode cL_law 763 = .ok (.iaload, 1) := by decide +kernel
theorem dL_law_764 : decode cL_law 764 = .ok (.invokevirtual 97, 3) := by decide +kernel
theorem dL_law_767 : decode cL_law 767 = .ok (.aload_n 2, 1) := by decide +kernel
theorem dL_law_768 : decode cL_law 768 = .ok (.aload_n 0, 1) := by decide +kernel
theorem dL_law_769 : decode cL_law 769 = .ok (.iload_n 3, 1) := by decide +kernel
theorem dL_law_770 : decode cL_law 770 = .ok (.iconst 1, 1) := by decide +kernel
theorem dL_law_771 : decode cL_law 771 = .ok (.iadd, 1) := by decide +kernel
theorem dL_law_772 : decode cL_law 772 = .ok (.iaload, 1) := by decide +kernel
theorem dL_law_773 : decode cL_law 773 = .ok (.invokevirtual 100, 3) := by decide +kernel
theorem dL_law_776 : decode cL_law 776 = .ok (.if_icmp .eq 594, 3) := by decide +kernel
theorem dL_law_779 : decode cL_law 779 = .ok (.iconst 0, 1) := by decide +kernel
theorem dL_law_780 : decode cL_law 780 = .ok (.ireturn, 1) := by decide +kernel
theorem dL_law_781 : decode cL_law 781 = .ok (.aload_n 1, 1) := by decide +kernel
theorem dL_law_782 : decode cL_law 782 = .ok (.aload_n 0, 1) := by decide +kernel
theorem dL_law_783 : decode cL_law 783 = .ok (.iload_n 3, 1) := by decide +kernel
theorem dL_law_784 : decode cL_law 784 = .ok (.iconst 1, 1) := by decide +kernel
theorem dL_law_785 : decode cL_law 785 = .ok (.iadd, 1) := by decide +kernel
theorem dL_law_786 : decode cL_law 786 = .ok (.iaload, 1) := by decide +kernel
theorem dL_law_787 : decode cL_law 787 = .ok (.aload_n 0, 1) := by decide +kernel
theorem dL_law_788 : decode cL_law 788 = .ok (.iload_n 3, 1) := by decide +kernel
theorem dL_law_789 : decode cL_law 789 = .ok (.iconst 2, 1) := by decide +kernel
theorem dL_law_790 : decode cL_law 790 = .ok (.iadd, 1) := by decide +kernel
theorem dL_law_791 : decode cL_law 791 = .ok (.iaload, 1) := by decide +kernel
theorem dL_law_792 : decode cL_law 792 = .ok (.aload_n 0, 1) := by decide +kernel
theorem dL_law_793 : decode cL_law 793 = .ok (.iload_n 3, 1) := by decide +kernel
theorem dL_law_794 : decode cL_law 794 = .ok (.iconst 3, 1) := by decide +kernel
theorem dL_law_795 : decode cL_law 795 = .ok (.iadd, 1) := by decide +kernel
theorem dL_law_796 : decode cL_law 796 = .ok (.iaload, 1) := by decide +kernel
theorem dL_law_797 : decode cL_law 797 = .ok (.aload_n 0, 1) := by decide +kernel
theorem dL_law_798 : decode cL_law 798 = .ok (.iload_n 3, 1) := by decide +kernel
theorem dL_law_799 : decode cL_law 799 = .ok (.iconst 4, 1) := by decide +kernel
theorem dL_law_800 : decode cL_law 800 = .ok (.iadd, 1) := by decide +kernel
theorem dL_law_801 : decode cL_law 801 = .ok (.iaload, 1) := by decide +kernel
theorem dL_law_802 : decode cL_law 802 = .ok (.invokevirtual 101, 3) := by decide +kernel
theorem dL_law_805 : decode cL_law 805 = .ok (.aload_n 2, 1) := by decide +kernel
theorem dL_law_806 : decode cL_law 806 = .ok (.aload_n 0, 1) := by decide +kernel
theorem dL_law_807 : decode cL_law 807 = .ok (.iload_n 3, 1) := by decide +kernel
theorem dL_law_808 : decode cL_law 808 = .ok (.iconst 1, 1) := by decide +kernel
theorem dL_law_809 : decode cL_law 809 = .ok (.iadd, 1) := by decide +kernel
theorem dL_law_810 : decode cL_law 810 = .ok (.iaload, 1) := by decide +kernel
theorem dL_law_811 : decode cL_law 811 = .ok (.aload_n 0, 1) := by decide +kernel
theorem dL_law_812 : decode cL_law 812 = .ok (.iload_n 3, 1) := by decide +kernel
theorem dL_law_813 : decode cL_law 813 = .ok (.iconst 2, 1) := by decide +kernel
theorem dL_law_814 : decode cL_law 814 = .ok (.iadd, 1) := by decide +kernel
theorem dL_law_815 : decode cL_law 815 = .ok (.iaload, 1) := by decide +kernel
theorem dL_law_816 : decode cL_law 816 = .ok (.aload_n 0, 1) := by decide +kernel
theorem dL_law_817 : decode cL_law 817 = .ok (.iload_n 3, 1) := by decide +kernel
theorem dL_law_818 : decode cL_law 818 = .ok (.iconst 3, 1) := by decide +kernel
theorem dL_law_819 : decode cL_law 819 = .ok (.iadd, 1) := by decide +kernel
theorem dL_law_820 : decode cL_law 820 = .ok (.iaload, 1) := by decide +kernel
theorem dL_law_821 : decode cL_law 821 = .ok (.aload_n 0, 1) := by decide +kernel
theorem dL_law_822 : decode cL_law 822 = .ok (.iload_n 3, 1) := by decide +kernel
theorem dL_law_823 : decode cL_law 823 = .ok (.iconst 4, 1) := by decide +kernel
theorem dL_law_824 : decode cL_law 824 = .ok (.iadd, 1) := by decide +kernel
theorem dL_law_825 : decode cL_law 825 = .ok (.iaload, 1) := by decide +kernel
theorem dL_law_826 : decode cL_law 826 = .ok (.invokevirtual 105, 3) := by decide +kernel
theorem dL_law_829 : decode cL_law 829 = .ok (.if_icmp .eq 541, 3) := by decide +kernel
theorem dL_law_832 : decode cL_law 832 = .ok (.iconst 0, 1) := by decide +kernel
theorem dL_law_833 : decode cL_law 833 = .ok (.ireturn, 1) := by decide +kernel
theorem dL_law_834 : decode cL_law 834 = .ok (.aload_n 1, 1) := by decide +kernel
theorem dL_law_835 : decode cL_law 835 = .ok (.aload_n 0, 1) := by decide +kernel
theorem dL_law_836 : decode cL_law 836 = .ok (.iload_n 3, 1) := by decide +kernel
theorem dL_law_837 : decode cL_law 837 = .ok (.iconst 1, 1) := by decide +kernel
theorem dL_law_838 : decode cL_law 838 = .ok (.iadd, 1) := by decide +kernel
theorem dL_law_839 : decode cL_law 839 = .ok (.iaload, 1) := by decide +kernel
theorem dL_law_840 : decode cL_law 840 = .ok (.aload_n 0, 1) := by decide +kernel
theorem dL_law_841 : decode cL_law 841 = .ok (.iload_n 3, 1) := by decide +kernel
theorem dL_law_842 : decode cL_law 842 = .ok (.iconst 2, 1) := by decide +kernel
theorem dL_law_843 : decode cL_law 843 = .ok (.iadd, 1) := by decide +kernel
theorem dL_law_844 : decode cL_law 844 = .ok (.iaload, 1) := by decide +kernel
theorem dL_law_845 : decode cL_law 845 = .ok (.invokevirtual 106, 3) := by decide +kernel
theorem dL_law_848 : decode cL_law 848 = .ok (.aload_n 2, 1) := by decide +kernel
theorem dL_law_849 : decode cL_law 849 = .ok (.aload_n 0, 1) := by decide +kernel
theorem dL_law_850 : decode cL_law 850 = .ok (.iload_n 3, 1) := by decide +kernel
theorem dL_law_851 : decode cL_law 851 = .ok (.iconst 1, 1) := by decide +kernel
theorem dL_law_852 : decode cL_law 852 = .ok (.iadd, 1) := by decide +kernel
theorem dL_law_853 : decode cL_law 853 = .ok (.iaload, 1) := by decide +kernel
theorem dL_law_854 : decode cL_law 854 = .ok (.aload_n 0, 1) := by decide +kernel
theorem dL_law_855 : decode cL_law 855 = .ok (.iload_n 3, 1) := by decide +kernel
theorem dL_law_856 : decode cL_law 856 = .ok (.iconst 2, 1) := by decide +kernel
theorem dL_law_857 : decode cL_law 857 = .ok (.iadd, 1) := by decide +kernel
theorem dL_law_858 : decode cL_law 858 = .ok (.iaload, 1) := by decide +kernel
theorem dL_law_859 : decode cL_law 859 = .ok (.invokevirtual 109, 3) := by decide +kernel
theorem dL_law_862 : decode cL_law 862 = .ok (.if_icmp .eq 508, 3) := by decide +kernel
theorem dL_law_865 : decode cL_law 865 = .ok (.iconst 0, 1) := by decide +kernel
theorem dL_law_866 : decode cL_law 866 = .ok (.ireturn, 1) := by decide +kernel
theorem dL_law_867 : decode cL_law 867 = .ok (.aload_n 1, 1) := by decide +kernel
theorem dL_law_868 : decode cL_law 868 = .ok (.aload_n 0, 1) := by decide +kernel
theorem dL_law_869 : decode cL_law 869 = .ok (.iload_n 3, 1) := by decide +kernel
theorem dL_law_870 : decode cL_law 870 = .ok (.iconst 1, 1) := by decide +kernel
theorem dL_law_871 : decode cL_law 871 = .ok (.iadd, 1) := by decide +kernel
theorem dL_law_872 : decode cL_law 872 = .ok (.iaload, 1) := by decide +kernel
theorem dL_law_873 : decode cL_law 873 = .ok (.invokevirtual 110, 3) := by decide +kernel
theorem dL_law_876 : decode cL_law 876 = .ok (.aload_n 2, 1) := by decide +kernel
theorem dL_law_877 : decode cL_law 877 = .ok (.aload_n 0, 1) := by decide +kernel
theorem dL_law_878 : decode cL_law 878 = .ok (.iload_n 3, 1) := by decide +kernel
theorem dL_law_879 : decode cL_law 879 = .ok (.iconst 1, 1) := by decide +kernel
theorem dL_law_880 : decode cL_law 880 = .ok (.iadd, 1) := by decide +kernel
theorem dL_law_881 : decode cL_law 881 = .ok (.iaload, 1) := by decide +kernel
theorem dL_law_882 : decode cL_law 882 = .ok (.invokevirtual 113, 3) := by decide +kernel
theorem dL_law_885 : decode cL_law 885 = .ok (.if_icmp .eq 485, 3) := by decide +kernel
theorem dL_law_888 : decode cL_law 888 = .ok (.iconst 0, 1) := by decide +kernel
theorem dL_law_889 : decode cL_law 889 = .ok (.ireturn, 1) := by decide +kernel
theorem dL_law_890 : decode cL_law 890 = .ok (.aload_n 1, 1) := by decide +kernel
theorem dL_law_891 : decode cL_law 891 = .ok (.aload_n 0, 1) := by decide +kernel
theorem dL_law_892 : decode cL_law 892 = .ok (.iload_n 3, 1) := by decide +kernel
theorem dL_law_893 : decode cL_law 893 = .ok (.iconst 1, 1) := by decide +kernel
theorem dL_law_894 : decode cL_law 894 = .ok (.iadd, 1) := by decide +kernel
theorem dL_law_895 : decode cL_law 895 = .ok (.iaload, 1) := by decide +kernel
theorem dL_law_896 : decode cL_law 896 = .ok (.aload_n 0, 1) := by decide +kernel
theorem dL_law_897 : decode cL_law 897 = .ok (.iload_n 3, 1) := by decide +kernel
theorem dL_law_898 : decode cL_law 898 = .ok (.iconst 2, 1) := by decide +kernel
theorem dL_law_899 : decode cL_law 899 = .ok (.iadd, 1) := by decide +kernel
theorem dL_law_900 : decode cL_law 900 = .ok (.iaload, 1) := by decide +kernel
theorem dL_law_901 : decode cL_law 901 = .ok (.aload_n 0, 1) := by decide +kernel
theorem dL_law_902 : decode cL_law 902 = .ok (.iload_n 3, 1) := by decide +kernel
theorem dL_law_903 : decode cL_law 903 = .ok (.iconst 3, 1) := by decide +kernel
theorem dL_law_904 : decode cL_law 904 = .ok (.iadd, 1) := by decide +kernel
theorem dL_law_905 : decode cL_law 905 = .ok (.iaload, 1) := by decide +kernel
theorem dL_law_906 : decode cL_law 906 = .ok (.aload_n 0, 1) := by decide +kernel
theorem dL_law_907 : decode cL_law 907 = .ok (.iload_n 3, 1) := by decide +kernel
theorem dL_law_908 : decode cL_law 908 = .ok (.iconst 4, 1) := by decide +kernel
theorem dL_law_909 : decode cL_law 909 = .ok (.iadd, 1) := by decide +kernel
theorem dL_law_910 : decode cL_law 910 = .ok (.iaload, 1) := by decide +kernel
theorem dL_law_911 : decode cL_law 911 = .ok (.invokevirtual 114, 3) := by decide +kernel
theorem dL_law_914 : decode cL_law 914 = .ok (.aload_n 2, 1) := by decide +kernel
theorem dL_law_915 : decode cL_law 915 = .ok (.aload_n 0, 1) := by decide +kernel
theorem dL_law_916 : decode cL_law 916 = .ok (.iload_n 3, 1) := by decide +kernel
theorem dL_law_917 : decode cL_law 917 = .ok (.iconst 1, 1) := by decide +kernel
theorem dL_law_918 : decode cL_law 918 = .ok (.iadd, 1) := by decide +kernel
theorem dL_law_919 : decode cL_law 919 = .ok (.iaload, 1) := by decide +kernel
theorem dL_law_920 : decode cL_law 920 = .ok (.aload_n 0, 1) := by decide +kernel
theorem dL_law_921 : decode cL_law 921 = .ok (.iload_n 3, 1) := by decide +kernel
theorem dL_law_922 : decode cL_law 922 = .ok (.iconst 2, 1) := by decide +kernel
theorem dL_law_923 : decode cL_law 923 = .ok (.iadd, 1) := by decide +kernel
theorem dL_law_924 : decode cL_law 924 = .ok (.iaload, 1) := by decide +kernel
theorem dL_law_925 : decode cL_law 925 = .ok (.aload_n 0, 1) := by decide +kernel
theorem dL_law_926 : decode cL_law 926 = .ok (.iload_n 3, 1) := by decide +kernel
theorem dL_law_927 : decode cL_law 927 = .ok (.iconst 3, 1) := by decide +kernel
theorem dL_law_928 : decode cL_law 928 = .ok (.iadd, 1) := by decide +kernel
theorem dL_law_929 : decode cL_law 929 = .ok (.iaload, 1) := by decide +kernel
theorem dL_law_930 : decode cL_law 930 = .ok (.aload_n 0, 1) := by decide +kernel
theorem dL_law_931 : decode cL_law 931 = .ok (.iload_n 3, 1) := by decide +kernel
theorem dL_law_932 : decode cL_law 932 = .ok (.iconst 4, 1) := by decide +kernel
theorem dL_law_933 : decode cL_law 933 = .ok (.iadd, 1) := by decide +kernel
theorem dL_law_934 : decode cL_law 934 = .ok (.iaload, 1) := by decide +kernel
theorem dL_law_935 : decode cL_law 935 = .ok (.invokevirtual 117, 3) := by decide +kernel
theorem dL_law_938 : decode cL_law 938 = .ok (.if_icmp .eq 432, 3) := by decide +kernel
theorem dL_law_941 : decode cL_law 941 = .ok (.iconst 0, 1) := by decide +kernel
theorem dL_law_942 : decode cL_law 942 = .ok (.ireturn, 1) := by decide +kernel
theorem dL_law_943 : decode cL_law 943 = .ok (.aload_n 1, 1) := by decide +kernel
theorem dL_law_944 : decode cL_law 944 = .ok (.aload_n 0, 1) := by decide +kernel
theorem dL_law_945 : decode cL_law 945 = .ok (.iload_n 3, 1) := by decide +kernel
theorem dL_law_946 : decode cL_law 946 = .ok (.iconst 1, 1) := by decide +kernel
theorem dL_law_947 : decode cL_law 947 = .ok (.iadd, 1) := by decide +kernel
theorem dL_law_948 : decode cL_law 948 = .ok (.iaload, 1) := by decide +kernel
theorem dL_law_949 : decode cL_law 949 = .ok (.aload_n 0, 1) := by decide +kernel
theorem dL_law_950 : decode cL_law 950 = .ok (.iload_n 3, 1) := by decide +kernel
theorem dL_law_951 : decode cL_law 951 = .ok (.iconst 2, 1) := by decide +kernel
theorem dL_law_952 : decode cL_law 952 = .ok (.iadd, 1) := by decide +kernel
theorem dL_law_953 : decode cL_law 953 = .ok (.iaload, 1) := by decide +kernel
theorem dL_law_954 : decode cL_law 954 = .ok (.aload_n 0, 1) := by decide +kernel
theorem dL_law_955 : decode cL_law 955 = .ok (.iload_n 3, 1) := by decide +kernel
theorem dL_law_956 : decode cL_law 956 = .ok (.iconst 3, 1) := by decide +kernel
theorem dL_law_957 : decode cL_law 957 = .ok (.iadd, 1) := by decide +kernel
theorem dL_law_958 : decode cL_law 958 = .ok (.iaload, 1) := by decide +kernel
theorem dL_law_959 : decode cL_law 959 = .ok (.aload_n 0, 1) := by decide +kernel
theorem dL_law_960 : decode cL_law 960 = .ok (.iload_n 3, 1) := by decide +kernel
theorem dL_law_961 : decode cL_law 961 = .ok (.iconst 4, 1) := by decide +kernel
theorem dL_law_962 : decode cL_law 962 = .ok (.iadd, 1) := by decide +kernel
theorem dL_law_963 : decode cL_law 963 = .ok (.iaload, 1) := by decide +kernel
theorem dL_law_964 : decode cL_law 964 = .ok (.aload_n 0, 1) := by decide +kernel
theorem dL_law_965 : decode cL_law 965 = .ok (.iload_n 3, 1) := by decide +kernel
theorem dL_law_966 : decode cL_law 966 = .ok (.iconst 5, 1) := by decide +kernel
theorem dL_law_967 : decode cL_law 967 = .ok (.iadd, 1) := by decide +kernel
theorem dL_law_968 : decode cL_law 968 = .ok (.iaload, 1) := by decide +kernel
theorem dL_law_969 : decode cL_law 969 = .ok (.invokevirtual 118, 3) := by decide +kernel
theorem dL_law_972 : decode cL_law 972 = .ok (.aload_n 2, 1) := by decide +kernel
theorem dL_law_973 : decode cL_law 973 = .ok (.aload_n 0, 1) := by decide +kernel
theorem dL_law_974 : decode cL_law 974 = .ok (.iload_n 3, 1) := by decide +kernel
theorem dL_law_975 : decode cL_law 975 = .ok (.iconst 1, 1) := by decide +kernel
theorem dL_law_976 : decode cL_law 976 = .ok (.iadd, 1) := by decide +kernel
theorem dL_law_977 : decode cL_law 977 = .ok (.iaload, 1) := by decide +kernel
theorem dL_law_978 : decode cL_law 978 = .ok (.aload_n 0, 1) := by decide +kernel
theorem dL_law_979 : decode cL_law 979 = .ok (.iload_n 3, 1) := by decide +kernel
theorem dL_law_980 : decode cL_law 980 = .ok (.iconst 2, 1) := by decide +kernel
theorem dL_law_981 : decode cL_law 981 = .ok (.iadd, 1) := by decide +kernel
theorem dL_law_982 : decode cL_law 982 = .ok (.iaload, 1) := by decide +kernel
theorem dL_law_983 : decode cL_law 983 = .ok (.aload_n 0, 1) := by decide +kernel
theorem dL_law_984 : decode cL_law 984 = .ok (.iload_n 3, 1) := by decide +kernel
theorem dL_law_985 : decode cL_law 985 = .ok (.iconst 3, 1) := by decide +kernel
theorem dL_law_986 : decode cL_law 986 = .ok (.iadd, 1) := by decide +kernel
theorem dL_law_987 : decode cL_law 987 = .ok (.iaload, 1) := by decide +kernel
theorem dL_law_988 : decode cL_law 988 = .ok (.aload_n 0, 1) := by decide +kernel
theorem dL_law_989 : decode cL_law 989 = .ok (.iload_n 3, 1) := by decide +kernel
theorem dL_law_990 : decode cL_law 990 = .ok (.iconst 4, 1) := by decide +kernel
theorem dL_law_991 : decode cL_law 991 = .ok (.iadd, 1) := by decide +kernel
theorem dL_law_992 : decode cL_law 992 = .ok (.iaload, 1) := by decide +kernel
theorem dL_law_993 : decode cL_law 993 = .ok (.aload_n 0, 1) := by decide +kernel
theorem dL_law_994 : decode cL_law 994 = .ok (.iload_n 3, 1) := by decide +kernel
theorem dL_law_995 : decode cL_law 995 = .ok (.iconst 5, 1) := by decide +kernel
theorem dL_law_996 : decode cL_law 996 = .ok (.iadd, 1) := by decide +kernel
theorem dL_law_997 : decode cL_law 997 = .ok (.iaload, 1) := by decide +kernel
theorem dL_law_998 : decode cL_law 998 = .ok (.invokevirtual 122, 3) := by decide +kernel
theorem dL_law_1001 : decode cL_law 1001 = .ok (.if_icmp .eq 369, 3) := by decide +kernel
theorem dL_law_1004 : decode cL_law 1004 = .ok (.iconst 0, 1) := by decide +kernel
theorem dL_law_1005 : decode cL_law 1005 = .ok (.ireturn, 1) := by decide +kernel
theorem dL_law_1006 : decode cL_law 1006 = .ok (.aload_n 1, 1) := by decide +kernel
theorem dL_law_1007 : decode cL_law 1007 = .ok (.aload_n 0, 1) := by decide +kernel
theorem dL_law_1008 : decode cL_law 1008 = .ok (.iload_n 3, 1) := by decide +kernel
theorem dL_law_1009 : decode cL_law 1009 = .ok (.iconst 1, 1) := by decide +kernel
theorem dL_law_1010 : decode cL_law 1010 = .ok (.iadd, 1) := by decide +kernel
theorem dL_law_1011 : decode cL_law 1011 = .ok (.iaload, 1) := by decide +kernel
theorem dL_law_1012 : decode cL_law 1012 = .ok (.invokevirtual 123, 3) := by decide +kernel
theorem dL_law_1015 : decode cL_law 1015 = .ok (.aload_n 2, 1) := by decide +kernel
theorem dL_law_1016 : decode cL_law 1016 = .ok (.aload_n 0, 1) := by decide +kernel
theorem dL_law_1017 : decode cL_law 1017 = .ok (.iload_n 3, 1) := by decide +kernel
theorem dL_law_1018 : decode cL_law 1018 = .ok (.iconst 1, 1) := by decide +kernel
theorem dL_law_1019 : decode cL_law 1019 = .ok (.iadd, 1) := by decide +kernel
theorem dL_law_1020 : decode cL_law 1020 = .ok (.iaload, 1) := by decide +kernel
theorem dL_law_1021 : decode cL_law 1021 = .ok (.invokevirtual 126, 3) := by decide +kernel
theorem dL_law_1024 : decode cL_law 1024 = .ok (.if_icmp .eq 346, 3) := by decide +kernel
theorem dL_law_1027 : decode cL_law 1027 = .ok (.iconst 0, 1) := by decide +kernel
theorem dL_law_1028 : decode cL_law 1028 = .ok (.ireturn, 1) := by decide +kernel
theorem dL_law_1029 : decode cL_law 1029 = .ok (.aload_n 1, 1) := by decide +kernel
theorem dL_law_1030 : decode cL_law 1030 = .ok (.aload_n 0, 1) := by decide +kernel
theorem dL_law_1031 : decode cL_law 1031 = .ok (.iload_n 3, 1) := by decide +kernel
theorem dL_law_1032 : decode cL_law 1032 = .ok (.iconst 1, 1) := by decide +kernel
theorem dL_law_1033 : decode cL_law 1033 = .ok (.iadd, 1) := by decide +kernel
theorem dL_law_1034 : decode cL_law 1034 = .ok (.iaload, 1) := by decide +kernel
theorem dL_law_1035 : decode cL_law 1035 = .ok (.invokevirtual 127, 3) := by decide +kernel
theorem dL_law_1038 : decode cL_law 1038 = .ok (.aload_n 2, 1) := by decide +kernel
theorem dL_law_1039 : decode cL_law 1039 = .ok (.aload_n 0, 1) := by decide +kernel
theorem dL_law_1040 : decode cL_law 1040 = .ok (.iload_n 3, 1) := by decide +kernel
theorem dL_law_1041 : decode cL_law 1041 = .ok (.iconst 1, 1) := by decide +kernel
theorem dL_law_1042 : decode cL_law 1042 = .ok (.iadd, 1) := by decide +kernel
theorem dL_law_1043 : decode cL_law 1043 = .ok (.iaload, 1) := by decide +kernel
theorem dL_law_1044 : decode cL_law 1044 = .ok (.invokevirtual 130, 3) := by decide +kernel
theorem dL_law_1047 : decode cL_law 1047 = .ok (.if_icmp .eq 323, 3) := by decide +kernel
theorem dL_law_1050 : decode cL_law 1050 = .ok (.iconst 0, 1) := by decide +kernel
theorem dL_law_1051 : decode cL_law 1051 = .ok (.ireturn, 1) := by decide +kernel
theorem dL_law_1052 : decode cL_law 1052 = .ok (.aload_n 1, 1) := by decide +kernel
theorem dL_law_1053 : decode cL_law 1053 = .ok (.aload_n 0, 1) := by decide +kernel
theorem dL_law_1054 : decode cL_law 1054 = .ok (.iload_n 3, 1) := by decide +kernel
theorem dL_law_1055 : decode cL_law 1055 = .ok (.iconst 1, 1) := by decide +kernel
theorem dL_law_1056 : decode cL_law 1056 = .ok (.iadd, 1) := by decide +kernel
theorem dL_law_1057 : decode cL_law 1057 = .ok (.iaload, 1) := by decide +kernel
theorem dL_law_1058 : decode cL_law 1058 = .ok (.invokevirtual 131, 3) := by decide +kernel
theorem dL_law_1061 : decode cL_law 1061 = .ok (.aload_n 2, 1) := by decide +kernel
theorem dL_law_1062 : decode cL_law 1062 = .ok (.aload_n 0, 1) := by decide +kernel
theorem dL_law_1063 : decode cL_law 1063 = .ok (.iload_n 3, 1) := by decide +kernel
theorem dL_law_1064 : decode cL_law 1064 = .ok (.iconst 1, 1) := by decide +kernel
theorem dL_law_1065 : decode cL_law 1065 = .ok (.iadd, 1) := by decide +kernel
theorem dL_law_1066 : decode cL_law 1066 = .ok (.iaload, 1) := by decide +kernel
theorem dL_law_1067 : decode cL_law 1067 = .ok (.invokevirtual 134, 3) := by decide +kernel
theorem dL_law_1070 : decode cL_law 1070 = .ok (.if_icmp .eq 300, 3) := by decide +kernel
theorem dL_law_1073 : decode cL_law 1073 = .ok (.iconst 0, 1) := by decide +kernel
theorem dL_law_1074 : decode cL_law 1074 = .ok (.ireturn, 1) := by decide +kernel
theorem dL_law_1075 : decode cL_law 1075 = .ok (.aload_n 1, 1) := by decide +kernel
theorem dL_law_1076 : decode cL_law 1076 = .ok (.aload_n 0, 1) := by decide +kernel
theorem dL_law_1077 : decode cL_law 1077 = .ok (.iload_n 3, 1) := by decide +kernel
theorem dL_law_1078 : decode cL_law 1078 = .ok (.iconst 1, 1) := by decide +kernel
theorem dL_law_1079 : decode cL_law 1079 = .ok (.iadd, 1) := by decide +kernel
theorem dL_law_1080 : decode cL_law 1080 = .ok (.iaload, 1) := by decide +kernel
theorem dL_law_1081 : decode cL_law 1081 = .ok (.invokevirtual 135, 3) := by decide +kernel
theorem dL_law_1084 : decode cL_law 1084 = .ok (.aload_n 2, 1) := by decide +kernel
theorem dL_law_1085 : decode cL_law 1085 = .ok (.aload_n 0, 1) := by decide +kernel
theorem dL_law_1086 : decode cL_law 1086 = .ok (.iload_n 3, 1) := by decide +kernel
theorem dL_law_1087 : decode cL_law 1087 = .ok (.iconst 1, 1) := by decide +kernel
theorem dL_law_1088 : decode cL_law 1088 = .ok (.iadd, 1) := by decide +kernel
theorem dL_law_1089 : decode cL_law 1089 = .ok (.iaload, 1) := by decide +kernel
theorem dL_law_1090 : decode cL_law 1090 = .ok (.invokevirtual 138, 3) := by decide +kernel
theorem dL_law_1093 : decode cL_law 1093 = .ok (.if_icmp .eq 277, 3) := by decide +kernel
theorem dL_law_1096 : decode cL_law 1096 = .ok (.iconst 0, 1) := by decide +kernel
theorem dL_law_1097 : decode cL_law 1097 = .ok (.ireturn, 1) := by decide +kernel
theorem dL_law_1098 : decode cL_law 1098 = .ok (.aload_n 1, 1) := by decide +kernel
theorem dL_law_1099 : decode cL_law 1099 = .ok (.aload_n 0, 1) := by decide +kernel
theorem dL_law_1100 : decode cL_law 1100 = .ok (.iload_n 3, 1) := by decide +kernel
theorem dL_law_1101 : decode cL_law 1101 = .ok (.iconst 1, 1) := by decide +kernel
theorem dL_law_1102 : decode cL_law 1102 = .ok (.iadd, 1) := by decide +kernel
theorem dL_law_1103 : decode cL_law 1103 = .ok (.iaload, 1) := by decide +kernel
theorem dL_law_1104 : decode cL_law 1104 = .ok (.invokevirtual 139, 3) := by decide +kernel
theorem dL_law_1107 : decode cL_law 1107 = .ok (.aload_n 2, 1) := by decide +kernel
theorem dL_law_1108 : decode cL_law 1108 = .ok (.aload_n 0, 1) := by decide +kernel
theorem dL_law_1109 : decode cL_law 1109 = .ok (.iload_n 3, 1) := by decide +kernel
theorem dL_law_1110 : decode cL_law 1110 = .ok (.iconst 1, 1) := by decide +kernel
theorem dL_law_1111 : decode cL_law 1111 = .ok (.iadd, 1) := by decide +kernel
theorem dL_law_1112 : decode cL_law 1112 = .ok (.iaload, 1) := by decide +kernel
theorem dL_law_1113 : decode cL_law 1113 = .ok (.invokevirtual 142, 3) := by decide +kernel
theorem dL_law_1116 : decode cL_law 1116 = .ok (.if_icmp .eq 254, 3) := by decide +kernel
theorem dL_law_1119 : decode cL_law 1119 = .ok (.iconst 0, 1) := by decide +kernel
theorem dL_law_1120 : decode cL_law 1120 = .ok (.ireturn, 1) := by decide +kernel
theorem dL_law_1121 : decode cL_law 1121 = .ok (.aload_n 1, 1) := by decide +kernel
theorem dL_law_1122 : decode cL_law 1122 = .ok (.aload_n 0, 1) := by decide +kernel
theorem dL_law_1123 : decode cL_law 1123 = .ok (.iload_n 3, 1) := by decide +kernel
theorem dL_law_1124 : decode cL_law 1124 = .ok (.iconst 1, 1) := by decide +kernel
theorem dL_law_1125 : decode cL_law 1125 = .ok (.iadd, 1) := by decide +kernel
theorem dL_law_1126 : decode cL_law 1126 = .ok (.iaload, 1) := by decide +kernel
theorem dL_law_1127 : decode cL_law 1127 = .ok (.aload_n 0, 1) := by decide +kernel
theorem dL_law_1128 : decode cL_law 1128 = .ok (.iload_n 3, 1) := by decide +kernel
theorem dL_law_1129 : decode cL_law 1129 = .ok (.iconst 2, 1) := by decide +kernel
theorem dL_law_1130 : decode cL_law 1130 = .ok (.iadd, 1) := by decide +kernel
theorem dL_law_1131 : decode cL_law 1131 = .ok (.iaload, 1) := by decide +kernel
theorem dL_law_1132 : decode cL_law 1132 = .ok (.aload_n 0, 1) := by decide +kernel
theorem dL_law_1133 : decode cL_law 1133 = .ok (.iload_n 3, 1) := by decide +kernel
theorem dL_law_1134 : decode cL_law 1134 = .ok (.iconst 3, 1) := by decide +kernel
theorem dL_law_1135 : decode cL_law 1135 = .ok (.iadd, 1) := by decide +kernel
theorem dL_law_1136 : decode cL_law 1136 = .ok (.iaload, 1) := by decide +kernel
theorem dL_law_1137 : decode cL_law 1137 = .ok (.aload_n 0, 1) := by decide +kernel
theorem dL_law_1138 : decode cL_law 1138 = .ok (.iload_n 3, 1) := by decide +kernel
theorem dL_law_1139 : decode cL_law 1139 = .ok (.iconst 4, 1) := by decide +kernel
theorem dL_law_1140 : decode cL_law 1140 = .ok (.iadd, 1) := by decide +kernel
theorem dL_law_1141 : decode cL_law 1141 = .ok (.iaload, 1) := by decide +kernel
theorem dL_law_1142 : decode cL_law 1142 = .ok (.invokevirtual 143, 3) := by decide +kernel
theorem dL_law_1145 : decode cL_law 1145 = .ok (.aload_n 2, 1) := by decide +kernel
theorem dL_law_1146 : decode cL_law 1146 = .ok (.aload_n 0, 1) := by decide +kernel
theorem dL_law_1147 : decode cL_law 1147 = .ok (.iload_n 3, 1) := by decide +kernel
theorem dL_law_1148 : decode cL_law 1148 = .ok (.iconst 1, 1) := by decide +kernel
theorem dL_law_1149 : decode cL_law 1149 = .ok (.iadd, 1) := by decide +kernel
theorem dL_law_1150 : decode cL_law 1150 = .ok (.iaload, 1) := by decide +kernel
theorem dL_law_1151 : decode cL_law 1151 = .ok (.aload_n 0, 1) := by decide +kernel
theorem dL_law_1152 : decode cL_law 1152 = .ok (.iload_n 3, 1) := by decide +kernel
theorem dL_law_1153 : decode cL_law 1153 = .ok (.iconst 2, 1) := by decide +kernel
theorem dL_law_1154 : decode cL_law 1154 = .ok (.iadd, 1) := by decide +kernel
theorem dL_law_1155 : decode cL_law 1155 = .ok (.iaload, 1) := by decide +kernel
theorem dL_law_1156 : decode cL_law 1156 = .ok (.aload_n 0, 1) := by decide +kernel
theorem dL_law_1157 : decode cL_law 1157 = .ok (.iload_n 3, 1) := by decide +kernel
theorem dL_law_1158 : decode cL_law 1158 = .ok (.iconst 3, 1) := by decide +kernel
theorem dL_law_1159 : decode cL_law 1159 = .ok (.iadd, 1) := by decide +kernel
theorem dL_law_1160 : decode cL_law 1160 = .ok (.iaload, 1) := by decide +kernel
theorem dL_law_1161 : decode cL_law 1161 = .ok (.aload_n 0, 1) := by decide +kernel
theorem dL_law_1162 : decode cL_law 1162 = .ok (.iload_n 3, 1) := by decide +kernel
theorem dL_law_1163 : decode cL_law 1163 = .ok (.iconst 4, 1) := by decide +kernel
theorem dL_law_1164 : decode cL_law 1164 = .ok (.iadd, 1) := by decide +kernel
theorem dL_law_1165 : decode cL_law 1165 = .ok (.iaload, 1) := by decide +kernel
theorem dL_law_1166 : decode cL_law 1166 = .ok (.invokevirtual 146, 3) := by decide +kernel
theorem dL_law_1169 : decode cL_law 1169 = .ok (.if_icmp .eq 201, 3) := by decide +kernel
theorem dL_law_1172 : decode cL_law 1172 = .ok (.iconst 0, 1) := by decide +kernel
theorem dL_law_1173 : decode cL_law 1173 = .ok (.ireturn, 1) := by decide +kernel
theorem dL_law_1174 : decode cL_law 1174 = .ok (.aload_n 1, 1) := by decide +kernel
theorem dL_law_1175 : decode cL_law 1175 = .ok (.aload_n 0, 1) := by decide +kernel
theorem dL_law_1176 : decode cL_law 1176 = .ok (.iload_n 3, 1) := by decide +kernel
theorem dL_law_1177 : decode cL_law 1177 = .ok (.iconst 1, 1) := by decide +kernel
theorem dL_law_1178 : decode cL_law 1178 = .ok (.iadd, 1) := by decide +kernel
theorem dL_law_1179 : decode cL_law 1179 = .ok (.iaload, 1) := by decide +kernel
theorem dL_law_1180 : decode cL_law 1180 = .ok (.aload_n 0, 1) := by decide +kernel
theorem dL_law_1181 : decode cL_law 1181 = .ok (.iload_n 3, 1) := by decide +kernel
theorem dL_law_1182 : decode cL_law 1182 = .ok (.iconst 2, 1) := by decide +kernel
theorem dL_law_1183 : decode cL_law 1183 = .ok (.iadd, 1) := by decide +kernel
theorem dL_law_1184 : decode cL_law 1184 = .ok (.iaload, 1) := by decide +kernel
theorem dL_law_1185 : decode cL_law 1185 = .ok (.invokevirtual 147, 3) := by decide +kernel
theorem dL_law_1188 : decode cL_law 1188 = .ok (.aload_n 2, 1) := by decide +kernel
theorem dL_law_1189 : decode cL_law 1189 = .ok (.aload_n 0, 1) := by decide +kernel
theorem dL_law_1190 : decode cL_law 1190 = .ok (.iload_n 3, 1) := by decide +kernel
theorem dL_law_1191 : decode cL_law 1191 = .ok (.iconst 1, 1) := by decide +kernel
theorem dL_law_1192 : decode cL_law 1192 = .ok (.iadd, 1) := by decide +kernel
theorem dL_law_1193 : decode cL_law 1193 = .ok (.iaload, 1) := by decide +kernel
theorem dL_law_1194 : decode cL_law 1194 = .ok (.aload_n 0, 1) := by decide +kernel
theorem dL_law_1195 : decode cL_law 1195 = .ok (.iload_n 3, 1) := by decide +kernel
theorem dL_law_1196 : decode cL_law 1196 = .ok (.iconst 2, 1) := by decide +kernel
theorem dL_law_1197 : decode cL_law 1197 = .ok (.iadd, 1) := by decide +kernel
theorem dL_law_1198 : decode cL_law 1198 = .ok (.iaload, 1) := by decide +kernel
theorem dL_law_1199 : decode cL_law 1199 = .ok (.invokevirtual 150, 3) := by decide +kernel
theorem dL_law_1202 : decode cL_law 1202 = .ok (.if_icmp .eq 168, 3) := by decide +kernel
theorem dL_law_1205 : decode cL_law 1205 = .ok (.iconst 0, 1) := by decide +kernel
theorem dL_law_1206 : decode cL_law 1206 = .ok (.ireturn, 1) := by decide +kernel
theorem dL_law_1207 : decode cL_law 1207 = .ok (.aload_n 1, 1) := by decide +kernel
theorem dL_law_1208 : decode cL_law 1208 = .ok (.aload_n 0, 1) := by decide +kernel
theorem dL_law_1209 : decode cL_law 1209 = .ok (.iload_n 3, 1) := by decide +kernel
theorem dL_law_1210 : decode cL_law 1210 = .ok (.iconst 1, 1) := by decide +kernel
theorem dL_law_1211 : decode cL_law 1211 = .ok (.iadd, 1) := by decide +kernel
theorem dL_law_1212 : decode cL_law 1212 = .ok (.iaload, 1) := by decide +kernel
theorem dL_law_1213 : decode cL_law 1213 = .ok (.aload_n 0, 1) := by decide +kernel
theorem dL_law_1214 : decode cL_law 1214 = .ok (.iload_n 3, 1) := by decide +kernel
theorem dL_law_1215 : decode cL_law 1215 = .ok (.iconst 2, 1) := by decide +kernel
theorem dL_law_1216 : decode cL_law 1216 = .ok (.iadd, 1) := by decide +kernel
theorem dL_law_1217 : decode cL_law 1217 = .ok (.iaload, 1) := by decide +kernel
theorem dL_law_1218 : decode cL_law 1218 = .ok (.invokevirtual 151, 3) := by decide +kernel
theorem dL_law_1221 : decode cL_law 1221 = .ok (.aload_n 2, 1) := by decide +kernel
theorem dL_law_1222 : decode cL_law 1222 = .ok (.aload_n 0, 1) := by decide +kernel
theorem dL_law_1223 : decode cL_law 1223 = .ok (.iload_n 3, 1) := by decide +kernel
theorem dL_law_1224 : decode cL_law 1224 = .ok (.iconst 1, 1) := by decide +kernel
theorem dL_law_1225 : decode cL_law 1225 = .ok (.iadd, 1) := by decide +kernel
theorem dL_law_1226 : decode cL_law 1226 = .ok (.iaload, 1) := by decide +kernel
theorem dL_law_1227 : decode cL_law 1227 = .ok (.aload_n 0, 1) := by decide +kernel
theorem dL_law_1228 : decode cL_law 1228 = .ok (.iload_n 3, 1) := by decide +kernel
theorem dL_law_1229 : decode cL_law 1229 = .ok (.iconst 2, 1) := by decide +kernel
theorem dL_law_1230 : decode cL_law 1230 = .ok (.iadd, 1) := by decide +kernel
theorem dL_law_1231 : decode cL_law 1231 = .ok (.iaload, 1) := by decide +kernel
theorem dL_law_1232 : decode cL_law 1232 = .ok (.invokevirtual 154, 3) := by decide +kernel
theorem dL_law_1235 : decode cL_law 1235 = .ok (.if_icmp .eq 135, 3) := by decide +kernel
theorem dL_law_1238 : decode cL_law 1238 = .ok (.iconst 0, 1) := by decide +kernel
theorem dL_law_1239 : decode cL_law 1239 = .ok (.ireturn, 1) := by decide +kernel
theorem dL_law_1240 : decode cL_law 1240 = .ok (.aload_n 1, 1) := by decide +kernel
theorem dL_law_1241 : decode cL_law 1241 = .ok (.aload_n 0, 1) := by decide +kernel
theorem dL_law_1242 : decode cL_law 1242 = .ok (.iload_n 3, 1) := by decide +kernel
theorem dL_law_1243 : decode cL_law 1243 = .ok (.iconst 1, 1) := by decide +kernel
theorem dL_law_1244 : decode cL_law 1244 = .ok (.iadd, 1) := by decide +kernel
theorem dL_law_1245 : decode cL_law 1245 = .ok (.iaload, 1) := by decide +kernel
theorem dL_law_1246 : decode cL_law 1246 = .ok (.invokevirtual 155, 3) := by decide +kernel
theorem dL_law_1249 : decode cL_law 1249 = .ok (.aload_n 2, 1) := by decide +kernel
theorem dL_law_1250 : decode cL_law 1250 = .ok (.aload_n 0, 1) := by decide +kernel
theorem dL_law_1251 : decode cL_law 1251 = .ok (.iload_n 3, 1) := by decide +kernel
theorem dL_law_1252 : decode cL_law 1252 = .ok (.iconst 1, 1) := by decide +kernel
theorem dL_law_1253 : decode cL_law 1253 = .ok (.iadd, 1) := by decide +kernel
theorem dL_law_1254 : decode cL_law 1254 = .ok (.iaload, 1) := by decide +kernel
theorem dL_law_1255 : decode cL_law 1255 = .ok (.invokevirtual 159, 3) := by decide +kernel
theorem dL_law_1258 : decode cL_law 1258 = .ok (.lcmp, 1) := by decide +kernel
theorem dL_law_1259 : decode cL_law 1259 = .ok (.ifCond .eq 111, 3) := by decide +kernel
theorem dL_law_1262 : decode cL_law 1262 = .ok (.iconst 0, 1) := by decide +kernel
theorem dL_law_1263 : decode cL_law 1263 = .ok (.ireturn, 1) := by decide +kernel
theorem dL_law_1264 : decode cL_law 1264 = .ok (.aload_n 1, 1) := by decide +kernel
theorem dL_law_1265 : decode cL_law 1265 = .ok (.aload_n 0, 1) := by decide +kernel
theorem dL_law_1266 : decode cL_law 1266 = .ok (.iload_n 3, 1) := by decide +kernel
theorem dL_law_1267 : decode cL_law 1267 = .ok (.iconst 1, 1) := by decide +kernel
theorem dL_law_1268 : decode cL_law 1268 = .ok (.iadd, 1) := by decide +kernel
theorem dL_law_1269 : decode cL_law 1269 = .ok (.iaload, 1) := by decide +kernel
theorem dL_law_1270 : decode cL_law 1270 = .ok (.invokevirtual 160, 3) := by decide +kernel
theorem dL_law_1273 : decode cL_law 1273 = .ok (.aload_n 2, 1) := by decide +kernel
theorem dL_law_1274 : decode cL_law 1274 = .ok (.aload_n 0, 1) := by decide +kernel
theorem dL_law_1275 : decode cL_law 1275 = .ok (.iload_n 3, 1) := by decide +kernel
theorem dL_law_1276 : decode cL_law 1276 = .ok (.iconst 1, 1) := by decide +kernel
theorem dL_law_1277 : decode cL_law 1277 = .ok (.iadd, 1) := by decide +kernel
theorem dL_law_1278 : decode cL_law 1278 = .ok (.iaload, 1) := by decide +kernel
theorem dL_law_1279 : decode cL_law 1279 = .ok (.invokevirtual 163, 3) := by decide +kernel
theorem dL_law_1282 : decode cL_law 1282 = .ok (.if_icmp .eq 88, 3) := by decide +kernel
theorem dL_law_1285 : decode cL_law 1285 = .ok (.iconst 0, 1) := by decide +kernel
theorem dL_law_1286 : decode cL_law 1286 = .ok (.ireturn, 1) := by decide +kernel
theorem dL_law_1287 : decode cL_law 1287 = .ok (.aload_n 1, 1) := by decide +kernel
theorem dL_law_1288 : decode cL_law 1288 = .ok (.aload_n 0, 1) := by decide +kernel
theorem dL_law_1289 : decode cL_law 1289 = .ok (.iload_n 3, 1) := by decide +kernel
theorem dL_law_1290 : decode cL_law 1290 = .ok (.iconst 1, 1) := by decide +kernel
theorem dL_law_1291 : decode cL_law 1291 = .ok (.iadd, 1) := by decide +kernel
theorem dL_law_1292 : decode cL_law 1292 = .ok (.iaload, 1) := by decide +kernel
theorem dL_law_1293 : decode cL_law 1293 = .ok (.invokevirtual 164, 3) := by decide +kernel
theorem dL_law_1296 : decode cL_law 1296 = .ok (.aload_n 2, 1) := by decide +kernel
theorem dL_law_1297 : decode cL_law 1297 = .ok (.aload_n 0, 1) := by decide +kernel
theorem dL_law_1298 : decode cL_law 1298 = .ok (.iload_n 3, 1) := by decide +kernel
theorem dL_law_1299 : decode cL_law 1299 = .ok (.iconst 1, 1) := by decide +kernel
theorem dL_law_1300 : decode cL_law 1300 = .ok (.iadd, 1) := by decide +kernel
theorem dL_law_1301 : decode cL_law 1301 = .ok (.iaload, 1) := by decide +kernel
theorem dL_law_1302 : decode cL_law 1302 = .ok (.invokevirtual 167, 3) := by decide +kernel
theorem dL_law_1305 : decode cL_law 1305 = .ok (.if_icmp .eq 65, 3) := by decide +kernel
theorem dL_law_1308 : decode cL_law 1308 = .ok (.iconst 0, 1) := by decide +kernel
theorem dL_law_1309 : decode cL_law 1309 = .ok (.ireturn, 1) := by decide +kernel
theorem dL_law_1310 : decode cL_law 1310 = .ok (.aload_n 1, 1) := by decide +kernel
theorem dL_law_1311 : decode cL_law 1311 = .ok (.aload_n 0, 1) := by decide +kernel
theorem dL_law_1312 : decode cL_law 1312 = .ok (.iload_n 3, 1) := by decide +kernel
theorem dL_law_1313 : decode cL_law 1313 = .ok (.iconst 1, 1) := by decide +kernel
theorem dL_law_1314 : decode cL_law 1314 = .ok (.iadd, 1) := by decide +kernel
theorem dL_law_1315 : decode cL_law 1315 = .ok (.iaload, 1) := by decide +kernel
theorem dL_law_1316 : decode cL_law 1316 = .ok (.invokevirtual 168, 3) := by decide +kernel
theorem dL_law_1319 : decode cL_law 1319 = .ok (.aload_n 2, 1) := by decide +kernel
theorem dL_law_1320 : decode cL_law 1320 = .ok (.aload_n 0, 1) := by decide +kernel
theorem dL_law_1321 : decode cL_law 1321 = .ok (.iload_n 3, 1) := by decide +kernel
theorem dL_law_1322 : decode cL_law 1322 = .ok (.iconst 1, 1) := by decide +kernel
theorem dL_law_1323 : decode cL_law 1323 = .ok (.iadd, 1) := by decide +kernel
theorem dL_law_1324 : decode cL_law 1324 = .ok (.iaload, 1) := by decide +kernel
theorem dL_law_1325 : decode cL_law 1325 = .ok (.invokevirtual 171, 3) := by decide +kernel
theorem dL_law_1328 : decode cL_law 1328 = .ok (.if_icmp .eq 42, 3) := by decide +kernel
theorem dL_law_1331 : decode cL_law 1331 = .ok (.iconst 0, 1) := by decide +kernel
theorem dL_law_1332 : decode cL_law 1332 = .ok (.ireturn, 1) := by decide +kernel
theorem dL_law_1333 : decode cL_law 1333 = .ok (.aload_n 1, 1) := by decide +kernel
theorem dL_law_1334 : decode cL_law 1334 = .ok (.aload_n 0, 1) := by decide +kernel
theorem dL_law_1335 : decode cL_law 1335 = .ok (.iload_n 3, 1) := by decide +kernel
theorem dL_law_1336 : decode cL_law 1336 = .ok (.iconst 1, 1) := by decide +kernel
theorem dL_law_1337 : decode cL_law 1337 = .ok (.iadd, 1) := by decide +kernel
theorem dL_law_1338 : decode cL_law 1338 = .ok (.iaload, 1) := by decide +kernel
theorem dL_law_1339 : decode cL_law 1339 = .ok (.invokevirtual 172, 3) := by decide +kernel
theorem dL_law_1342 : decode cL_law 1342 = .ok (.aload_n 2, 1) := by decide +kernel
theorem dL_law_1343 : decode cL_law 1343 = .ok (.aload_n 0, 1) := by decide +kernel
theorem dL_law_1344 : decode cL_law 1344 = .ok (.iload_n 3, 1) := by decide +kernel
theorem dL_law_1345 : decode cL_law 1345 = .ok (.iconst 1, 1) := by decide +kernel
theorem dL_law_1346 : decode cL_law 1346 = .ok (.iadd, 1) := by decide +kernel
theorem dL_law_1347 : decode cL_law 1347 = .ok (.iaload, 1) := by decide +kernel
theorem dL_law_1348 : decode cL_law 1348 = .ok (.invokevirtual 175, 3) := by decide +kernel
theorem dL_law_1351 : decode cL_law 1351 = .ok (.if_icmp .eq 19, 3) := by decide +kernel
theorem dL_law_1354 : decode cL_law 1354 = .ok (.iconst 0, 1) := by decide +kernel
theorem dL_law_1355 : decode cL_law 1355 = .ok (.ireturn, 1) := by decide +kernel
theorem dL_law_1356 : decode cL_law 1356 = .ok (.aload_n 1, 1) := by decide +kernel
theorem dL_law_1357 : decode cL_law 1357 = .ok (.invokevirtual 176, 3) := by decide +kernel
theorem dL_law_1360 : decode cL_law 1360 = .ok (.aload_n 2, 1) := by decide +kernel
theorem dL_law_1361 : decode cL_law 1361 = .ok (.invokevirtual 180, 3) := by decide +kernel
theorem dL_law_1364 : decode cL_law 1364 = .ok (.lcmp, 1) := by decide +kernel
theorem dL_law_1365 : decode cL_law 1365 = .ok (.ifCond .eq 5, 3) := by decide +kernel
theorem dL_law_1368 : decode cL_law 1368 = .ok (.iconst 0, 1) := by decide +kernel
theorem dL_law_1369 : decode cL_law 1369 = .ok (.ireturn, 1) := by decide +kernel
theorem dL_law_1370 : decode cL_law 1370 = .ok (.iinc 3 6, 3) := by decide +kernel
theorem dL_law_1373 : decode cL_law 1373 = .ok (.goto (-1355), 3) := by decide +kernel
theorem dL_law_1376 : decode cL_law 1376 = .ok (.iconst 1, 1) := by decide +kernel
theorem dL_law_1377 : decode cL_law 1377 = .ok (.ireturn, 1) := by decide +kernel
