theorem dX3_candidates_31 : decode cX3_candidates 31 = .ok (.getfield 74, 3) := by decide +kernel
theorem dX3_candidates_34 : decode cX3_candidates 34 = .ok (.if_icmp .ge 31, 3) := by decide +kernel
theorem dX3_candidates_37 : decode cX3_candidates 37 = .ok (.iload 4, 2) := by decide +kernel
theorem dX3_candidates_39 : decode cX3_candidates 39 = .ok (.iload_n 1, 1) := by decide +kernel
theorem dX3_candidates_40 : decode cX3_candidates 40 = .ok (.if_icmp .eq 19, 3) := by decide +kernel
theorem dX3_candidates_43 : decode cX3_candidates 43 = .ok (.iload_n 3, 1) := by decide +kernel
theorem dX3_candidates_44 : decode cX3_candidates 44 = .ok (.aload_n 0, 1) := by decide +kernel
theorem dX3_candidates_45 : decode cX3_candidates 45 = .ok (.iload_n 1, 1) := by decide +kernel
theorem dX3_candidates_46 : decode cX3_candidates 46 = .ok (.iload 4, 2) := by decide +kernel
theorem dX3_candidates_48 : decode cX3_candidates 48 = .ok (.invokevirtual 127, 3) := by decide +kernel
theorem dX3_candidates_51 : decode cX3_candidates 51 = .ok (.iload_n 2, 1) := by decide +kernel
theorem dX3_candidates_52 : decode cX3_candidates 52 = .ok (.invokevirtual 140, 3) := by decide +kernel
theorem dX3_candidates_55 : decode cX3_candidates 55 = .ok (.invokestatic 168, 3) := by decide +kernel
theorem dX3_candidates_58 : decode cX3_candidates 58 = .ok (.istore_n 3, 1) := by decide +kernel
theorem dX3_candidates_59 : decode cX3_candidates 59 = .ok (.iinc 4 1, 3) := by decide +kernel
theorem dX3_candidates_62 : decode cX3_candidates 62 = .ok (.goto (-37), 3) := by decide +kernel
theorem dX3_candidates_65 : decode cX3_candidates 65 = .ok (.iconst 0, 1) := by decide +kernel
theorem dX3_candidates_66 : decode cX3_candidates 66 = .ok (.istore 4, 2) := by decide +kernel
theorem dX3_candidates_68 : decode cX3_candidates 68 = .ok (.iconst 0, 1) := by decide +kernel
theorem dX3_candidates_69 : decode cX3_candidates 69 = .ok (.istore 5, 2) := by decide +kernel
theorem dX3_candidates_71 : decode cX3_candidates 71 = .ok (.iload 5, 2) := by decide +kernel
theorem dX3_candidates_73 : decode cX3_candidates 73 = .ok (.aload_n 0, 1) := by decide +kernel
theorem dX3_candidates_74 : decode cX3_candidates 74 = .ok (.getfield 10, 3) := by decide +kernel
theorem dX3_candidates_77 : decode cX3_candidates 77 = .ok (.getfield 74, 3) := by decide +kernel
theorem dX3_candidates_80 : decode cX3_candidates 80 = .ok (.if_icmp .ge 39, 3) := by decide +kernel
theorem dX3_candidates_83 : decode cX3_candidates 83 = .ok (.iload 5, 2) := by decide +kernel
theorem dX3_candidates_85 : decode cX3_candidates 85 = .ok (.iload_n 1, 1) := by decide +kernel
theorem dX3_candidates_86 : decode cX3_candidates 86 = .ok (.if_icmp .eq 27, 3) := by decide +kernel
theorem dX3_candidates_89 : decode cX3_candidates 89 = .ok (.aload_n 0, 1) := by decide +kernel
theorem dX3_candidates_90 : decode cX3_candidates 90 = .ok (.iload_n 1, 1) := by decide +kernel
theorem dX3_candidates_91 : decode cX3_candidates 91 = .ok (.iload 5, 2) := by decide +kernel
theorem dX3_candidates_93 : decode cX3_candidates 93 = .ok (.invokevirtual 127, 3) := by decide +kernel
theorem dX3_candidates_96 : decode cX3_candidates 96 = .ok (.iload_n 2, 1) := by decide +kernel
theorem dX3_candidates_97 : decode cX3_candidates 97 = .ok (.invokevirtual 143, 3) := by decide +kernel
theorem dX3_candidates_100 : decode cX3_candidates 100 = .ok (.iload_n 3, 1) := by decide +kernel
theorem dX3_candidates_101 : decode cX3_candidates 101 = .ok (.if_icmp .lt 12, 3) := by decide +kernel
theorem dX3_candidates_104 : decode cX3_candidates 104 = .ok (.iload 4, 2) := by decide +kernel
theorem dX3_candidates_106 : decode cX3_candidates 106 = .ok (.iconst 1, 1) := by decide +kernel
theorem dX3_candidates_107 : decode cX3_candidates 107 = .ok (.iload 5, 2) := by decide +kernel
theorem dX3_candidates_109 : decode cX3_candidates 109 = .ok (.ishl, 1) := by decide +kernel
theorem dX3_candidates_110 : decode cX3_candidates 110 = .ok (.ior, 1) := by decide +kernel
theorem dX3_candidates_111 : decode cX3_candidates 111 = .ok (.istore 4, 2) := by decide +kernel
theorem dX3_candidates_113 : decode cX3_candidates 113 = .ok (.iinc 5 1, 3) := by decide +kernel
theorem dX3_candidates_116 : decode cX3_candidates 116 = .ok (.goto (-45), 3) := by decide +kernel
theorem dX3_candidates_119 : decode cX3_candidates 119 = .ok (.iload 4, 2) := by decide +kernel
theorem dX3_candidates_121 : decode cX3_candidates 121 = .ok (.ireturn, 1) := by decide +kernel
set_option maxRecDepth 20000 in
theorem ggX3_worst_X3_pairOf : GoodIn wsX3_worst wsX3_pairOf := goodIn_r _ [8, 9, 10, 11, 12, 7, 13, 14, 15, 1, 16, 17, 18, 19, 20, 21, 22, 23, 24, 25, 26, 27, 28, 29, 30, 31, 32, 33, 34, 35, 36, 37, 38, 39, 40, 41, 42, 43, 44, 45, 46, 47, 48, 49, 50, 51, 52, 53, 54, 55, 56, 57, 58, 59, 92, 93, 94, 95, 96, 97, 98, 99, 100, 101, 102, 107, 108, 109, 110, 103, 104, 105, 106, 111, 112, 113, 114, 115, 116, 117] (by decide +kernel) (by decide +kernel)
set_option maxRecDepth 20000 in
theorem gX3_worst_X3_pairOf : GoodIn wsX3_worst (wsV RX3 127 RX3 yX3_pairOf wsX3_pairOf) := goodIn_app (goodIn_of _ (by decide +kernel)) ggX3_worst_X3_pairOf
set_option maxRecDepth 20000 in
theorem ggX3_worst_X0_errorOfTold : GoodIn wsX3_worst wsX0_errorOfTold := goodIn_r _ [63, 64, 65, 66, 67, 68, 69, 70, 48, 71, 72, 73, 74, 75, 58, 76, 77, 78, 79, 53, 80, 81, 82, 83, 84, 85, 86, 7, 87, 88, 89, 90, 91, 54, 111, 112, 113, 114, 115, 116, 117] (by decide +kernel) (by decide +kernel)
set_option maxRecDepth 20000 in
theorem gX3_worst_X0_errorOfTold : GoodIn wsX3_worst (wsV RX3 173 RX0 yX0_errorOfTold wsX0_errorOfTold) := goodIn_app (goodIn_of _ (by decide +kernel)) ggX3_worst_X0_errorOfTold
theorem dX3_worst_0 : decode cX3_worst 0 = .ok (.iload_n 1, 1) := by decide +kernel
theorem dX3_worst_1 : decode cX3_worst 1 = .ok (.ifCond .lt 8, 3) := by decide +kernel
theorem dX3_worst_4 : decode cX3_worst 4 = .ok (.iload_n 1, 1) := by decide +kernel
theorem dX3_worst_5 : decode cX3_worst 5 = .ok (.iconst 2, 1) := by decide +kernel
theorem dX3_worst_6 : decode cX3_worst 6 = .ok (.if_icmp .le 6, 3) := by decide +kernel
theorem dX3_worst_9 : decode cX3_worst 9 = .ok (.bipush (-2), 2) := by decide +kernel
theorem dX3_worst_11 : decode cX3_worst 11 = .ok (.ireturn, 1) := by decide +kernel
theorem dX3_worst_12 : decode cX3_worst 12 = .ok (.bipush (-6), 2) := by decide +kernel
theorem dX3_worst_14 : decode cX3_worst 14 = .ok (.istore_n 2, 1) := by decide +kernel
theorem dX3_worst_15 : decode cX3_worst 15 = .ok (.bipush (-6), 2) := by decide +kernel
theorem dX3_worst_17 : decode cX3_worst 17 = .ok (.istore_n 3, 1) := by decide +kernel
theorem dX3_worst_18 : decode cX3_worst 18 = .ok (.bipush (-6), 2) := by decide +kernel
theorem dX3_worst_20 : decode cX3_worst 20 = .ok (.istore 4, 2) := by decide +kernel
theorem dX3_worst_22 : decode cX3_worst 22 = .ok (.iconst 0, 1) := by decide +kernel
theorem dX3_worst_23 : decode cX3_worst 23 = .ok (.istore 5, 2) := by decide +kernel
theorem dX3_worst_25 : decode cX3_worst 25 = .ok (.iload 5, 2) := by decide +kernel
theorem dX3_worst_27 : decode cX3_worst 27 = .ok (.aload_n 0, 1) := by decide +kernel
theorem dX3_worst_28 : decode cX3_worst 28 = .ok (.getfield 10, 3) := by decide +kernel
theorem dX3_worst_31 : decode cX3_worst 31 = .ok (.getfield 74, 3) := by decide +kernel
theorem dX3_worst_34 : decode cX3_worst 34 = .ok (.if_icmp .ge 72, 3) := by decide +kernel
theorem dX3_worst_37 : decode cX3_worst 37 = .ok (.iload 5, 2) := by decide +kernel
theorem dX3_worst_39 : decode cX3_worst 39 = .ok (.iconst 1, 1) := by decide +kernel
theorem dX3_worst_40 : decode cX3_worst 40 = .ok (.iadd, 1) := by decide +kernel
theorem dX3_worst_41 : decode cX3_worst 41 = .ok (.istore 6, 2) := by decide +kernel
theorem dX3_worst_43 : decode cX3_worst 43 = .ok (.iload 6, 2) := by decide +kernel
theorem dX3_worst_45 : decode cX3_worst 45 = .ok (.aload_n 0, 1) := by decide +kernel
theorem dX3_worst_46 : decode cX3_worst 46 = .ok (.getfield 10, 3) := by decide +kernel
theorem dX3_worst_49 : decode cX3_worst 49 = .ok (.getfield 74, 3) := by decide +kernel
theorem dX3_worst_52 : decode cX3_worst 52 = .ok (.if_icmp .ge 48, 3) := by decide +kernel
theorem dX3_worst_55 : decode cX3_worst 55 = .ok (.aload_n 0, 1) := by decide +kernel
theorem dX3_worst_56 : decode cX3_worst 56 = .ok (.iload 5, 2) := by decide +kernel
theorem dX3_worst_58 : decode cX3_worst 58 = .ok (.iload 6, 2) := by decide +kernel
theorem dX3_worst_60 : decode cX3_worst 60 = .ok (.invokevirtual 127, 3) := by decide +kernel
theorem dX3_worst_63 : decode cX3_worst 63 = .ok (.aload_n 0, 1) := by decide +kernel
theorem dX3_worst_64 : decode cX3_worst 64 = .ok (.getfield 10, 3) := by decide +kernel
theorem dX3_worst_67 : decode cX3_worst 67 = .ok (.getfield 67, 3) := by decide +kernel
theorem dX3_worst_70 : decode cX3_worst 70 = .ok (.iconst 1, 1) := by decide +kernel
theorem dX3_worst_71 : decode cX3_worst 71 = .ok (.iaload, 1) := by decide +kernel
theorem dX3_worst_72 : decode cX3_worst 72 = .ok (.invokevirtual 173, 3) := by decide +kernel
theorem dX3_worst_75 : decode cX3_worst 75 = .ok (.istore 7, 2) := by decide +kernel
theorem dX3_worst_77 : decode cX3_worst 77 = .ok (.iload 7, 2) := by decide +kernel
theorem dX3_worst_79 : decode cX3_worst 79 = .ok (.iload 4, 2) := by decide +kernel
theorem dX3_worst_81 : decode cX3_worst 81 = .ok (.if_icmp .le 13, 3) := by decide +kernel
theorem dX3_worst_84 : decode cX3_worst 84 = .ok (.iload 5, 2) := by decide +kernel
theorem dX3_worst_86 : decode cX3_worst 86 = .ok (.istore_n 2, 1) := by decide +kernel
theorem dX3_worst_87 : decode cX3_worst 87 = .ok (.iload 6, 2) := by decide +kernel
theorem dX3_worst_89 : decode cX3_worst 89 = .ok (.istore_n 3, 1) := by decide +kernel
theorem dX3_worst_90 : decode cX3_worst 90 = .ok (.iload 7, 2) := by decide +kernel
theorem dX3_worst_92 : decode cX3_worst 92 = .ok (.istore 4, 2) := by decide +kernel
theorem dX3_worst_94 : decode cX3_worst 94 = .ok (.iinc 6 1, 3) := by decide +kernel
theorem dX3_worst_97 : decode cX3_worst 97 = .ok (.goto (-54), 3) := by decide +kernel
theorem dX3_worst_100 : decode cX3_worst 100 = .ok (.iinc 5 1, 3) := by decide +kernel
theorem dX3_worst_103 : decode cX3_worst 103 = .ok (.goto (-78), 3) := by decide +kernel
theorem dX3_worst_106 : decode cX3_worst 106 = .ok (.iload_n 1, 1) := by decide +kernel
theorem dX3_worst_107 : decode cX3_worst 107 = .ok (.ifCond .ne 7, 3) := by decide +kernel
theorem dX3_worst_110 : decode cX3_worst 110 = .ok (.iload_n 2, 1) := by decide +kernel
theorem dX3_worst_111 : decode cX3_worst 111 = .ok (.goto 14, 3) := by decide +kernel
theorem dX3_worst_114 : decode cX3_worst 114 = .ok (.iload_n 1, 1) := by decide +kernel
theorem dX3_worst_115 : decode cX3_worst 115 = .ok (.iconst 1, 1) := by decide +kernel
theorem dX3_worst_116 : decode cX3_worst 116 = .ok (.if_icmp .ne 7, 3) := by decide +kernel
theorem dX3_worst_119 : decode cX3_worst 119 = .ok (.iload_n 3, 1) := by decide +kernel
theorem dX3_worst_120 : decode cX3_worst 120 = .ok (.goto 5, 3) := by decide +kernel
theorem dX3_worst_123 : decode cX3_worst 123 = .ok (.iload 4, 2) := by decide +kernel
theorem dX3_worst_125 : decode cX3_worst 125 = .ok (.ireturn, 1) := by decide +kernel
set_option maxRecDepth 20000 in
theorem ggX3_bestKept_X3_pairOf : GoodIn wsX3_bestKept wsX3_pairOf := goodIn_r _ [7, 8, 9, 10, 11, 6, 12, 13, 14, 1, 15, 16, 17, 18, 19, 20, 21, 22, 23, 24, 25, 26, 27, 28, 29, 30, 31, 32, 33, 34, 35, 36, 37, 38, 39, 40, 41, 42, 43, 44, 45, 46, 47, 48, 49, 50, 51, 52, 53, 54, 55, 56, 57, 58, 94, 95, 96, 97, 98, 99, 100, 101, 102, 103, 104, 109, 110, 111, 112, 105, 106, 107, 108, 113, 114, 115, 116, 117, 118, 119] (by decide +kernel) (by decide +kernel)
set_option maxRecDepth 20000 in
theorem gX3_bestKept_X3_pairOf : GoodIn wsX3_bestKept (wsV RX3 127 RX3 yX3_pairOf wsX3_pairOf) := goodIn_app (goodIn_of _ (by decide +kernel)) ggX3_bestKept_X3_pairOf
set_option maxRecDepth 20000 in
theorem ggX3_bestKept_X3_keptBeyond : GoodIn wsX3_bestKept wsX3_keptBeyond := goodIn_r _ [61, 62, 63, 64, 47, 65, 66, 67, 68, 69, 70, 71, 72, 73, 74, 75, 76, 77, 57, 78, 79, 80, 81, 52, 82, 83, 84, 85, 86, 87, 88, 6, 89, 90, 91, 92, 93, 53, 113, 114, 115, 116, 117, 118, 119] (by decide +kernel) (by decide +kernel)
set_option maxRecDepth 20000 in
theorem gX3_bestKept_X3_keptBeyond : GoodIn wsX3_bestKept (va_wsS RX3 176 yX3_keptBeyond wsX3_keptBeyond) := goodIn_app (goodIn_of _ (by decide +kernel)) ggX3_bestKept_X3_keptBeyond
theorem dX3_bestKept_0 : decode cX3_bestKept 0 = .ok (.iload_n 1, 1) := by decide +kernel
theorem dX3_bestKept_1 : decode cX3_bestKept 1 = .ok (.ifCond .lt 10, 3) := by decide +kernel
theorem dX3_bestKept_4 : decode cX3_bestKept 4 = .ok (.iload_n 1, 1) := by decide +kernel
theorem dX3_bestKept_5 : decode cX3_bestKept 5 = .ok (.sipush 10000, 3) := by decide +kernel
theorem dX3_bestKept_8 : decode cX3_bestKept 8 = .ok (.if_icmp .le 6, 3) := by decide +kernel
theorem dX3_bestKept_11 : decode cX3_bestKept 11 = .ok (.bipush (-2), 2) := by decide +kernel
theorem dX3_bestKept_13 : decode cX3_bestKept 13 = .ok (.ireturn, 1) := by decide +kernel
theorem dX3_bestKept_14 : decode cX3_bestKept 14 = .ok (.lconst 0, 1) := by decide +kernel
theorem dX3_bestKept_15 : decode cX3_bestKept 15 = .ok (.lstore_n 2, 1) := by decide +kernel
theorem dX3_bestKept_16 : decode cX3_bestKept 16 = .ok (.iconst 0, 1) := by decide +kernel
theorem dX3_bestKept_17 : decode cX3_bestKept 17 = .ok (.istore 4, 2) := by decide +kernel
theorem dX3_bestKept_19 : decode cX3_bestKept 19 = .ok (.iload 4, 2) := by decide +kernel
theorem dX3_bestKept_21 : decode cX3_bestKept 21 = .ok (.aload_n 0, 1) := by decide +kernel
theorem dX3_bestKept_22 : decode cX3_bestKept 22 = .ok (.getfield 10, 3) := by decide +kernel
theorem dX3_bestKept_25 : decode cX3_bestKept 25 = .ok (.getfield 74, 3) := by decide +kernel
theorem dX3_bestKept_28 : decode cX3_bestKept 28 = .ok (.if_icmp .ge 48, 3) := by decide +kernel
theorem dX3_bestKept_31 : decode cX3_bestKept 31 = .ok (.iload 4, 2) := by decide +kernel
theorem dX3_bestKept_33 : decode cX3_bestKept 33 = .ok (.iconst 1, 1) := by decide +kernel
theorem dX3_bestKept_34 : decode cX3_bestKept 34 = .ok (.iadd, 1) := by decide +kernel
theorem dX3_bestKept_35 : decode cX3_bestKept 35 = .ok (.istore 5, 2) := by decide +kernel
theorem dX3_bestKept_37 : decode cX3_bestKept 37 = .ok (.iload 5, 2) := by decide +kernel
theorem dX3_bestKept_39 : decode cX3_bestKept 39 = .ok (.aload_n 0, 1) := by decide +kernel
theorem dX3_bestKept_40 : decode cX3_bestKept 40 = .ok (.getfield 10, 3) := by decide +kernel
theorem dX3_bestKept_43 : decode cX3_bestKept 43 = .ok (.getfield 74, 3) := by decide +kernel
theorem dX3_bestKept_46 : decode cX3_bestKept 46 = .ok (.if_icmp .ge 24, 3) := by decide +kernel
theorem dX3_bestKept_49 : decode cX3_bestKept 49 = .ok (.lload_n 2, 1) := by decide +kernel
theorem dX3_bestKept_50 : decode cX3_bestKept 50 = .ok (.aload_n 0, 1) := by decide +kernel
theorem dX3_bestKept_51 : decode cX3_bestKept 51 = .ok (.iload 4, 2) := by decide +kernel
theorem dX3_bestKept_53 : decode cX3_bestKept 53 = .ok (.iload 5, 2) := by decide +kernel
theorem dX3_bestKept_55 : decode cX3_bestKept 55 = .ok (.invokevirtual 127, 3) := by decide +kernel
theorem dX3_bestKept_58 : decode cX3_bestKept 58 = .ok (.iload_n 1, 1) := by decide +kernel
theorem dX3_bestKept_59 : decode cX3_bestKept 59 = .ok (.invokestatic 176, 3) := by decide +kernel
theorem dX3_bestKept_62 : decode cX3_bestKept 62 = .ok (.lor, 1) := by decide +kernel
theorem dX3_bestKept_63 : decode cX3_bestKept 63 = .ok (.lstore_n 2, 1) := by decide +kernel
theorem dX3_bestKept_64 : decode cX3_bestKept 64 = .ok (.iinc 5 1, 3) := by decide +kernel
theorem dX3_bestKept_67 : decode cX3_bestKept 67 = .ok (.goto (-30), 3) := by decide +kernel
theorem dX3_bestKept_70 : decode cX3_bestKept 70 = .ok (.iinc 4 1, 3) := by decide +kernel
theorem dX3_bestKept_73 : decode cX3_bestKept 73 = .ok (.goto (-54), 3) := by decide +kernel
theorem dX3_bestKept_76 : decode cX3_bestKept 76 = .ok (.iconst 1, 1) := by decide +kernel
theorem dX3_bestKept_77 : decode cX3_bestKept 77 = .ok (.istore 4, 2) := by decide +kernel
theorem dX3_bestKept_79 : decode cX3_bestKept 79 = .ok (.iload 4, 2) := by decide +kernel
theorem dX3_bestKept_81 : decode cX3_bestKept 81 = .ok (.bipush 32, 2) := by decide +kernel
theorem dX3_bestKept_83 : decode cX3_bestKept 83 = .ok (.if_icmp .gt 23, 3) := by decide +kernel
theorem dX3_bestKept_86 : decode cX3_bestKept 86 = .ok (.lload_n 2, 1) := by decide +kernel
theorem dX3_bestKept_87 : decode cX3_bestKept 87 = .ok (.lconst 1, 1) := by decide +kernel
theorem dX3_bestKept_88 : decode cX3_bestKept 88 = .ok (.iload 4, 2) := by decide +kernel
theorem dX3_bestKept_90 : decode cX3_bestKept 90 = .ok (.lshl, 1) := by decide +kernel
theorem dX3_bestKept_91 : decode cX3_bestKept 91 = .ok (.land, 1) := by decide +kernel
theorem dX3_bestKept_92 : decode cX3_bestKept 92 = .ok (.lconst 0, 1) := by decide +kernel
theorem dX3_bestKept_93 : decode cX3_bestKept 93 = .ok (.lcmp, 1) := by decide +kernel
theorem dX3_bestKept_94 : decode cX3_bestKept 94 = .ok (.ifCond .ne 6, 3) := by decide +kernel
theorem dX3_bestKept_97 : decode cX3_bestKept 97 = .ok (.iload 4, 2) := by decide +kernel
theorem dX3_bestKept_99 : decode cX3_bestKept 99 = .ok (.ireturn, 1) := by decide +kernel
theorem dX3_bestKept_100 : decode cX3_bestKept 100 = .ok (.iinc 4 1, 3) := by decide +kernel
theorem dX3_bestKept_103 : decode cX3_bestKept 103 = .ok (.goto (-24), 3) := by decide +kernel
theorem dX3_bestKept_106 : decode cX3_bestKept 106 = .ok (.bipush (-6), 2) := by decide +kernel
theorem dX3_bestKept_108 : decode cX3_bestKept 108 = .ok (.ireturn, 1) := by decide +kernel
set_option maxRecDepth 20000 in
theorem ggX3_group_X3_noRow : GoodIn wsX3_group wsX3_noRow := goodIn_r _ [7, 1, 2, 92, 93, 94, 95, 96, 97, 98, 99, 100, 101, 102, 103, 104, 105, 106] (by decide +kernel) (by decide +kernel)
set_option maxRecDepth 20000 in
theorem gX3_group_X3_noRow : GoodIn wsX3_group (wsV RX3 84 RX3 yX3_noRow wsX3_noRow) := goodIn_app (goodIn_of _ (by decide +kernel)) ggX3_group_X3_noRow
set_option maxRecDepth 20000 in
theorem ggX3_group_X3_lowestIn : GoodIn wsX3_group wsX3_lowestIn := goodIn_r _ [10] (by decide +kernel) (by decide +kernel)
set_option maxRecDepth 20000 in
theorem gX3_group_X3_lowestIn : GoodIn wsX3_group (va_wsS RX3 180 yX3_lowestIn wsX3_lowestIn) := goodIn_app (goodIn_of _ (by decide +kernel)) ggX3_group_X3_lowestIn
set_option maxRecDepth 20000 in
theorem ggX3_group_X3_toldAtLeast : GoodIn wsX3_group wsX3_toldAtLeast := goodIn_r _ [14, 1, 2, 15, 16, 17, 18, 6, 19, 20, 21, 22, 23, 24, 25, 26, 27, 28, 29, 30, 31, 32, 33, 34, 35, 36, 37, 38, 39, 40, 41, 42, 43, 44, 45, 46, 47, 48, 49, 50, 51, 52, 53, 54, 55, 56, 57, 58, 59, 60, 61, 62, 63, 64, 65, 66, 67, 68, 69, 70, 71, 72, 73, 74, 75, 76, 77, 78, 79, 80, 81, 82, 83, 84, 85, 86, 87, 88, 89, 90, 91, 92, 93, 94, 95, 96, 97, 98, 99, 100, 101, 102, 103, 104, 105, 106, 107, 108, 109, 110, 111, 112, 113, 114, 115, 116, 117] (by decide +kernel) (by decide +kernel)
set_option maxRecDepth 20000 in
theorem gX3_group_X3_toldAtLeast : GoodIn wsX3_group (wsV RX3 183 RX3 yX3_toldAtLeast wsX3_toldAtLeast) := goodIn_app (goodIn_of _ (by decide +kernel)) ggX3_group_X3_toldAtLeast
theorem dX3_group_0 : decode cX3_group 0 = .ok (.aload_n 0, 1) := by decide +kernel
theorem dX3_group_1 : decode cX3_group 1 = .ok (.iload_n 1, 1) := by decide +kernel
theorem dX3_group_2 : decode cX3_group 2 = .ok (.invokevirtual 84, 3) := by decide +kernel
theorem dX3_group_5 : decode cX3_group 5 = .ok (.ifCond .eq 5, 3) := by decide +kernel
theorem dX3_group_8 : decode cX3_group 8 = .ok (.iconst (-1), 1) := by decide +kernel
theorem dX3_group_9 : decode cX3_group 9 = .ok (.ireturn, 1) := by decide +kernel
theorem dX3_group_10 : decode cX3_group 10 = .ok (.iload_n 2, 1) := by decide +kernel
theorem dX3_group_11 : decode cX3_group 11 = .ok (.ifCond .lt 10, 3) := by decide +kernel
theorem dX3_group_14 : decode cX3_group 14 = .ok (.iload_n 2, 1) := by decide +kernel
theorem dX3_group_15 : decode cX3_group 15 = .ok (.sipush 10000, 3) := by decide +kernel
theorem dX3_group_18 : decode cX3_group 18 = .ok (.if_icmp .le 6, 3) := by decide +kernel
theorem dX3_group_21 : decode cX3_group 21 = .ok (.bipush (-2), 2) := by decide +kernel
theorem dX3_group_23 : decode cX3_group 23 = .ok (.ireturn, 1) := by decide +kernel
theorem dX3_group_24 : decode cX3_group 24 = .ok (.iconst 1, 1) := by decide +kernel
theorem dX3_group_25 : decode cX3_group 25 = .ok (.iload_n 1, 1) := by decide +kernel
theorem dX3_group_26 : decode cX3_group 26 = .ok (.ishl, 1) := by decide +kernel
theorem dX3_group_27 : decode cX3_group 27 = .ok (.istore_n 3, 1) := by decide +kernel
theorem dX3_group_28 : decode cX3_group 28 = .ok (.iconst 0, 1) := by decide +kernel
theorem dX3_group_29 : decode cX3_group 29 = .ok (.istore 4, 2) := by decide +kernel
theorem dX3_group_31 : decode cX3_group 31 = .ok (.iconst 0, 1) := by decide +kernel
theorem dX3_group_32 : decode cX3_group 32 = .ok (.istore 5, 2) := by decide +kernel
theorem dX3_group_34 : decode cX3_group 34 = .ok (.iload 5, 2) := by decide +kernel
theorem dX3_group_36 : decode cX3_group 36 = .ok (.aload_n 0, 1) := by decide +kernel
theorem dX3_group_37 : decode cX3_group 37 = .ok (.getfield 10, 3) := by decide +kernel
theorem dX3_group_40 : decode cX3_group 40 = .ok (.getfield 74, 3) := by decide +kernel
theorem dX3_group_43 : decode cX3_group 43 = .ok (.if_icmp .ge 45, 3) := by decide +kernel
theorem dX3_group_46 : decode cX3_group 46 = .ok (.iload_n 3, 1) := by decide +kernel
theorem dX3_group_47 : decode cX3_group 47 = .ok (.iload 4, 2) := by decide +kernel
theorem dX3_group_49 : decode cX3_group 49 = .ok (.if_icmp .eq 39, 3) := by decide +kernel
theorem dX3_group_52 : decode cX3_group 52 = .ok (.iload_n 3, 1) := by decide +kernel
theorem dX3_group_53 : decode cX3_group 53 = .ok (.iload 4, 2) := by decide +kernel
theorem dX3_group_55 : decode cX3_group 55 = .ok (.iconst (-1), 1) := by decide +kernel
theorem dX3_group_56 : decode cX3_group 56 = .ok (.ixor, 1) := by decide +kernel
theorem dX3_group_57 : decode cX3_group 57 = .ok (.iand, 1) := by decide +kernel
theorem dX3_group_58 : decode cX3_group 58 = .ok (.invokestatic 180, 3) := by decide +kernel
theorem dX3_group_61 : decode cX3_group 61 = .ok (.istore 6, 2) := by decide +kernel
theorem dX3_group_63 : decode cX3_group 63 = .ok (.iload 4, 2) := by decide +kernel
theorem dX3_group_65 : decode cX3_group 65 = .ok (.iconst 1, 1) := by decide +kernel
theorem dX3_group_66 : decode cX3_group 66 = .ok (.iload 6, 2) := by decide +kernel
theorem dX3_group_68 : decode cX3_group 68 = .ok (.ishl, 1) := by decide +kernel
theorem dX3_group_69 : decode cX3_group 69 = .ok (.ior, 1) := by decide +kernel
theorem dX3_group_70 : decode cX3_group 70 = .ok (.istore 4, 2) := by decide +kernel
theorem dX3_group_72 : decode cX3_group 72 = .ok (.iload_n 3, 1) := by decide +kernel
theorem dX3_group_73 : decode cX3_group 73 = .ok (.aload_n 0, 1) := by decide +kernel
theorem dX3_group_74 : decode cX3_group 74 = .ok (.iload 6, 2) := by decide +kernel
theorem dX3_group_76 : decode cX3_group 76 = .ok (.iload_n 2, 1) := by decide +kernel
theorem dX3_group_77 : decode cX3_group 77 = .ok (.invokevirtual 183, 3) := by decide +kernel
theorem dX3_group_80 : decode cX3_group 80 = .ok (.ior, 1) := by decide +kernel
theorem dX3_group_81 : decode cX3_group 81 = .ok (.istore_n 3, 1) := by decide +kernel
theorem dX3_group_82 : decode cX3_group 82 = .ok (.iinc 5 1, 3) := by decide +kernel
theorem dX3_group_85 : decode cX3_group 85 = .ok (.goto (-51), 3) := by decide +kernel
theorem dX3_group_88 : decode cX3_group 88 = .ok (.iload_n 3, 1) := by decide +kernel
theorem dX3_group_89 : decode cX3_group 89 = .ok (.invokestatic 180, 3) := by decide +kernel
theorem dX3_group_92 : decode cX3_group 92 = .ok (.ireturn, 1) := by decide +kernel
set_option maxRecDepth 20000 in
theorem ggX3_put_X3_charactersIn : GoodIn wsX3_put wsX3_charactersIn := goodIn_r _ [6, 7, 8, 5, 9, 10] (by decide +kernel) (by decide +kernel)
set_option maxRecDepth 20000 in
theorem gX3_put_X3_charactersIn : GoodIn wsX3_put (va_wsS RX3 186 yX3_charactersIn wsX3_charactersIn) := goodIn_app (goodIn_of _ (by decide +kernel)) ggX3_put_X3_charactersIn
set_option maxRecDepth 20000 in
theorem ggX3_put_X3_codeIn : GoodIn wsX3_put wsX3_codeIn := goodIn_r _ [9, 10] (by decide +kernel) (by decide +kernel)
set_option maxRecDepth 20000 in
theorem gX3_put_X3_codeIn : GoodIn wsX3_put (va_wsS RX3 190 yX3_codeIn wsX3_codeIn) := goodIn_app (goodIn_of _ (by decide +kernel)) ggX3_put_X3_codeIn
theorem dX3_put_0 : decode cX3_put 0 = .ok (.lload_n 1, 1) := by decide +kernel
theorem dX3_put_1 : decode cX3_put 1 = .ok (.invokestatic 186, 3) := by decide +kernel
theorem dX3_put_4 : decode cX3_put 4 = .ok (.istore_n 3, 1) := by decide +kernel
theorem dX3_put_5 : decode cX3_put 5 = .ok (.iload_n 3, 1) := by decide +kernel
theorem dX3_put_6 : decode cX3_put 6 = .ok (.ifCond .ne 6, 3) := by decide +kernel
theorem dX3_put_9 : decode cX3_put 9 = .ok (.bipush (-2), 2) := by decide +kernel
theorem dX3_put_11 : decode cX3_put 11 = .ok (.ireturn, 1) := by decide +kernel
theorem dX3_put_12 : decode cX3_put 12 = .ok (.aload_n 0, 1) := by decide +kernel
theorem dX3_put_13 : decode cX3_put 13 = .ok (.getfield 35, 3) := by decide +kernel
theorem dX3_put_16 : decode cX3_put 16 = .ok (.iload_n 3, 1) := by decide +kernel
theorem dX3_put_17 : decode cX3_put 17 = .ok (.iadd, 1) := by decide +kernel
theorem dX3_put_18 : decode cX3_put 18 = .ok (.bipush 64, 2) := by decide +kernel
theorem dX3_put_20 : decode cX3_put 20 = .ok (.if_icmp .le 6, 3) := by decide +kernel
theorem dX3_put_23 : decode cX3_put 23 = .ok (.bipush (-4), 2) := by decide +kernel
theorem dX3_put_25 : decode cX3_put 25 = .ok (.ireturn, 1) := by decide +kernel
theorem dX3_put_26 : decode cX3_put 26 = .ok (.iconst 0, 1) := by decide +kernel
theorem dX3_put_27 : decode cX3_put 27 = .ok (.istore 4, 2) := by decide +kernel
theorem dX3_put_29 : decode cX3_put 29 = .ok (.iload 4, 2) := by decide +kernel
theorem dX3_put_31 : decode cX3_put 31 = .ok (.iload_n 3, 1) := by decide +kernel
theorem dX3_put_32 : decode cX3_put 32 = .ok (.if_icmp .ge 31, 3) := by decide +kernel
theorem dX3_put_35 : decode cX3_put 35 = .ok (.aload_n 0, 1) := by decide +kernel
theorem dX3_put_36 : decode cX3_put 36 = .ok (.getfield 31, 3) := by decide +kernel
theorem dX3_put_39 : decode cX3_put 39 = .ok (.aload_n 0, 1) := by decide +kernel
theorem dX3_put_40 : decode cX3_put 40 = .ok (.getfield 35, 3) := by decide +kernel
theorem dX3_put_43 : decode cX3_put 43 = .ok (.iload 4, 2) := by decide +kernel
theorem dX3_put_45 : decode cX3_put 45 = .ok (.iadd, 1) := by decide +kernel
theorem dX3_put_46 : decode cX3_put 46 = .ok (.lload_n 1, 1) := by decide +kernel
theorem dX3_put_47 : decode cX3_put 47 = .ok (.iload_n 3, 1) := by decide +kernel
theorem dX3_put_48 : decode cX3_put 48 = .ok (.iconst 1, 1) := by decide +kernel
theorem dX3_put_49 : decode cX3_put 49 = .ok (.isub, 1) := by decide +kernel
theorem dX3_put_50 : decode cX3_put 50 = .ok (.iload 4, 2) := by decide +kernel
theorem dX3_put_52 : decode cX3_put 52 = .ok (.isub, 1) := by decide +kernel
theorem dX3_put_53 : decode cX3_put 53 = .ok (.invokestatic 190, 3) := by decide +kernel
theorem dX3_put_56 : decode cX3_put 56 = .ok (.iastore, 1) := by decide +kernel
theorem dX3_put_57 : decode cX3_put 57 = .ok (.iinc 4 1, 3) := by decide +kernel
theorem dX3_put_60 : decode cX3_put 60 = .ok (.goto (-31), 3) := by decide +kernel
theorem dX3_put_63 : decode cX3_put 63 = .ok (.aload_n 0, 1) := by decide +kernel
theorem dX3_put_64 : decode cX3_put 64 = .ok (.dup, 1) := by decide +kernel
theorem dX3_put_65 : decode cX3_put 65 = .ok (.getfield 35, 3) := by decide +kernel
theorem dX3_put_68 : decode cX3_put 68 = .ok (.iload_n 3, 1) := by decide +kernel
theorem dX3_put_69 : decode cX3_put 69 = .ok (.iadd, 1) := by decide +kernel
theorem dX3_put_70 : decode cX3_put 70 = .ok (.putfield 35, 3) := by decide +kernel
theorem dX3_put_73 : decode cX3_put 73 = .ok (.aload_n 0, 1) := by decide +kernel
theorem dX3_put_74 : decode cX3_put 74 = .ok (.getfield 35, 3) := by decide +kernel
theorem dX3_put_77 : decode cX3_put 77 = .ok (.ireturn, 1) := by decide +kernel
theorem dX3_wipe_0 : decode cX3_wipe 0 = .ok (.aload_n 0, 1) := by decide +kernel
theorem dX3_wipe_1 : decode cX3_wipe 1 = .ok (.getfield 35, 3) := by decide +kernel
theorem dX3_wipe_4 : decode cX3_wipe 4 = .ok (.istore_n 1, 1) := by decide +kernel
theorem dX3_wipe_5 : decode cX3_wipe 5 = .ok (.aload_n 0, 1) := by decide +kernel
theorem dX3_wipe_6 : decode cX3_wipe 6 = .ok (.iconst 0, 1) := by decide +kernel
theorem dX3_wipe_7 : decode cX3_wipe 7 = .ok (.putfield 35, 3) := by decide +kernel
theorem dX3_wipe_10 : decode cX3_wipe 10 = .ok (.iload_n 1, 1) := by decide +kernel
theorem dX3_wipe_11 : decode cX3_wipe 11 = .ok (.ireturn, 1) := by decide +kernel
set_option maxRecDepth 20000 in
theorem ggX3_fault_X3_padFault : GoodIn wsX3_fault wsX3_padFault := goodIn_r _ [5, 6, 7, 8, 9, 4, 10, 11, 12, 13, 14, 15, 16, 17, 18, 19, 20, 21] (by decide +kernel) (by decide +kernel)
set_option maxRecDepth 20000 in
theorem gX3_fault_X3_padFault : GoodIn wsX3_fault (wsV RX3 70 RX3 yX3_padFault wsX3_padFault) := goodIn_app (goodIn_of _ (by decide +kernel)) ggX3_fault_X3_padFault
theorem dX3_fault_0 : decode cX3_fault 0 = .ok (.aload_n 0, 1) := by decide +kernel
theorem dX3_fault_1 : decode cX3_fault 1 = .ok (.invokevirtual 70, 3) := by decide +kernel
theorem dX3_fault_4 : decode cX3_fault 4 = .ok (.ireturn, 1) := by decide +kernel
set_option maxRecDepth 20000 in
theorem ggX3_undo_X1_copyFrom : GoodIn wsX3_undo wsX1_copyFrom := goodIn_r _ [8, 9, 10, 11, 12, 13, 14, 15, 16, 34, 35, 36, 37] (by decide +kernel) (by decide +kernel)
set_option maxRecDepth 20000 in
theorem gX3_undo_X1_copyFrom : GoodIn wsX3_undo (wsV RX3 194 RX1 yX1_copyFrom wsX1_copyFrom) := goodIn_app (goodIn_of _ (by decide +kernel)) ggX3_undo_X1_copyFrom
set_option maxRecDepth 20000 in
theorem ggX3_undo_X3_forgetWords : GoodIn wsX3_undo wsX3_forgetWords := goodIn_r _ [21, 22, 23, 24, 25, 26, 27, 28, 29, 30, 31, 32, 33] (by decide +kernel) (by decide +kernel)
set_option maxRecDepth 20000 in
theorem gX3_undo_X3_forgetWords : GoodIn wsX3_undo (wsV RX3 198 RX3 yX3_forgetWords wsX3_forgetWords) := goodIn_app (goodIn_of _ (by decide +kernel)) ggX3_undo_X3_forgetWords
theorem dX3_undo_0 : decode cX3_undo 0 = .ok (.aload_n 0, 1) := by decide +kernel
theorem dX3_undo_1 : decode cX3_undo 1 = .ok (.getfield 20, 3) := by decide +kernel
theorem dX3_undo_4 : decode cX3_undo 4 = .ok (.ifCond .gt 6, 3) := by decide +kernel
theorem dX3_undo_7 : decode cX3_undo 7 = .ok (.bipush (-5), 2) := by decide +kernel
theorem dX3_undo_9 : decode cX3_undo 9 = .ok (.ireturn, 1) := by decide +kernel
theorem dX3_undo_10 : decode cX3_undo 10 = .ok (.aload_n 0, 1) := by decide +kernel
theorem dX3_undo_11 : decode cX3_undo 11 = .ok (.dup, 1) := by decide +kernel
theorem dX3_undo_12 : decode cX3_undo 12 = .ok (.getfield 20, 3) := by decide +kernel
theorem dX3_undo_15 : decode cX3_undo 15 = .ok (.iconst 1, 1) := by decide +kernel
theorem dX3_undo_16 : decode cX3_undo 16 = .ok (.isub, 1) := by decide +kernel
theorem dX3_undo_17 : decode cX3_undo 17 = .ok (.putfield 20, 3) := by decide +kernel
theorem dX3_undo_20 : decode cX3_undo 20 = .ok (.aload_n 0, 1) := by decide +kernel
theorem dX3_undo_21 : decode cX3_undo 21 = .ok (.getfield 10, 3) := by decide +kernel
theorem dX3_undo_24 : decode cX3_undo 24 = .ok (.aload_n 0, 1) := by decide +kernel
theorem dX3_undo_25 : decode cX3_undo 25 = .ok (.getfield 16, 3) := by decide +kernel
theorem dX3_undo_28 : decode cX3_undo 28 = .ok (.aload_n 0, 1) := by decide +kernel
theorem dX3_undo_29 : decode cX3_undo 29 = .ok (.getfield 20, 3) := by decide +kernel
theorem dX3_undo_32 : decode cX3_undo 32 = .ok (.aaload, 1) := by decide +kernel
theorem dX3_undo_33 : decode cX3_undo 33 = .ok (.invokevirtual 194, 3) := by decide +kernel
theorem dX3_undo_36 : decode cX3_undo 36 = .ok (.aload_n 0, 1) := by decide +kernel
theorem dX3_undo_37 : decode cX3_undo 37 = .ok (.invokevirtual 198, 3) := by decide +kernel
theorem dX3_undo_40 : decode cX3_undo 40 = .ok (.aload_n 0, 1) := by decide +kernel
theorem dX3_undo_41 : decode cX3_undo 41 = .ok (.getfield 20, 3) := by decide +kernel
theorem dX3_undo_44 : decode cX3_undo 44 = .ok (.ireturn, 1) := by decide +kernel
set_option maxRecDepth 20000 in
theorem ggX3_save_X1_copyFrom : GoodIn wsX3_save wsX1_copyFrom := goodIn_r _ [9, 10, 11, 12, 13, 14, 15, 16, 17, 29, 30, 31, 32] (by decide +kernel) (by decide +kernel)
set_option maxRecDepth 20000 in
theorem gX3_save_X1_copyFrom : GoodIn wsX3_save (wsV RX3 194 RX1 yX1_copyFrom wsX1_copyFrom) := goodIn_app (goodIn_of _ (by decide +kernel)) ggX3_save_X1_copyFrom
theorem dX3_save_0 : decode cX3_save 0 = .ok (.iload_n 1, 1) := by decide +kernel
theorem dX3_save_1 : decode cX3_save 1 = .ok (.ifCond .lt 8, 3) := by decide +kernel
theorem dX3_save_4 : decode cX3_save 4 = .ok (.iload_n 1, 1) := by decide +kernel
theorem dX3_save_5 : decode cX3_save 5 = .ok (.iconst 2, 1) := by decide +kernel
theorem dX3_save_6 : decode cX3_save 6 = .ok (.if_icmp .lt 6, 3) := by decide +kernel
theorem dX3_save_9 : decode cX3_save 9 = .ok (.bipush (-2), 2) := by decide +kernel
theorem dX3_save_11 : decode cX3_save 11 = .ok (.ireturn, 1) := by decide +kernel
theorem dX3_save_12 : decode cX3_save 12 = .ok (.aload_n 0, 1) := by decide +kernel
theorem dX3_save_13 : decode cX3_save 13 = .ok (.getfield 24, 3) := by decide +kernel
theorem dX3_save_16 : decode cX3_save 16 = .ok (.iload_n 1, 1) := by decide +kernel
theorem dX3_save_17 : decode cX3_save 17 = .ok (.aaload, 1) := by decide +kernel
theorem dX3_save_18 : decode cX3_save 18 = .ok (.aload_n 0, 1) := by decide +kernel
theorem dX3_save_19 : decode cX3_save 19 = .ok (.getfield 10, 3) := by decide +kernel
theorem dX3_save_22 : decode cX3_save 22 = .ok (.invokevirtual 194, 3) := by decide +kernel
theorem dX3_save_25 : decode cX3_save 25 = .ok (.aload_n 0, 1) := by decide +kernel
theorem dX3_save_26 : decode cX3_save 26 = .ok (.getfield 27, 3) := by decide +kernel
theorem dX3_save_29 : decode cX3_save 29 = .ok (.iload_n 1, 1) := by decide +kernel
theorem dX3_save_30 : decode cX3_save 30 = .ok (.iconst 1, 1) := by decide +kernel
theorem dX3_save_31 : decode cX3_save 31 = .ok (.bastore, 1) := by decide +kernel
theorem dX3_save_32 : decode cX3_save 32 = .ok (.aload_n 0, 1) := by decide +kernel
theorem dX3_save_33 : decode cX3_save 33 = .ok (.getfield 10, 3) := by decide +kernel
theorem dX3_save_36 : decode cX3_save 36 = .ok (.getfield 74, 3) := by decide +kernel
theorem dX3_save_39 : decode cX3_save 39 = .ok (.ireturn, 1) := by decide +kernel
set_option maxRecDepth 20000 in
theorem ggX3_restore_X3_beginChange : GoodIn wsX3_restore wsX3_beginChange := goodIn_r _ [9, 10, 11, 2, 12, 13, 14, 8, 15, 16, 17, 18, 19, 20, 21, 22, 23, 24, 25, 26, 27, 28, 29, 30, 31, 32, 33, 34, 35, 36, 37, 38, 39, 40, 41, 42, 43, 44, 45, 46, 47, 48] (by decide +kernel) (by decide +kernel)
set_option maxRecDepth 20000 in
theorem gX3_restore_X3_beginChange : GoodIn wsX3_restore (wsV RX3 64 RX3 yX3_beginChange wsX3_beginChange) := goodIn_app (goodIn_of _ (by decide +kernel)) ggX3_restore_X3_beginChange
set_option maxRecDepth 20000 in
theorem ggX3_restore_X1_copyFrom : GoodIn wsX3_restore wsX1_copyFrom := goodIn_r _ [20, 21, 22, 23, 24, 25, 26, 27, 28, 45, 46, 47, 48] (by decide +kernel) (by decide +kernel)
set_option maxRecDepth 20000 in
theorem gX3_restore_X1_copyFrom : GoodIn wsX3_restore (wsV RX3 194 RX1 yX1_copyFrom wsX1_copyFrom) := goodIn_app (goodIn_of _ (by decide +kernel)) ggX3_restore_X1_copyFrom
theorem dX3_restore_0 : decode cX3_restore 0 = .ok (.iload_n 1, 1) := by decide +kernel
theorem dX3_restore_1 : decode cX3_restore 1 = .ok (.ifCond .lt 8, 3) := by decide +kernel
theorem dX3_restore_4 : decode cX3_restore 4 = .ok (.iload_n 1, 1) := by decide +kernel
theorem dX3_restore_5 : decode cX3_restore 5 = .ok (.iconst 2, 1) := by decide +kernel
theorem dX3_restore_6 : decode cX3_restore 6 = .ok (.if_icmp .lt 6, 3) := by decide +kernel
theorem dX3_restore_9 : decode cX3_restore 9 = .ok (.bipush (-2), 2) := by decide +kernel
theorem dX3_restore_11 : decode cX3_restore 11 = .ok (.ireturn, 1) := by decide +kernel
theorem dX3_restore_12 : decode cX3_restore 12 = .ok (.aload_n 0, 1) := by decide +kernel
theorem dX3_restore_13 : decode cX3_restore 13 = .ok (.getfield 27, 3) := by decide +kernel
theorem dX3_restore_16 : decode cX3_restore 16 = .ok (.iload_n 1, 1) := by decide +kernel
theorem dX3_restore_17 : decode cX3_restore 17 = .ok (.baload, 1) := by decide +kernel
theorem dX3_restore_18 : decode cX3_restore 18 = .ok (.ifCond .ne 6, 3) := by decide +kernel
theorem dX3_restore_21 : decode cX3_restore 21 = .ok (.bipush (-5), 2) := by decide +kernel
theorem dX3_restore_23 : decode cX3_restore 23 = .ok (.ireturn, 1) := by decide +kernel
theorem dX3_restore_24 : decode cX3_restore 24 = .ok (.aload_n 0, 1) := by decide +kernel
theorem dX3_restore_25 : decode cX3_restore 25 = .ok (.invokevirtual 64, 3) := by decide +kernel
theorem dX3_restore_28 : decode cX3_restore 28 = .ok (.aload_n 0, 1) := by decide +kernel
theorem dX3_restore_29 : decode cX3_restore 29 = .ok (.getfield 10, 3) := by decide +kernel
theorem dX3_restore_32 : decode cX3_restore 32 = .ok (.aload_n 0, 1) := by decide +kernel
theorem dX3_restore_33 : decode cX3_restore 33 = .ok (.getfield 24, 3) := by decide +kernel
theorem dX3_restore_36 : decode cX3_restore 36 = .ok (.iload_n 1, 1) := by decide +kernel
theorem dX3_restore_37 : decode cX3_restore 37 = .ok (.aaload, 1) := by decide +kernel
theorem dX3_restore_38 : decode cX3_restore 38 = .ok (.invokevirtual 194, 3) := by decide +kernel
theorem dX3_restore_41 : decode cX3_restore 41 = .ok (.aload_n 0, 1) := by decide +kernel
theorem dX3_restore_42 : decode cX3_restore 42 = .ok (.getfield 10, 3) := by decide +kernel
theorem dX3_restore_45 : decode cX3_restore 45 = .ok (.getfield 74, 3) := by decide +kernel
theorem dX3_restore_48 : decode cX3_restore 48 = .ok (.ireturn, 1) := by decide +kernel
theorem dX3_noRow_0 : decode cX3_noRow 0 = .ok (.iload_n 1, 1) := by decide +kernel
theorem dX3_noRow_1 : decode cX3_noRow 1 = .ok (.ifCond .lt 14, 3) := by decide +kernel
theorem dX3_noRow_4 : decode cX3_noRow 4 = .ok (.iload_n 1, 1) := by decide +kernel
theorem dX3_noRow_5 : decode cX3_noRow 5 = .ok (.aload_n 0, 1) := by decide +kernel
theorem dX3_noRow_6 : decode cX3_noRow 6 = .ok (.getfield 10, 3) := by decide +kernel
theorem dX3_noRow_9 : decode cX3_noRow 9 = .ok (.getfield 74, 3) := by decide +kernel
theorem dX3_noRow_12 : decode cX3_noRow 12 = .ok (.if_icmp .lt 7, 3) := by decide +kernel
theorem dX3_noRow_15 : decode cX3_noRow 15 = .ok (.iconst 1, 1) := by decide +kernel
theorem dX3_noRow_16 : decode cX3_noRow 16 = .ok (.goto 4, 3) := by decide +kernel
theorem dX3_noRow_19 : decode cX3_noRow 19 = .ok (.iconst 0, 1) := by decide +kernel
theorem dX3_noRow_20 : decode cX3_noRow 20 = .ok (.ireturn, 1) := by decide +kernel
set_option maxRecDepth 20000 in
theorem ggX3_noPlace_X3_noRow : GoodIn wsX3_noPlace wsX3_noRow := goodIn_r _ [7, 1, 8, 9, 10, 11, 12, 13, 14, 15, 16, 17, 18, 19, 20, 21, 22, 23] (by decide +kernel) (by decide +kernel)
set_option maxRecDepth 20000 in
theorem gX3_noPlace_X3_noRow : GoodIn wsX3_noPlace (wsV RX3 84 RX3 yX3_noRow wsX3_noRow) := goodIn_app (goodIn_of _ (by decide +kernel)) ggX3_noPlace_X3_noRow
theorem dX3_noPlace_0 : decode cX3_noPlace 0 = .ok (.aload_n 0, 1) := by decide +kernel
theorem dX3_noPlace_1 : decode cX3_noPlace 1 = .ok (.iload_n 1, 1) := by decide +kernel
theorem dX3_noPlace_2 : decode cX3_noPlace 2 = .ok (.invokevirtual 84, 3) := by decide +kernel
theorem dX3_noPlace_5 : decode cX3_noPlace 5 = .ok (.ifCond .ne 20, 3) := by decide +kernel
theorem dX3_noPlace_8 : decode cX3_noPlace 8 = .ok (.iload_n 2, 1) := by decide +kernel
theorem dX3_noPlace_9 : decode cX3_noPlace 9 = .ok (.ifCond .lt 16, 3) := by decide +kernel
theorem dX3_noPlace_12 : decode cX3_noPlace 12 = .ok (.iload_n 2, 1) := by decide +kernel
theorem dX3_noPlace_13 : decode cX3_noPlace 13 = .ok (.aload_n 0, 1) := by decide +kernel
theorem dX3_noPlace_14 : decode cX3_noPlace 14 = .ok (.getfield 10, 3) := by decide +kernel
theorem dX3_noPlace_17 : decode cX3_noPlace 17 = .ok (.getfield 77, 3) := by decide +kernel
theorem dX3_noPlace_20 : decode cX3_noPlace 20 = .ok (.iload_n 1, 1) := by decide +kernel
theorem dX3_noPlace_21 : decode cX3_noPlace 21 = .ok (.iaload, 1) := by decide +kernel
theorem dX3_noPlace_22 : decode cX3_noPlace 22 = .ok (.if_icmp .lt 7, 3) := by decide +kernel
theorem dX3_noPlace_25 : decode cX3_noPlace 25 = .ok (.iconst 1, 1) := by decide +kernel
theorem dX3_noPlace_26 : decode cX3_noPlace 26 = .ok (.goto 4, 3) := by decide +kernel
theorem dX3_noPlace_29 : decode cX3_noPlace 29 = .ok (.iconst 0, 1) := by decide +kernel
theorem dX3_noPlace_30 : decode cX3_noPlace 30 = .ok (.ireturn, 1) := by decide +kernel
set_option maxRecDepth 20000 in
theorem ggX3_beginChange_X3_dropOldestChange : GoodIn wsX3_beginChange wsX3_dropOldestChange := goodIn_r _ [8, 2, 1, 27, 28, 29, 30, 31, 32, 33, 34, 35, 36, 37] (by decide +kernel) (by decide +kernel)
set_option maxRecDepth 20000 in
theorem gX3_beginChange_X3_dropOldestChange : GoodIn wsX3_beginChange (wsV RX3 201 RX3 yX3_dropOldestChange wsX3_dropOldestChange) := goodIn_app (goodIn_of _ (by decide +kernel)) ggX3_beginChange_X3_dropOldestChange
set_option maxRecDepth 20000 in
theorem ggX3_beginChange_X1_copyFrom : GoodIn wsX3_beginChange wsX1_copyFrom := goodIn_r _ [13, 14, 15, 16, 17, 18, 19, 20, 21, 38, 39, 40, 41] (by decide +kernel) (by decide +kernel)
set_option maxRecDepth 20000 in
theorem gX3_beginChange_X1_copyFrom : GoodIn wsX3_beginChange (wsV RX3 194 RX1 yX1_copyFrom wsX1_copyFrom) := goodIn_app (goodIn_of _ (by decide +kernel)) ggX3_beginChange_X1_copyFrom
set_option maxRecDepth 20000 in
theorem ggX3_beginChange_X3_forgetWords : GoodIn wsX3_beginChange wsX3_forgetWords := goodIn_r _ [25, 26, 27, 28, 29, 30, 31, 32, 33, 34, 35, 36, 37] (by decide +kernel) (by decide +kernel)
set_option maxRecDepth 20000 in
theorem gX3_beginChange_X3_forgetWords : GoodIn wsX3_beginChange (wsV RX3 198 RX3 yX3_forgetWords wsX3_forgetWords) := goodIn_app (goodIn_of _ (by decide +kernel)) ggX3_beginChange_X3_forgetWords
theorem dX3_beginChange_0 : decode cX3_beginChange 0 = .ok (.aload_n 0, 1) := by decide +kernel
theorem dX3_beginChange_1 : decode cX3_beginChange 1 = .ok (.getfield 20, 3) := by decide +kernel
theorem dX3_beginChange_4 : decode cX3_beginChange 4 = .ok (.bipush 6, 2) := by decide +kernel
theorem dX3_beginChange_6 : decode cX3_beginChange 6 = .ok (.if_icmp .lt 7, 3) := by decide +kernel
theorem dX3_beginChange_9 : decode cX3_beginChange 9 = .ok (.aload_n 0, 1) := by decide +kernel
theorem dX3_beginChange_10 : decode cX3_beginChange 10 = .ok (.invokevirtual 201, 3) := by decide +kernel
theorem dX3_beginChange_13 : decode cX3_beginChange 13 = .ok (.aload_n 0, 1) := by decide +kernel
theorem dX3_beginChange_14 : decode cX3_beginChange 14 = .ok (.getfield 16, 3) := by decide +kernel
theorem dX3_beginChange_17 : decode cX3_beginChange 17 = .ok (.aload_n 0, 1) := by decide +kernel
theorem dX3_beginChange_18 : decode cX3_beginChange 18 = .ok (.getfield 20, 3) := by decide +kernel
theorem dX3_beginChange_21 : decode cX3_beginChange 21 = .ok (.aaload, 1) := by decide +kernel
theorem dX3_beginChange_22 : decode cX3_beginChange 22 = .ok (.aload_n 0, 1) := by decide +kernel
theorem dX3_beginChange_23 : decode cX3_beginChange 23 = .ok (.getfield 10, 3) := by decide +kernel
theorem dX3_beginChange_26 : decode cX3_beginChange 26 = .ok (.invokevirtual 194, 3) := by decide +kernel
theorem dX3_beginChange_29 : decode cX3_beginChange 29 = .ok (.aload_n 0, 1) := by decide +kernel
theorem dX3_beginChange_30 : decode cX3_beginChange 30 = .ok (.dup, 1) := by decide +kernel
theorem dX3_beginChange_31 : decode cX3_beginChange 31 = .ok (.getfield 20, 3) := by decide +kernel
theorem dX3_beginChange_34 : decode cX3_beginChange 34 = .ok (.iconst 1, 1) := by decide +kernel
theorem dX3_beginChange_35 : decode cX3_beginChange 35 = .ok (.iadd, 1) := by decide +kernel
theorem dX3_beginChange_36 : decode cX3_beginChange 36 = .ok (.putfield 20, 3) := by decide +kernel
theorem dX3_beginChange_39 : decode cX3_beginChange 39 = .ok (.aload_n 0, 1) := by decide +kernel
theorem dX3_beginChange_40 : decode cX3_beginChange 40 = .ok (.invokevirtual 198, 3) := by decide +kernel
theorem dX3_beginChange_43 : decode cX3_beginChange 43 = .ok (.return_, 1) := by decide +kernel
theorem dX3_dropOldestChange_0 : decode cX3_dropOldestChange 0 = .ok (.aload_n 0, 1) := by decide +kernel
theorem dX3_dropOldestChange_1 : decode cX3_dropOldestChange 1 = .ok (.getfield 16, 3) := by decide +kernel
theorem dX3_dropOldestChange_4 : decode cX3_dropOldestChange 4 = .ok (.iconst 0, 1) := by decide +kernel
theorem dX3_dropOldestChange_5 : decode cX3_dropOldestChange 5 = .ok (.aaload, 1) := by decide +kernel
theorem dX3_dropOldestChange_6 : decode cX3_dropOldestChange 6 = .ok (.astore_n 1, 1) := by decide +kernel
theorem dX3_dropOldestChange_7 : decode cX3_dropOldestChange 7 = .ok (.iconst 1, 1) := by decide +kernel
theorem dX3_dropOldestChange_8 : decode cX3_dropOldestChange 8 = .ok (.istore_n 2, 1) := by decide +kernel
theorem dX3_dropOldestChange_9 : decode cX3_dropOldestChange 9 = .ok (.iload_n 2, 1) := by decide +kernel
theorem dX3_dropOldestChange_10 : decode cX3_dropOldestChange 10 = .ok (.bipush 6, 2) := by decide +kernel
theorem dX3_dropOldestChange_12 : decode cX3_dropOldestChange 12 = .ok (.if_icmp .ge 23, 3) := by decide +kernel
theorem dX3_dropOldestChange_15 : decode cX3_dropOldestChange 15 = .ok (.aload_n 0, 1) := by decide +kernel
theorem dX3_dropOldestChange_16 : decode cX3_dropOldestChange 16 = .ok (.getfield 16, 3) := by decide +kernel
theorem dX3_dropOldestChange_19 : decode cX3_dropOldestChange 19 = .ok (.iload_n 2, 1) := by decide +kernel
theorem dX3_dropOldestChange_20 : decode cX3_dropOldestChange 20 = .ok (.iconst 1, 1) := by decide +kernel
theorem dX3_dropOldestChange_21 : decode cX3_dropOldestChange 21 = .ok (.isub, 1) := by decide +kernel
theorem dX3_dropOldestChange_22 : decode cX3_dropOldestChange 22 = .ok (.aload_n 0, 1) := by decide +kernel
theorem dX3_dropOldestChange_23 : decode cX3_dropOldestChange 23 = .ok (.getfield 16, 3) := by decide +kernel
theorem dX3_dropOldestChange_26 : decode cX3_dropOldestChange 26 = .ok (.iload_n 2, 1) := by decide +kernel
theorem dX3_dropOldestChange_27 : decode cX3_dropOldestChange 27 = .ok (.aaload, 1) := by decide +kernel
theorem dX3_dropOldestChange_28 : decode cX3_dropOldestChange 28 = .ok (.aastore, 1) := by decide +kernel
theorem dX3_dropOldestChange_29 : decode cX3_dropOldestChange 29 = .ok (.iinc 2 1, 3) := by decide +kernel
theorem dX3_dropOldestChange_32 : decode cX3_dropOldestChange 32 = .ok (.goto (-23), 3) := by decide +kernel
theorem dX3_dropOldestChange_35 : decode cX3_dropOldestChange 35 = .ok (.aload_n 0, 1) := by decide +kernel
theorem dX3_dropOldestChange_36 : decode cX3_dropOldestChange 36 = .ok (.getfield 16, 3) := by decide +kernel
theorem dX3_dropOldestChange_39 : decode cX3_dropOldestChange 39 = .ok (.iconst 5, 1) := by decide +kernel
theorem dX3_dropOldestChange_40 : decode cX3_dropOldestChange 40 = .ok (.aload_n 1, 1) := by decide +kernel
theorem dX3_dropOldestChange_41 : decode cX3_dropOldestChange 41 = .ok (.aastore, 1) := by decide +kernel
theorem dX3_dropOldestChange_42 : decode cX3_dropOldestChange 42 = .ok (.aload_n 0, 1) := by decide +kernel
theorem dX3_dropOldestChange_43 : decode cX3_dropOldestChange 43 = .ok (.iconst 5, 1) := by decide +kernel
theorem dX3_dropOldestChange_44 : decode cX3_dropOldestChange 44 = .ok (.putfield 20, 3) := by decide +kernel
theorem dX3_dropOldestChange_47 : decode cX3_dropOldestChange 47 = .ok (.return_, 1) := by decide +kernel
theorem dX3_forgetWords_0 : decode cX3_forgetWords 0 = .ok (.iconst 0, 1) := by decide +kernel
theorem dX3_forgetWords_1 : decode cX3_forgetWords 1 = .ok (.istore_n 1, 1) := by decide +kernel
theorem dX3_forgetWords_2 : decode cX3_forgetWords 2 = .ok (.iload_n 1, 1) := by decide +kernel
theorem dX3_forgetWords_3 : decode cX3_forgetWords 3 = .ok (.bipush 10, 2) := by decide +kernel
theorem dX3_forgetWords_5 : decode cX3_forgetWords 5 = .ok (.if_icmp .ge 16, 3) := by decide +kernel
theorem dX3_forgetWords_8 : decode cX3_forgetWords 8 = .ok (.aload_n 0, 1) := by decide +kernel
theorem dX3_forgetWords_9 : decode cX3_forgetWords 9 = .ok (.getfield 44, 3) := by decide +kernel
theorem dX3_forgetWords_12 : decode cX3_forgetWords 12 = .ok (.iload_n 1, 1) := by decide +kernel
theorem dX3_forgetWords_13 : decode cX3_forgetWords 13 = .ok (.iconst 0, 1) := by decide +kernel
theorem dX3_forgetWords_14 : decode cX3_forgetWords 14 = .ok (.bastore, 1) := by decide +kernel
theorem dX3_forgetWords_15 : decode cX3_forgetWords 15 = .ok (.iinc 1 1, 3) := by decide +kernel
theorem dX3_forgetWords_18 : decode cX3_forgetWords 18 = .ok (.goto (-16), 3) := by decide +kernel
theorem dX3_forgetWords_21 : decode cX3_forgetWords 21 = .ok (.return_, 1) := by decide +kernel
set_option maxRecDepth 20000 in
theorem ggX3_wordsOf_X2_gather : GoodIn wsX3_wordsOf wsX2_gather := goodIn_r _ [8, 9, 10, 11, 12, 13, 14, 15, 7, 16, 17, 18, 19, 20, 21, 22, 23, 24, 25, 26, 27, 28, 29, 30, 31, 32, 44, 45, 46, 47, 48, 49, 50, 51] (by decide +kernel) (by decide +kernel)
set_option maxRecDepth 20000 in
theorem gX3_wordsOf_X2_gather : GoodIn wsX3_wordsOf (wsV RX3 204 RX2 yX2_gather wsX2_gather) := goodIn_app (goodIn_of _ (by decide +kernel)) ggX3_wordsOf_X2_gather
theorem dX3_wordsOf_0 : decode cX3_wordsOf 0 = .ok (.aload_n 0, 1) := by decide +kernel
theorem dX3_wordsOf_1 : decode cX3_wordsOf 1 = .ok (.getfield 44, 3) := by decide +kernel
theorem dX3_wordsOf_4 : decode cX3_wordsOf 4 = .ok (.iload_n 1, 1) := by decide +kernel
theorem dX3_wordsOf_5 : decode cX3_wordsOf 5 = .ok (.baload, 1) := by decide +kernel
theorem dX3_wordsOf_6 : decode cX3_wordsOf 6 = .ok (.ifCond .ne 24, 3) := by decide +kernel
theorem dX3_wordsOf_9 : decode cX3_wordsOf 9 = .ok (.aload_n 0, 1) := by decide +kernel
theorem dX3_wordsOf_10 : decode cX3_wordsOf 10 = .ok (.getfield 40, 3) := by decide +kernel
theorem dX3_wordsOf_13 : decode cX3_wordsOf 13 = .ok (.iload_n 1, 1) := by decide +kernel
theorem dX3_wordsOf_14 : decode cX3_wordsOf 14 = .ok (.aaload, 1) := by decide +kernel
theorem dX3_wordsOf_15 : decode cX3_wordsOf 15 = .ok (.aload_n 0, 1) := by decide +kernel
theorem dX3_wordsOf_16 : decode cX3_wordsOf 16 = .ok (.getfield 10, 3) := by decide +kernel
theorem dX3_wordsOf_19 : decode cX3_wordsOf 19 = .ok (.iload_n 1, 1) := by decide +kernel
theorem dX3_wordsOf_20 : decode cX3_wordsOf 20 = .ok (.invokevirtual 204, 3) := by decide +kernel
theorem dX3_wordsOf_23 : decode cX3_wordsOf 23 = .ok (.aload_n 0, 1) := by decide +kernel
theorem dX3_wordsOf_24 : decode cX3_wordsOf 24 = .ok (.getfield 44, 3) := by decide +kernel
theorem dX3_wordsOf_27 : decode cX3_wordsOf 27 = .ok (.iload_n 1, 1) := by decide +kernel
theorem dX3_wordsOf_28 : decode cX3_wordsOf 28 = .ok (.iconst 1, 1) := by decide +kernel
theorem dX3_wordsOf_29 : decode cX3_wordsOf 29 = .ok (.bastore, 1) := by decide +kernel
theorem dX3_wordsOf_30 : decode cX3_wordsOf 30 = .ok (.aload_n 0, 1) := by decide +kernel
theorem dX3_wordsOf_31 : decode cX3_wordsOf 31 = .ok (.getfield 40, 3) := by decide +kernel
theorem dX3_wordsOf_34 : decode cX3_wordsOf 34 = .ok (.iload_n 1, 1) := by decide +kernel
theorem dX3_wordsOf_35 : decode cX3_wordsOf 35 = .ok (.aaload, 1) := by decide +kernel
theorem dX3_wordsOf_36 : decode cX3_wordsOf 36 = .ok (.areturn, 1) := by decide +kernel
set_option maxRecDepth 20000 in
theorem ggX3_sampleSize_X3_wordsOf : GoodIn wsX3_sampleSize wsX3_wordsOf := goodIn_r _ [12, 13, 14, 2, 15, 16, 17, 18, 19, 20, 21, 22, 23, 24, 25, 26, 27, 28, 29, 30, 31, 32, 33, 34, 35, 36, 37, 38, 39, 40, 41, 42, 43, 48, 49, 50, 51, 52, 53, 54, 55, 56, 57, 58, 44, 45, 46, 47, 59, 60, 61, 62] (by decide +kernel) (by decide +kernel)
set_option maxRecDepth 20000 in
theorem gX3_sampleSize_X3_wordsOf : GoodIn wsX3_sampleSize (wsV RX3 101 RX3 yX3_wordsOf wsX3_wordsOf) := goodIn_app (goodIn_of _ (by decide +kernel)) ggX3_sampleSize_X3_wordsOf
theorem dX3_sampleSize_0 : decode cX3_sampleSize 0 = .ok (.aload_n 0, 1) := by decide +kernel
theorem dX3_sampleSize_1 : decode cX3_sampleSize 1 = .ok (.iload_n 1, 1) := by decide +kernel
theorem dX3_sampleSize_2 : decode cX3_sampleSize 2 = .ok (.invokevirtual 101, 3) := by decide +kernel
theorem dX3_sampleSize_5 : decode cX3_sampleSize 5 = .ok (.getfield 105, 3) := by decide +kernel
theorem dX3_sampleSize_8 : decode cX3_sampleSize 8 = .ok (.aload_n 0, 1) := by decide +kernel
theorem dX3_sampleSize_9 : decode cX3_sampleSize 9 = .ok (.getfield 10, 3) := by decide +kernel
theorem dX3_sampleSize_12 : decode cX3_sampleSize 12 = .ok (.getfield 67, 3) := by decide +kernel
theorem dX3_sampleSize_15 : decode cX3_sampleSize 15 = .ok (.iconst 1, 1) := by decide +kernel
theorem dX3_sampleSize_16 : decode cX3_sampleSize 16 = .ok (.iaload, 1) := by decide +kernel
theorem dX3_sampleSize_17 : decode cX3_sampleSize 17 = .ok (.invokestatic 208, 3) := by decide +kernel
theorem dX3_sampleSize_20 : decode cX3_sampleSize 20 = .ok (.ireturn, 1) := by decide +kernel
set_option maxRecDepth 20000 in
theorem ggX3_greatestOfSample_X3_sampleSize : GoodIn wsX3_greatestOfSample wsX3_sampleSize := goodIn_r _ [5, 6, 7, 8, 9, 10, 11, 12, 13, 14, 15, 4, 16, 17, 18, 19, 20, 21, 22, 23, 24, 25, 26, 27, 28, 29, 30, 31, 32, 33, 34, 35, 36, 37, 38, 39, 40, 41, 42, 43, 44, 45, 46, 47, 49, 50, 51, 52, 53, 54, 55, 56, 57, 58, 59, 60, 61, 62, 63, 64, 65, 66, 67] (by decide +kernel) (by decide +kernel)
set_option maxRecDepth 20000 in
theorem gX3_greatestOfSample_X3_sampleSize : GoodIn wsX3_greatestOfSample (wsV RX3 108 RX3 yX3_sampleSize wsX3_sampleSize) := goodIn_app (goodIn_of _ (by decide +kernel)) ggX3_greatestOfSample_X3_sampleSize
set_option maxRecDepth 20000 in
theorem ggX3_greatestOfSample_X3_wordsOf : GoodIn wsX3_greatestOfSample wsX3_wordsOf := goodIn_r _ [16, 17, 18, 7, 19, 20, 21, 22, 23, 24, 25, 26, 27, 28, 29, 30, 31, 32, 33, 34, 35, 36, 37, 38, 39, 40, 41, 42, 43, 44, 45, 46, 47, 53, 54, 55, 56, 57, 58, 59, 60, 61, 62, 63, 49, 50, 51, 52, 64, 65, 66, 67] (by decide +kernel) (by decide +kernel)
set_option maxRecDepth 20000 in
theorem gX3_greatestOfSample_X3_wordsOf : GoodIn wsX3_greatestOfSample (wsV RX3 101 RX3 yX3_wordsOf wsX3_wordsOf) := goodIn_app (goodIn_of _ (by decide +kernel)) ggX3_greatestOfSample_X3_wordsOf
set_option maxRecDepth 20000 in
theorem ggX3_greatestOfSample_X2_valueAt : GoodIn wsX3_greatestOfSample wsX2_valueAt := goodIn_r _ [46, 24, 36, 47, 49, 50, 51, 52] (by decide +kernel) (by decide +kernel)
set_option maxRecDepth 20000 in
theorem gX3_greatestOfSample_X2_valueAt : GoodIn wsX3_greatestOfSample (wsV RX3 211 RX2 yX2_valueAt wsX2_valueAt) := goodIn_app (goodIn_of _ (by decide +kernel)) ggX3_greatestOfSample_X2_valueAt
theorem dX3_greatestOfSample_0 : decode cX3_greatestOfSample 0 = .ok (.aload_n 0, 1) := by decide +kernel
theorem dX3_greatestOfSample_1 : decode cX3_greatestOfSample 1 = .ok (.iload_n 1, 1) := by decide +kernel
theorem dX3_greatestOfSample_2 : decode cX3_greatestOfSample 2 = .ok (.invokevirtual 108, 3) := by decide +kernel
theorem dX3_greatestOfSample_5 : decode cX3_greatestOfSample 5 = .ok (.istore_n 2, 1) := by decide +kernel
theorem dX3_greatestOfSample_6 : decode cX3_greatestOfSample 6 = .ok (.iload_n 2, 1) := by decide +kernel
theorem dX3_greatestOfSample_7 : decode cX3_greatestOfSample 7 = .ok (.ifCond .ne 8, 3) := by decide +kernel
theorem dX3_greatestOfSample_10 : decode cX3_greatestOfSample 10 = .ok (.bipush (-6), 2) := by decide +kernel
theorem dX3_greatestOfSample_12 : decode cX3_greatestOfSample 12 = .ok (.goto 14, 3) := by decide +kernel
theorem dX3_greatestOfSample_15 : decode cX3_greatestOfSample 15 = .ok (.aload_n 0, 1) := by decide +kernel
theorem dX3_greatestOfSample_16 : decode cX3_greatestOfSample 16 = .ok (.iload_n 1, 1) := by decide +kernel
theorem dX3_greatestOfSample_17 : decode cX3_greatestOfSample 17 = .ok (.invokevirtual 101, 3) := by decide +kernel
theorem dX3_greatestOfSample_20 : decode cX3_greatestOfSample 20 = .ok (.iload_n 2, 1) := by decide +kernel
theorem dX3_greatestOfSample_21 : decode cX3_greatestOfSample 21 = .ok (.iconst 1, 1) := by decide +kernel
theorem dX3_greatestOfSample_22 : decode cX3_greatestOfSample 22 = .ok (.isub, 1) := by decide +kernel
theorem dX3_greatestOfSample_23 : decode cX3_greatestOfSample 23 = .ok (.invokevirtual 211, 3) := by decide +kernel
theorem dX3_greatestOfSample_26 : decode cX3_greatestOfSample 26 = .ok (.ireturn, 1) := by decide +kernel
set_option maxRecDepth 20000 in
theorem ggX3_pairOf_X3_wordsOf : GoodIn wsX3_pairOf wsX3_wordsOf := goodIn_r _ [6, 7, 8, 9, 10, 11, 12, 13, 14, 15, 16, 17, 18, 19, 20, 21, 22, 23, 24, 25, 26, 27, 28, 29, 30, 31, 32, 33, 34, 35, 36, 37, 38, 54, 55, 56, 57, 58, 59, 60, 61, 62, 63, 64, 65, 66, 67, 68, 69, 70, 71, 72] (by decide +kernel) (by decide +kernel)
set_option maxRecDepth 20000 in
theorem gX3_pairOf_X3_wordsOf : GoodIn wsX3_pairOf (wsV RX3 101 RX3 yX3_wordsOf wsX3_wordsOf) := goodIn_app (goodIn_of _ (by decide +kernel)) ggX3_pairOf_X3_wordsOf
set_option maxRecDepth 20000 in
theorem ggX3_pairOf_X0_measure : GoodIn wsX3_pairOf wsX0_measure := goodIn_r _ [43, 44, 45, 46, 47, 48, 49, 50, 51, 52, 53, 35, 36, 13, 37, 15, 27, 38, 65, 66, 67, 68, 73, 74, 75, 76, 77, 78, 79] (by decide +kernel) (by decide +kernel)
set_option maxRecDepth 20000 in
theorem gX3_pairOf_X0_measure : GoodIn wsX3_pairOf (wsV RX3 214 RX0 yX0_measure wsX0_measure) := goodIn_app (goodIn_of _ (by decide +kernel)) ggX3_pairOf_X0_measure
theorem dX3_pairOf_0 : decode cX3_pairOf 0 = .ok (.aload_n 0, 1) := by decide +kernel
theorem dX3_pairOf_1 : decode cX3_pairOf 1 = .ok (.getfield 50, 3) := by decide +kernel
theorem dX3_pairOf_4 : decode cX3_pairOf 4 = .ok (.aload_n 0, 1) := by decide +kernel
theorem dX3_pairOf_5 : decode cX3_pairOf 5 = .ok (.iload_n 1, 1) := by decide +kernel
theorem dX3_pairOf_6 : decode cX3_pairOf 6 = .ok (.invokevirtual 101, 3) := by decide +kernel
theorem dX3_pairOf_9 : decode cX3_pairOf 9 = .ok (.aload_n 0, 1) := by decide +kernel
theorem dX3_pairOf_10 : decode cX3_pairOf 10 = .ok (.iload_n 2, 1) := by decide +kernel
theorem dX3_pairOf_11 : decode cX3_pairOf 11 = .ok (.invokevirtual 101, 3) := by decide +kernel
theorem dX3_pairOf_14 : decode cX3_pairOf 14 = .ok (.invokevirtual 214, 3) := by decide +kernel
theorem dX3_pairOf_17 : decode cX3_pairOf 17 = .ok (.aload_n 0, 1) := by decide +kernel
theorem dX3_pairOf_18 : decode cX3_pairOf 18 = .ok (.getfield 50, 3) := by decide +kernel
theorem dX3_pairOf_21 : decode cX3_pairOf 21 = .ok (.areturn, 1) := by decide +kernel
set_option maxRecDepth 20000 in
theorem ggX3_wordsOfAll_X3_leastAtHeads : GoodIn wsX3_wordsOfAll wsX3_leastAtHeads := goodIn_r _ [9, 4, 1, 2, 3, 10, 11, 12, 13, 14, 15, 16, 8, 17, 18, 19, 20, 21, 22, 23, 24, 25, 26, 27, 28, 29, 30, 31, 32, 33, 34, 35, 36, 37, 38, 39, 40, 41, 42, 43, 44, 45, 46, 47, 48, 49, 54, 55, 56, 57, 58, 59, 60, 61, 62, 63, 64, 65, 66, 67, 68, 69, 70, 71, 72] (by decide +kernel) (by decide +kernel)
set_option maxRecDepth 20000 in
theorem gX3_wordsOfAll_X3_leastAtHeads : GoodIn wsX3_wordsOfAll (wsV RX3 218 RX3 yX3_leastAtHeads wsX3_leastAtHeads) := goodIn_app (goodIn_of _ (by decide +kernel)) ggX3_wordsOfAll_X3_leastAtHeads
set_option maxRecDepth 20000 in
theorem ggX3_wordsOfAll_X3_passAtHeads : GoodIn wsX3_wordsOfAll wsX3_passAtHeads := goodIn_r _ [53, 1, 2, 3, 14, 15, 16, 8, 17, 18, 19, 20, 21, 22, 23, 24, 25, 26, 27, 28, 29, 30, 31, 32, 33, 34, 35, 36, 37, 38, 39, 40, 41, 42, 43, 44, 45, 46, 47, 48, 49, 54, 55, 56, 57, 58, 59, 60, 61, 62, 63, 64, 65, 66, 67, 68, 69, 70, 71, 72] (by decide +kernel) (by decide +kernel)
set_option maxRecDepth 20000 in
theorem gX3_wordsOfAll_X3_passAtHeads : GoodIn wsX3_wordsOfAll (wsV RX3 222 RX3 yX3_passAtHeads wsX3_passAtHeads) := goodIn_app (goodIn_of _ (by decide +kernel)) ggX3_wordsOfAll_X3_passAtHeads
theorem dX3_wordsOfAll_0 : decode cX3_wordsOfAll 0 = .ok (.iconst 0, 1) := by decide +kernel
theorem dX3_wordsOfAll_1 : decode cX3_wordsOfAll 1 = .ok (.istore_n 1, 1) := by decide +kernel
theorem dX3_wordsOfAll_2 : decode cX3_wordsOfAll 2 = .ok (.iload_n 1, 1) := by decide +kernel
theorem dX3_wordsOfAll_3 : decode cX3_wordsOfAll 3 = .ok (.aload_n 0, 1) := by decide +kernel
theorem dX3_wordsOfAll_4 : decode cX3_wordsOfAll 4 = .ok (.getfield 10, 3) := by decide +kernel
theorem dX3_wordsOfAll_7 : decode cX3_wordsOfAll 7 = .ok (.getfield 74, 3) := by decide +kernel
theorem dX3_wordsOfAll_10 : decode cX3_wordsOfAll 10 = .ok (.if_icmp .ge 16, 3) := by decide +kernel
theorem dX3_wordsOfAll_13 : decode cX3_wordsOfAll 13 = .ok (.aload_n 0, 1) := by decide +kernel
theorem dX3_wordsOfAll_14 : decode cX3_wordsOfAll 14 = .ok (.getfield 54, 3) := by decide +kernel
theorem dX3_wordsOfAll_17 : decode cX3_wordsOfAll 17 = .ok (.iload_n 1, 1) := by decide +kernel
theorem dX3_wordsOfAll_18 : decode cX3_wordsOfAll 18 = .ok (.iconst 0, 1) := by decide +kernel
theorem dX3_wordsOfAll_19 : decode cX3_wordsOfAll 19 = .ok (.iastore, 1) := by decide +kernel
theorem dX3_wordsOfAll_20 : decode cX3_wordsOfAll 20 = .ok (.iinc 1 1, 3) := by decide +kernel
theorem dX3_wordsOfAll_23 : decode cX3_wordsOfAll 23 = .ok (.goto (-21), 3) := by decide +kernel
theorem dX3_wordsOfAll_26 : decode cX3_wordsOfAll 26 = .ok (.iconst 0, 1) := by decide +kernel
theorem dX3_wordsOfAll_27 : decode cX3_wordsOfAll 27 = .ok (.istore_n 1, 1) := by decide +kernel
theorem dX3_wordsOfAll_28 : decode cX3_wordsOfAll 28 = .ok (.iconst 0, 1) := by decide +kernel
theorem dX3_wordsOfAll_29 : decode cX3_wordsOfAll 29 = .ok (.istore_n 2, 1) := by decide +kernel
theorem dX3_wordsOfAll_30 : decode cX3_wordsOfAll 30 = .ok (.iload_n 2, 1) := by decide +kernel
theorem dX3_wordsOfAll_31 : decode cX3_wordsOfAll 31 = .ok (.sipush 640, 3) := by decide +kernel
theorem dX3_wordsOfAll_34 : decode cX3_wordsOfAll 34 = .ok (.if_icmp .ge 31, 3) := by decide +kernel
theorem dX3_wordsOfAll_37 : decode cX3_wordsOfAll 37 = .ok (.aload_n 0, 1) := by decide +kernel
theorem dX3_wordsOfAll_38 : decode cX3_wordsOfAll 38 = .ok (.invokevirtual 218, 3) := by decide +kernel
theorem dX3_wordsOfAll_41 : decode cX3_wordsOfAll 41 = .ok (.istore_n 3, 1) := by decide +kernel
theorem dX3_wordsOfAll_42 : decode cX3_wordsOfAll 42 = .ok (.iload_n 3, 1) := by decide +kernel
theorem dX3_wordsOfAll_43 : decode cX3_wordsOfAll 43 = .ok (.ldc 221, 2) := by decide +kernel
theorem dX3_wordsOfAll_45 : decode cX3_wordsOfAll 45 = .ok (.if_icmp .ne 6, 3) := by decide +kernel
theorem dX3_wordsOfAll_48 : decode cX3_wordsOfAll 48 = .ok (.goto 17, 3) := by decide +kernel
theorem dX3_wordsOfAll_51 : decode cX3_wordsOfAll 51 = .ok (.iinc 1 1, 3) := by decide +kernel
theorem dX3_wordsOfAll_54 : decode cX3_wordsOfAll 54 = .ok (.aload_n 0, 1) := by decide +kernel
theorem dX3_wordsOfAll_55 : decode cX3_wordsOfAll 55 = .ok (.iload_n 3, 1) := by decide +kernel
theorem dX3_wordsOfAll_56 : decode cX3_wordsOfAll 56 = .ok (.invokevirtual 222, 3) := by decide +kernel
theorem dX3_wordsOfAll_59 : decode cX3_wordsOfAll 59 = .ok (.iinc 2 1, 3) := by decide +kernel
theorem dX3_wordsOfAll_62 : decode cX3_wordsOfAll 62 = .ok (.goto (-32), 3) := by decide +kernel
theorem dX3_wordsOfAll_65 : decode cX3_wordsOfAll 65 = .ok (.iload_n 1, 1) := by decide +kernel
theorem dX3_wordsOfAll_66 : decode cX3_wordsOfAll 66 = .ok (.ireturn, 1) := by decide +kernel
set_option maxRecDepth 20000 in
theorem ggX3_leastAtHeads_X3_wordsOf : GoodIn wsX3_leastAtHeads wsX3_wordsOf := goodIn_r _ [13, 14, 15, 2, 16, 17, 18, 19, 20, 21, 22, 23, 24, 25, 26, 27, 28, 29, 30, 31, 32, 33, 34, 35, 36, 37, 38, 39, 40, 41, 42, 43, 44, 46, 47, 48, 49, 50, 51, 52, 53, 54, 55, 56, 61, 62, 63, 64, 57, 58, 59, 60] (by decide +kernel) (by decide +kernel)
set_option maxRecDepth 20000 in
theorem gX3_leastAtHeads_X3_wordsOf : GoodIn wsX3_leastAtHeads (wsV RX3 101 RX3 yX3_wordsOf wsX3_wordsOf) := goodIn_app (goodIn_of _ (by decide +kernel)) ggX3_leastAtHeads_X3_wordsOf
set_option maxRecDepth 20000 in
theorem ggX3_leastAtHeads_X2_valueAt : GoodIn wsX3_leastAtHeads wsX2_valueAt := goodIn_r _ [43, 21, 33, 44, 61, 62, 63, 64] (by decide +kernel) (by decide +kernel)
set_option maxRecDepth 20000 in
theorem gX3_leastAtHeads_X2_valueAt : GoodIn wsX3_leastAtHeads (wsV RX3 211 RX2 yX2_valueAt wsX2_valueAt) := goodIn_app (goodIn_of _ (by decide +kernel)) ggX3_leastAtHeads_X2_valueAt
theorem dX3_leastAtHeads_0 : decode cX3_leastAtHeads 0 = .ok (.ldc 221, 2) := by decide +kernel
theorem dX3_leastAtHeads_2 : decode cX3_leastAtHeads 2 = .ok (.istore_n 1, 1) := by decide +kernel
theorem dX3_leastAtHeads_3 : decode cX3_leastAtHeads 3 = .ok (.iconst 0, 1) := by decide +kernel
theorem dX3_leastAtHeads_4 : decode cX3_leastAtHeads 4 = .ok (.istore_n 2, 1) := by decide +kernel
theorem dX3_leastAtHeads_5 : decode cX3_leastAtHeads 5 = .ok (.iload_n 2, 1) := by decide +kernel
theorem dX3_leastAtHeads_6 : decode cX3_leastAtHeads 6 = .ok (.aload_n 0, 1) := by decide +kernel
theorem dX3_leastAtHeads_7 : decode cX3_leastAtHeads 7 = .ok (.getfield 10, 3) := by decide +kernel
theorem dX3_leastAtHeads_10 : decode cX3_leastAtHeads 10 = .ok (.getfield 74, 3) := by decide +kernel
theorem dX3_leastAtHeads_13 : decode cX3_leastAtHeads 13 = .ok (.if_icmp .ge 28, 3) := by decide +kernel
theorem dX3_leastAtHeads_16 : decode cX3_leastAtHeads 16 = .ok (.iload_n 1, 1) := by decide +kernel
theorem dX3_leastAtHeads_17 : decode cX3_leastAtHeads 17 = .ok (.aload_n 0, 1) := by decide +kernel
theorem dX3_leastAtHeads_18 : decode cX3_leastAtHeads 18 = .ok (.iload_n 2, 1) := by decide +kernel
theorem dX3_leastAtHeads_19 : decode cX3_leastAtHeads 19 = .ok (.invokevirtual 101, 3) := by decide +kernel
theorem dX3_leastAtHeads_22 : decode cX3_leastAtHeads 22 = .ok (.aload_n 0, 1) := by decide +kernel
theorem dX3_leastAtHeads_23 : decode cX3_leastAtHeads 23 = .ok (.getfield 54, 3) := by decide +kernel
theorem dX3_leastAtHeads_26 : decode cX3_leastAtHeads 26 = .ok (.iload_n 2, 1) := by decide +kernel
theorem dX3_leastAtHeads_27 : decode cX3_leastAtHeads 27 = .ok (.iaload, 1) := by decide +kernel
theorem dX3_leastAtHeads_28 : decode cX3_leastAtHeads 28 = .ok (.invokevirtual 211, 3) := by decide +kernel
theorem dX3_leastAtHeads_31 : decode cX3_leastAtHeads 31 = .ok (.invokestatic 208, 3) := by decide +kernel
theorem dX3_leastAtHeads_34 : decode cX3_leastAtHeads 34 = .ok (.istore_n 1, 1) := by decide +kernel
theorem dX3_leastAtHeads_35 : decode cX3_leastAtHeads 35 = .ok (.iinc 2 1, 3) := by decide +kernel
theorem dX3_leastAtHeads_38 : decode cX3_leastAtHeads 38 = .ok (.goto (-33), 3) := by decide +kernel
theorem dX3_leastAtHeads_41 : decode cX3_leastAtHeads 41 = .ok (.iload_n 1, 1) := by decide +kernel
theorem dX3_leastAtHeads_42 : decode cX3_leastAtHeads 42 = .ok (.ireturn, 1) := by decide +kernel
set_option maxRecDepth 20000 in
theorem ggX3_passAtHeads_X3_wordsOf : GoodIn wsX3_passAtHeads wsX3_wordsOf := goodIn_r _ [8, 9, 10, 1, 11, 12, 13, 14, 15, 16, 17, 18, 19, 20, 21, 22, 23, 24, 25, 26, 27, 28, 29, 30, 31, 32, 33, 34, 35, 36, 37, 38, 39, 41, 42, 43, 44, 45, 46, 47, 48, 49, 50, 51, 56, 57, 58, 59, 52, 53, 54, 55] (by decide +kernel) (by decide +kernel)
set_option maxRecDepth 20000 in
theorem gX3_passAtHeads_X3_wordsOf : GoodIn wsX3_passAtHeads (wsV RX3 101 RX3 yX3_wordsOf wsX3_wordsOf) := goodIn_app (goodIn_of _ (by decide +kernel)) ggX3_passAtHeads_X3_wordsOf
set_option maxRecDepth 20000 in
theorem ggX3_passAtHeads_X2_valueAt : GoodIn wsX3_passAtHeads wsX2_valueAt := goodIn_r _ [38, 16, 28, 39, 56, 57, 58, 59] (by decide +kernel) (by decide +kernel)
set_option maxRecDepth 20000 in
theorem gX3_passAtHeads_X2_valueAt : GoodIn wsX3_passAtHeads (wsV RX3 211 RX2 yX2_valueAt wsX2_valueAt) := goodIn_app (goodIn_of _ (by decide +kernel)) ggX3_passAtHeads_X2_valueAt
theorem dX3_passAtHeads_0 : decode cX3_passAtHeads 0 = .ok (.iconst 0, 1) := by decide +kernel
theorem dX3_passAtHeads_1 : decode cX3_passAtHeads 1 = .ok (.istore_n 2, 1) := by decide +kernel
theorem dX3_passAtHeads_2 : decode cX3_passAtHeads 2 = .ok (.iload_n 2, 1) := by decide +kernel
theorem dX3_passAtHeads_3 : decode cX3_passAtHeads 3 = .ok (.aload_n 0, 1) := by decide +kernel
theorem dX3_passAtHeads_4 : decode cX3_passAtHeads 4 = .ok (.getfield 10, 3) := by decide +kernel
theorem dX3_passAtHeads_7 : decode cX3_passAtHeads 7 = .ok (.getfield 74, 3) := by decide +kernel
theorem dX3_passAtHeads_10 : decode cX3_passAtHeads 10 = .ok (.if_icmp .ge 37, 3) := by decide +kernel
theorem dX3_passAtHeads_13 : decode cX3_passAtHeads 13 = .ok (.aload_n 0, 1) := by decide +kernel
theorem dX3_passAtHeads_14 : decode cX3_passAtHeads 14 = .ok (.iload_n 2, 1) := by decide +kernel
theorem dX3_passAtHeads_15 : decode cX3_passAtHeads 15 = .ok (.invokevirtual 101, 3) := by decide +kernel
theorem dX3_passAtHeads_18 : decode cX3_passAtHeads 18 = .ok (.aload_n 0, 1) := by decide +kernel
theorem dX3_passAtHeads_19 : decode cX3_passAtHeads 19 = .ok (.getfield 54, 3) := by decide +kernel
theorem dX3_passAtHeads_22 : decode cX3_passAtHeads 22 = .ok (.iload_n 2, 1) := by decide +kernel
theorem dX3_passAtHeads_23 : decode cX3_passAtHeads 23 = .ok (.iaload, 1) := by decide +kernel
theorem dX3_passAtHeads_24 : decode cX3_passAtHeads 24 = .ok (.invokevirtual 211, 3) := by decide +kernel
theorem dX3_passAtHeads_27 : decode cX3_passAtHeads 27 = .ok (.iload_n 1, 1) := by decide +kernel
theorem dX3_passAtHeads_28 : decode cX3_passAtHeads 28 = .ok (.if_icmp .ne 13, 3) := by decide +kernel
theorem dX3_passAtHeads_31 : decode cX3_passAtHeads 31 = .ok (.aload_n 0, 1) := by decide +kernel
theorem dX3_passAtHeads_32 : decode cX3_passAtHeads 32 = .ok (.getfield 54, 3) := by decide +kernel
theorem dX3_passAtHeads_35 : decode cX3_passAtHeads 35 = .ok (.iload_n 2, 1) := by decide +kernel
theorem dX3_passAtHeads_36 : decode cX3_passAtHeads 36 = .ok (.dup2, 1) := by decide +kernel
theorem dX3_passAtHeads_37 : decode cX3_passAtHeads 37 = .ok (.iaload, 1) := by decide +kernel
theorem dX3_passAtHeads_38 : decode cX3_passAtHeads 38 = .ok (.iconst 1, 1) := by decide +kernel
theorem dX3_passAtHeads_39 : decode cX3_passAtHeads 39 = .ok (.iadd, 1) := by decide +kernel
theorem dX3_passAtHeads_40 : decode cX3_passAtHeads 40 = .ok (.iastore, 1) := by decide +kernel
theorem dX3_passAtHeads_41 : decode cX3_passAtHeads 41 = .ok (.iinc 2 1, 3) := by decide +kernel
theorem dX3_passAtHeads_44 : decode cX3_passAtHeads 44 = .ok (.goto (-42), 3) := by decide +kernel
theorem dX3_passAtHeads_47 : decode cX3_passAtHeads 47 = .ok (.return_, 1) := by decide +kernel
set_option maxRecDepth 20000 in
theorem ggX3_keptBeyond_X0_errorOfTold : GoodIn wsX3_keptBeyond wsX0_errorOfTold := goodIn_r _ [5, 6, 7, 8, 9, 10, 11, 12, 4, 13, 14, 15, 16, 17, 18, 19, 20, 21, 22, 23, 24, 25, 26, 27, 28, 29, 30, 31, 32, 33, 34, 35, 36, 37, 38, 39, 40, 41, 42, 43, 44] (by decide +kernel) (by decide +kernel)
set_option maxRecDepth 20000 in
theorem gX3_keptBeyond_X0_errorOfTold : GoodIn wsX3_keptBeyond (wsV RX3 173 RX0 yX0_errorOfTold wsX0_errorOfTold) := goodIn_app (goodIn_of _ (by decide +kernel)) ggX3_keptBeyond_X0_errorOfTold
theorem dX3_keptBeyond_0 : decode cX3_keptBeyond 0 = .ok (.lconst 0, 1) := by decide +kernel
theorem dX3_keptBeyond_1 : decode cX3_keptBeyond 1 = .ok (.lstore_n 2, 1) := by decide +kernel
theorem dX3_keptBeyond_2 : decode cX3_keptBeyond 2 = .ok (.iconst 1, 1) := by decide +kernel
theorem dX3_keptBeyond_3 : decode cX3_keptBeyond 3 = .ok (.istore 4, 2) := by decide +kernel
theorem dX3_keptBeyond_5 : decode cX3_keptBeyond 5 = .ok (.iload 4, 2) := by decide +kernel
theorem dX3_keptBeyond_7 : decode cX3_keptBeyond 7 = .ok (.bipush 32, 2) := by decide +kernel
theorem dX3_keptBeyond_9 : decode cX3_keptBeyond 9 = .ok (.if_icmp .gt 26, 3) := by decide +kernel
theorem dX3_keptBeyond_12 : decode cX3_keptBeyond 12 = .ok (.aload_n 0, 1) := by decide +kernel
theorem dX3_keptBeyond_13 : decode cX3_keptBeyond 13 = .ok (.iload 4, 2) := by decide +kernel
theorem dX3_keptBeyond_15 : decode cX3_keptBeyond 15 = .ok (.invokevirtual 173, 3) := by decide +kernel
theorem dX3_keptBeyond_18 : decode cX3_keptBeyond 18 = .ok (.iload_n 1, 1) := by decide +kernel
theorem dX3_keptBeyond_19 : decode cX3_keptBeyond 19 = .ok (.if_icmp .le 10, 3) := by decide +kernel
theorem dX3_keptBeyond_22 : decode cX3_keptBeyond 22 = .ok (.lload_n 2, 1) := by decide +kernel
theorem dX3_keptBeyond_23 : decode cX3_keptBeyond 23 = .ok (.lconst 1, 1) := by decide +kernel
theorem dX3_keptBeyond_24 : decode cX3_keptBeyond 24 = .ok (.iload 4, 2) := by decide +kernel
theorem dX3_keptBeyond_26 : decode cX3_keptBeyond 26 = .ok (.lshl, 1) := by decide +kernel
theorem dX3_keptBeyond_27 : decode cX3_keptBeyond 27 = .ok (.lor, 1) := by decide +kernel
theorem dX3_keptBeyond_28 : decode cX3_keptBeyond 28 = .ok (.lstore_n 2, 1) := by decide +kernel
theorem dX3_keptBeyond_29 : decode cX3_keptBeyond 29 = .ok (.iinc 4 1, 3) := by decide +kernel
theorem dX3_keptBeyond_32 : decode cX3_keptBeyond 32 = .ok (.goto (-27), 3) := by decide +kernel
theorem dX3_keptBeyond_35 : decode cX3_keptBeyond 35 = .ok (.lload_n 2, 1) := by decide +kernel
theorem dX3_keptBeyond_36 : decode cX3_keptBeyond 36 = .ok (.lreturn, 1) := by decide +kernel
set_option maxRecDepth 20000 in
theorem ggX3_toldAtLeast_X3_pairOf : GoodIn wsX3_toldAtLeast wsX3_pairOf := goodIn_r _ [8, 9, 10, 11, 12, 7, 13, 14, 15, 1, 16, 17, 18, 19, 20, 21, 22, 23, 24, 25, 26, 27, 28, 29, 30, 31, 32, 33, 34, 35, 36, 37, 38, 39, 40, 41, 42, 43, 44, 45, 46, 47, 48, 49, 50, 51, 52, 53, 54, 55, 56, 57, 58, 59, 81, 82, 83, 84, 85, 86, 87, 88, 89, 90, 91, 96, 97, 98, 99, 92, 93, 94, 95, 100, 101, 102, 103, 104, 105, 106] (by decide +kernel) (by decide +kernel)
set_option maxRecDepth 20000 in
theorem gX3_toldAtLeast_X3_pairOf : GoodIn wsX3_toldAtLeast (wsV RX3 127 RX3 yX3_pairOf wsX3_pairOf) := goodIn_app (goodIn_of _ (by decide +kernel)) ggX3_toldAtLeast_X3_pairOf
set_option maxRecDepth 20000 in
theorem ggX3_toldAtLeast_X0_toldShare : GoodIn wsX3_toldAtLeast wsX0_toldShare := goodIn_r _ [63, 64, 65, 66, 48, 67, 58, 68, 69, 70, 71, 53, 72, 73, 74, 75, 76, 77, 78, 79, 7, 80, 100, 101, 102, 103, 104, 105, 106] (by decide +kernel) (by decide +kernel)
set_option maxRecDepth 20000 in
theorem gX3_toldAtLeast_X0_toldShare : GoodIn wsX3_toldAtLeast (wsV RX3 137 RX0 yX0_toldShare wsX0_toldShare) := goodIn_app (goodIn_of _ (by decide +kernel)) ggX3_toldAtLeast_X0_toldShare
theorem dX3_toldAtLeast_0 : decode cX3_toldAtLeast 0 = .ok (.iconst 0, 1) := by decide +kernel
theorem dX3_toldAtLeast_1 : decode cX3_toldAtLeast 1 = .ok (.istore_n 3, 1) := by decide +kernel
theorem dX3_toldAtLeast_2 : decode cX3_toldAtLeast 2 = .ok (.iconst 0, 1) := by decide +kernel
theorem dX3_toldAtLeast_3 : decode cX3_toldAtLeast 3 = .ok (.istore 4, 2) := by decide +kernel
theorem dX3_toldAtLeast_5 : decode cX3_toldAtLeast 5 = .ok (.iload 4, 2) := by decide +kernel
theorem dX3_toldAtLeast_7 : decode cX3_toldAtLeast 7 = .ok (.aload_n 0, 1) := by decide +kernel
theorem dX3_toldAtLeast_8 : decode cX3_toldAtLeast 8 = .ok (.getfield 10, 3) := by decide +kernel
theorem dX3_toldAtLeast_11 : decode cX3_toldAtLeast 11 = .ok (.getfield 74, 3) := by decide +kernel
theorem dX3_toldAtLeast_14 : decode cX3_toldAtLeast 14 = .ok (.if_icmp .ge 39, 3) := by decide +kernel
theorem dX3_toldAtLeast_17 : decode cX3_toldAtLeast 17 = .ok (.aload_n 0, 1) := by decide +kernel
theorem dX3_toldAtLeast_18 : decode cX3_toldAtLeast 18 = .ok (.iload_n 1, 1) := by decide +kernel
theorem dX3_toldAtLeast_19 : decode cX3_toldAtLeast 19 = .ok (.iload 4, 2) := by decide +kernel
theorem dX3_toldAtLeast_21 : decode cX3_toldAtLeast 21 = .ok (.invokevirtual 127, 3) := by decide +kernel
theorem dX3_toldAtLeast_24 : decode cX3_toldAtLeast 24 = .ok (.aload_n 0, 1) := by decide +kernel
theorem dX3_toldAtLeast_25 : decode cX3_toldAtLeast 25 = .ok (.getfield 10, 3) := by decide +kernel
theorem dX3_toldAtLeast_28 : decode cX3_toldAtLeast 28 = .ok (.getfield 67, 3) := by decide +kernel
theorem dX3_toldAtLeast_31 : decode cX3_toldAtLeast 31 = .ok (.iconst 1, 1) := by decide +kernel
theorem dX3_toldAtLeast_32 : decode cX3_toldAtLeast 32 = .ok (.iaload, 1) := by decide +kernel
theorem dX3_toldAtLeast_33 : decode cX3_toldAtLeast 33 = .ok (.invokevirtual 137, 3) := by decide +kernel
theorem dX3_toldAtLeast_36 : decode cX3_toldAtLeast 36 = .ok (.iload_n 2, 1) := by decide +kernel
theorem dX3_toldAtLeast_37 : decode cX3_toldAtLeast 37 = .ok (.if_icmp .lt 10, 3) := by decide +kernel
theorem dX3_toldAtLeast_40 : decode cX3_toldAtLeast 40 = .ok (.iload_n 3, 1) := by decide +kernel
theorem dX3_toldAtLeast_41 : decode cX3_toldAtLeast 41 = .ok (.iconst 1, 1) := by decide +kernel
theorem dX3_toldAtLeast_42 : decode cX3_toldAtLeast 42 = .ok (.iload 4, 2) := by decide +kernel
theorem dX3_toldAtLeast_44 : decode cX3_toldAtLeast 44 = .ok (.ishl, 1) := by decide +kernel
theorem dX3_toldAtLeast_45 : decode cX3_toldAtLeast 45 = .ok (.ior, 1) := by decide +kernel
theorem dX3_toldAtLeast_46 : decode cX3_toldAtLeast 46 = .ok (.istore_n 3, 1) := by decide +kernel
theorem dX3_toldAtLeast_47 : decode cX3_toldAtLeast 47 = .ok (.iinc 4 1, 3) := by decide +kernel
theorem dX3_toldAtLeast_50 : decode cX3_toldAtLeast 50 = .ok (.goto (-45), 3) := by decide +kernel
theorem dX3_toldAtLeast_53 : decode cX3_toldAtLeast 53 = .ok (.iload_n 3, 1) := by decide +kernel
theorem dX3_toldAtLeast_54 : decode cX3_toldAtLeast 54 = .ok (.ireturn, 1) := by decide +kernel
theorem dX3_lowestIn_0 : decode cX3_lowestIn 0 = .ok (.iconst 0, 1) := by decide +kernel
theorem dX3_lowestIn_1 : decode cX3_lowestIn 1 = .ok (.istore_n 1, 1) := by decide +kernel
theorem dX3_lowestIn_2 : decode cX3_lowestIn 2 = .ok (.iload_n 1, 1) := by decide +kernel
theorem dX3_lowestIn_3 : decode cX3_lowestIn 3 = .ok (.bipush 10, 2) := by decide +kernel
theorem dX3_lowestIn_5 : decode cX3_lowestIn 5 = .ok (.if_icmp .ge 19, 3) := by decide +kernel
theorem dX3_lowestIn_8 : decode cX3_lowestIn 8 = .ok (.iload_n 0, 1) := by decide +kernel
theorem dX3_lowestIn_9 : decode cX3_lowestIn 9 = .ok (.iconst 1, 1) := by decide +kernel
theorem dX3_lowestIn_10 : decode cX3_lowestIn 10 = .ok (.iload_n 1, 1) := by decide +kernel
theorem dX3_lowestIn_11 : decode cX3_lowestIn 11 = .ok (.ishl, 1) := by decide +kernel
theorem dX3_lowestIn_12 : decode cX3_lowestIn 12 = .ok (.iand, 1) := by decide +kernel
theorem dX3_lowestIn_13 : decode cX3_lowestIn 13 = .ok (.ifCond .eq 5, 3) := by decide +kernel
theorem dX3_lowestIn_16 : decode cX3_lowestIn 16 = .ok (.iload_n 1, 1) := by decide +kernel
theorem dX3_lowestIn_17 : decode cX3_lowestIn 17 = .ok (.ireturn, 1) := by decide +kernel
theorem dX3_lowestIn_18 : decode cX3_lowestIn 18 = .ok (.iinc 1 1, 3) := by decide +kernel
theorem dX3_lowestIn_21 : decode cX3_lowestIn 21 = .ok (.goto (-19), 3) := by decide +kernel
theorem dX3_lowestIn_24 : decode cX3_lowestIn 24 = .ok (.iconst 0, 1) := by decide +kernel
theorem dX3_lowestIn_25 : decode cX3_lowestIn 25 = .ok (.ireturn, 1) := by decide +kernel
theorem dX3_shareDown_0 : decode cX3_shareDown 0 = .ok (.iload_n 1, 1) := by decide +kernel
theorem dX3_shareDown_1 : decode cX3_shareDown 1 = .ok (.ifCond .gt 7, 3) := by decide +kernel
theorem dX3_shareDown_4 : decode cX3_shareDown 4 = .ok (.iconst 0, 1) := by decide +kernel
theorem dX3_shareDown_5 : decode cX3_shareDown 5 = .ok (.goto 10, 3) := by decide +kernel
theorem dX3_shareDown_8 : decode cX3_shareDown 8 = .ok (.iload_n 0, 1) := by decide +kernel
theorem dX3_shareDown_9 : decode cX3_shareDown 9 = .ok (.sipush 10000, 3) := by decide +kernel
theorem dX3_shareDown_12 : decode cX3_shareDown 12 = .ok (.imul, 1) := by decide +kernel
theorem dX3_shareDown_13 : decode cX3_shareDown 13 = .ok (.iload_n 1, 1) := by decide +kernel
theorem dX3_shareDown_14 : decode cX3_shareDown 14 = .ok (.idiv, 1) := by decide +kernel
theorem dX3_shareDown_15 : decode cX3_shareDown 15 = .ok (.ireturn, 1) := by decide +kernel
theorem dX3_shareUp_0 : decode cX3_shareUp 0 = .ok (.iload_n 1, 1) := by decide +kernel
theorem dX3_shareUp_1 : decode cX3_shareUp 1 = .ok (.ifCond .gt 7, 3) := by decide +kernel
theorem dX3_shareUp_4 : decode cX3_shareUp 4 = .ok (.iconst 0, 1) := by decide +kernel
theorem dX3_shareUp_5 : decode cX3_shareUp 5 = .ok (.goto 14, 3) := by decide +kernel
theorem dX3_shareUp_8 : decode cX3_shareUp 8 = .ok (.iload_n 0, 1) := by decide +kernel
theorem dX3_shareUp_9 : decode cX3_shareUp 9 = .ok (.sipush 10000, 3) := by decide +kernel
theorem dX3_shareUp_12 : decode cX3_shareUp 12 = .ok (.imul, 1) := by decide +kernel
theorem dX3_shareUp_13 : decode cX3_shareUp 13 = .ok (.iload_n 1, 1) := by decide +kernel
theorem dX3_shareUp_14 : decode cX3_shareUp 14 = .ok (.iadd, 1) := by decide +kernel
theorem dX3_shareUp_15 : decode cX3_shareUp 15 = .ok (.iconst 1, 1) := by decide +kernel
theorem dX3_shareUp_16 : decode cX3_shareUp 16 = .ok (.isub, 1) := by decide +kernel
theorem dX3_shareUp_17 : decode cX3_shareUp 17 = .ok (.iload_n 1, 1) := by decide +kernel
theorem dX3_shareUp_18 : decode cX3_shareUp 18 = .ok (.idiv, 1) := by decide +kernel
theorem dX3_shareUp_19 : decode cX3_shareUp 19 = .ok (.ireturn, 1) := by decide +kernel
theorem dX3_codeIn_0 : decode cX3_codeIn 0 = .ok (.lload_n 0, 1) := by decide +kernel
theorem dX3_codeIn_1 : decode cX3_codeIn 1 = .ok (.bipush 8, 2) := by decide +kernel
theorem dX3_codeIn_3 : decode cX3_codeIn 3 = .ok (.iload_n 2, 1) := by decide +kernel
theorem dX3_codeIn_4 : decode cX3_codeIn 4 = .ok (.imul, 1) := by decide +kernel
theorem dX3_codeIn_5 : decode cX3_codeIn 5 = .ok (.lushr, 1) := by decide +kernel
theorem dX3_codeIn_6 : decode cX3_codeIn 6 = .ok (.ldc2_w 225, 3) := by decide +kernel
theorem dX3_codeIn_9 : decode cX3_codeIn 9 = .ok (.land, 1) := by decide +kernel
theorem dX3_codeIn_10 : decode cX3_codeIn 10 = .ok (.l2i, 1) := by decide +kernel
theorem dX3_codeIn_11 : decode cX3_codeIn 11 = .ok (.ireturn, 1) := by decide +kernel
set_option maxRecDepth 20000 in
theorem ggX3_charactersIn_X3_codeIn : GoodIn wsX3_charactersIn wsX3_codeIn := goodIn_r _ [4, 5] (by decide +kernel) (by decide +kernel)
set_option maxRecDepth 20000 in
theorem gX3_charactersIn_X3_codeIn : GoodIn wsX3_charactersIn (va_wsS RX3 190 yX3_codeIn wsX3_codeIn) := goodIn_app (goodIn_of _ (by decide +kernel)) ggX3_charactersIn_X3_codeIn
theorem dX3_charactersIn_0 : decode cX3_charactersIn 0 = .ok (.iconst 0, 1) := by decide +kernel
theorem dX3_charactersIn_1 : decode cX3_charactersIn 1 = .ok (.istore_n 2, 1) := by decide +kernel
theorem dX3_charactersIn_2 : decode cX3_charactersIn 2 = .ok (.iconst 0, 1) := by decide +kernel
theorem dX3_charactersIn_3 : decode cX3_charactersIn 3 = .ok (.istore_n 3, 1) := by decide +kernel
theorem dX3_charactersIn_4 : decode cX3_charactersIn 4 = .ok (.iload_n 3, 1) := by decide +kernel
theorem dX3_charactersIn_5 : decode cX3_charactersIn 5 = .ok (.bipush 8, 2) := by decide +kernel
theorem dX3_charactersIn_7 : decode cX3_charactersIn 7 = .ok (.if_icmp .ge 48, 3) := by decide +kernel
theorem dX3_charactersIn_10 : decode cX3_charactersIn 10 = .ok (.lload_n 0, 1) := by decide +kernel
theorem dX3_charactersIn_11 : decode cX3_charactersIn 11 = .ok (.iload_n 3, 1) := by decide +kernel
theorem dX3_charactersIn_12 : decode cX3_charactersIn 12 = .ok (.invokestatic 190, 3) := by decide +kernel
theorem dX3_charactersIn_15 : decode cX3_charactersIn 15 = .ok (.istore 4, 2) := by decide +kernel
theorem dX3_charactersIn_17 : decode cX3_charactersIn 17 = .ok (.iload 4, 2) := by decide +kernel
theorem dX3_charactersIn_19 : decode cX3_charactersIn 19 = .ok (.ifCond .ne 6, 3) := by decide +kernel
theorem dX3_charactersIn_22 : decode cX3_charactersIn 22 = .ok (.goto 27, 3) := by decide +kernel
theorem dX3_charactersIn_25 : decode cX3_charactersIn 25 = .ok (.iload_n 2, 1) := by decide +kernel
theorem dX3_charactersIn_26 : decode cX3_charactersIn 26 = .ok (.iload_n 3, 1) := by decide +kernel
theorem dX3_charactersIn_27 : decode cX3_charactersIn 27 = .ok (.if_icmp .lt 17, 3) := by decide +kernel
theorem dX3_charactersIn_30 : decode cX3_charactersIn 30 = .ok (.iload 4, 2) := by decide +kernel
theorem dX3_charactersIn_32 : decode cX3_charactersIn 32 = .ok (.bipush 33, 2) := by decide +kernel
theorem dX3_charactersIn_34 : decode cX3_charactersIn 34 = .ok (.if_icmp .lt 10, 3) := by decide +kernel
theorem dX3_charactersIn_37 : decode cX3_charactersIn 37 = .ok (.iload 4, 2) := by decide +kernel
theorem dX3_charactersIn_39 : decode cX3_charactersIn 39 = .ok (.bipush 126, 2) := by decide +kernel
theorem dX3_charactersIn_41 : decode cX3_charactersIn 41 = .ok (.if_icmp .le 5, 3) := by decide +kernel
theorem dX3_charactersIn_44 : decode cX3_charactersIn 44 = .ok (.iconst 0, 1) := by decide +kernel
theorem dX3_charactersIn_45 : decode cX3_charactersIn 45 = .ok (.ireturn, 1) := by decide +kernel
theorem dX3_charactersIn_46 : decode cX3_charactersIn 46 = .ok (.iinc 2 1, 3) := by decide +kernel
theorem dX3_charactersIn_49 : decode cX3_charactersIn 49 = .ok (.iinc 3 1, 3) := by decide +kernel
theorem dX3_charactersIn_52 : decode cX3_charactersIn 52 = .ok (.goto (-48), 3) := by decide +kernel
theorem dX3_charactersIn_55 : decode cX3_charactersIn 55 = .ok (.iload_n 2, 1) := by decide +kernel
theorem dX3_charactersIn_56 : decode cX3_charactersIn 56 = .ok (.ireturn, 1) := by decide +kernel
theorem dX3_signOf_0 : decode cX3_signOf 0 = .ok (.iload_n 0, 1) := by decide +kernel
theorem dX3_signOf_1 : decode cX3_signOf 1 = .ok (.bipush 46, 2) := by decide +kernel
theorem dX3_signOf_3 : decode cX3_signOf 3 = .ok (.if_icmp .ne 6, 3) := by decide +kernel
theorem dX3_signOf_6 : decode cX3_signOf 6 = .ok (.bipush 26, 2) := by decide +kernel
theorem dX3_signOf_8 : decode cX3_signOf 8 = .ok (.ireturn, 1) := by decide +kernel
theorem dX3_signOf_9 : decode cX3_signOf 9 = .ok (.iload_n 0, 1) := by decide +kernel
theorem dX3_signOf_10 : decode cX3_signOf 10 = .ok (.bipush 97, 2) := by decide +kernel
theorem dX3_signOf_12 : decode cX3_signOf 12 = .ok (.if_icmp .lt 16, 3) := by decide +kernel
theorem dX3_signOf_15 : decode cX3_signOf 15 = .ok (.iload_n 0, 1) := by decide +kernel
theorem dX3_signOf_16 : decode cX3_signOf 16 = .ok (.bipush 122, 2) := by decide +kernel
theorem dX3_signOf_18 : decode cX3_signOf 18 = .ok (.if_icmp .gt 10, 3) := by decide +kernel
theorem dX3_signOf_21 : decode cX3_signOf 21 = .ok (.iload_n 0, 1) := by decide +kernel
theorem dX3_signOf_22 : decode cX3_signOf 22 = .ok (.bipush 97, 2) := by decide +kernel
theorem dX3_signOf_24 : decode cX3_signOf 24 = .ok (.isub, 1) := by decide +kernel
theorem dX3_signOf_25 : decode cX3_signOf 25 = .ok (.goto 5, 3) := by decide +kernel
theorem dX3_signOf_28 : decode cX3_signOf 28 = .ok (.bipush (-6), 2) := by decide +kernel
theorem dX3_signOf_30 : decode cX3_signOf 30 = .ok (.ireturn, 1) := by decide +kernel
set_option maxRecDepth 20000 in
theorem ggX3_padFault_X3_signOf : GoodIn wsX3_padFault wsX3_signOf := goodIn_r _ [6] (by decide +kernel) (by decide +kernel)
set_option maxRecDepth 20000 in
theorem gX3_padFault_X3_signOf : GoodIn wsX3_padFault (va_wsS RX3 227 yX3_signOf wsX3_signOf) := goodIn_app (goodIn_of _ (by decide +kernel)) ggX3_padFault_X3_signOf
theorem dX3_padFault_0 : decode cX3_padFault 0 = .ok (.aload_n 0, 1) := by decide +kernel
theorem dX3_padFault_1 : decode cX3_padFault 1 = .ok (.getfield 35, 3) := by decide +kernel
theorem dX3_padFault_4 : decode cX3_padFault 4 = .ok (.ifCond .ne 5, 3) := by decide +kernel
theorem dX3_padFault_7 : decode cX3_padFault 7 = .ok (.iconst 0, 1) := by decide +kernel
theorem dX3_padFault_8 : decode cX3_padFault 8 = .ok (.ireturn, 1) := by decide +kernel
theorem dX3_padFault_9 : decode cX3_padFault 9 = .ok (.iconst 0, 1) := by decide +kernel
theorem dX3_padFault_10 : decode cX3_padFault 10 = .ok (.istore_n 1, 1) := by decide +kernel
theorem dX3_padFault_11 : decode cX3_padFault 11 = .ok (.iload_n 1, 1) := by decide +kernel
theorem dX3_padFault_12 : decode cX3_padFault 12 = .ok (.aload_n 0, 1) := by decide +kernel
theorem dX3_padFault_13 : decode cX3_padFault 13 = .ok (.getfield 35, 3) := by decide +kernel
theorem dX3_padFault_16 : decode cX3_padFault 16 = .ok (.if_icmp .ge 25, 3) := by decide +kernel
theorem dX3_padFault_19 : decode cX3_padFault 19 = .ok (.aload_n 0, 1) := by decide +kernel
theorem dX3_padFault_20 : decode cX3_padFault 20 = .ok (.getfield 31, 3) := by decide +kernel
theorem dX3_padFault_23 : decode cX3_padFault 23 = .ok (.iload_n 1, 1) := by decide +kernel
theorem dX3_padFault_24 : decode cX3_padFault 24 = .ok (.iaload, 1) := by decide +kernel
theorem dX3_padFault_25 : decode cX3_padFault 25 = .ok (.invokestatic 227, 3) := by decide +kernel
theorem dX3_padFault_28 : decode cX3_padFault 28 = .ok (.bipush (-6), 2) := by decide +kernel
theorem dX3_padFault_30 : decode cX3_padFault 30 = .ok (.if_icmp .ne 5, 3) := by decide +kernel
theorem dX3_padFault_33 : decode cX3_padFault 33 = .ok (.iload_n 1, 1) := by decide +kernel
theorem dX3_padFault_34 : decode cX3_padFault 34 = .ok (.ireturn, 1) := by decide +kernel
theorem dX3_padFault_35 : decode cX3_padFault 35 = .ok (.iinc 1 1, 3) := by decide +kernel
theorem dX3_padFault_38 : decode cX3_padFault 38 = .ok (.goto (-27), 3) := by decide +kernel
theorem dX3_padFault_41 : decode cX3_padFault 41 = .ok (.bipush (-6), 2) := by decide +kernel
theorem dX3_padFault_43 : decode cX3_padFault 43 = .ok (.ireturn, 1) := by decide +kernel
set_option maxRecDepth 20000 in
theorem ggX3_movePadTo_X3_signOf : GoodIn wsX3_movePadTo wsX3_signOf := goodIn_r _ [9] (by decide +kernel) (by decide +kernel)
set_option maxRecDepth 20000 in
theorem gX3_movePadTo_X3_signOf : GoodIn wsX3_movePadTo (va_wsS RX3 227 yX3_signOf wsX3_signOf) := goodIn_app (goodIn_of _ (by decide +kernel)) ggX3_movePadTo_X3_signOf
theorem dX3_movePadTo_0 : decode cX3_movePadTo 0 = .ok (.iload_n 1, 1) := by decide +kernel
theorem dX3_movePadTo_1 : decode cX3_movePadTo 1 = .ok (.bipush 64, 2) := by decide +kernel
theorem dX3_movePadTo_3 : decode cX3_movePadTo 3 = .ok (.imul, 1) := by decide +kernel
theorem dX3_movePadTo_4 : decode cX3_movePadTo 4 = .ok (.aload_n 0, 1) := by decide +kernel
theorem dX3_movePadTo_5 : decode cX3_movePadTo 5 = .ok (.getfield 10, 3) := by decide +kernel
theorem dX3_movePadTo_8 : decode cX3_movePadTo 8 = .ok (.getfield 77, 3) := by decide +kernel
theorem dX3_movePadTo_11 : decode cX3_movePadTo 11 = .ok (.iload_n 1, 1) := by decide +kernel
theorem dX3_movePadTo_12 : decode cX3_movePadTo 12 = .ok (.iaload, 1) := by decide +kernel
theorem dX3_movePadTo_13 : decode cX3_movePadTo 13 = .ok (.iadd, 1) := by decide +kernel
theorem dX3_movePadTo_14 : decode cX3_movePadTo 14 = .ok (.istore_n 2, 1) := by decide +kernel
theorem dX3_movePadTo_15 : decode cX3_movePadTo 15 = .ok (.iconst 0, 1) := by decide +kernel
theorem dX3_movePadTo_16 : decode cX3_movePadTo 16 = .ok (.istore_n 3, 1) := by decide +kernel
theorem dX3_movePadTo_17 : decode cX3_movePadTo 17 = .ok (.iload_n 3, 1) := by decide +kernel
theorem dX3_movePadTo_18 : decode cX3_movePadTo 18 = .ok (.aload_n 0, 1) := by decide +kernel
theorem dX3_movePadTo_19 : decode cX3_movePadTo 19 = .ok (.getfield 35, 3) := by decide +kernel
theorem dX3_movePadTo_22 : decode cX3_movePadTo 22 = .ok (.if_icmp .ge 29, 3) := by decide +kernel
theorem dX3_movePadTo_25 : decode cX3_movePadTo 25 = .ok (.aload_n 0, 1) := by decide +kernel
theorem dX3_movePadTo_26 : decode cX3_movePadTo 26 = .ok (.getfield 10, 3) := by decide +kernel
theorem dX3_movePadTo_29 : decode cX3_movePadTo 29 = .ok (.getfield 92, 3) := by decide +kernel
theorem dX3_movePadTo_32 : decode cX3_movePadTo 32 = .ok (.iload_n 2, 1) := by decide +kernel
theorem dX3_movePadTo_33 : decode cX3_movePadTo 33 = .ok (.iload_n 3, 1) := by decide +kernel
theorem dX3_movePadTo_34 : decode cX3_movePadTo 34 = .ok (.iadd, 1) := by decide +kernel
theorem dX3_movePadTo_35 : decode cX3_movePadTo 35 = .ok (.aload_n 0, 1) := by decide +kernel
theorem dX3_movePadTo_36 : decode cX3_movePadTo 36 = .ok (.getfield 31, 3) := by decide +kernel
theorem dX3_movePadTo_39 : decode cX3_movePadTo 39 = .ok (.iload_n 3, 1) := by decide +kernel
theorem dX3_movePadTo_40 : decode cX3_movePadTo 40 = .ok (.iaload, 1) := by decide +kernel
theorem dX3_movePadTo_41 : decode cX3_movePadTo 41 = .ok (.invokestatic 227, 3) := by decide +kernel
theorem dX3_movePadTo_44 : decode cX3_movePadTo 44 = .ok (.iastore, 1) := by decide +kernel
theorem dX3_movePadTo_45 : decode cX3_movePadTo 45 = .ok (.iinc 3 1, 3) := by decide +kernel
theorem dX3_movePadTo_48 : decode cX3_movePadTo 48 = .ok (.goto (-31), 3) := by decide +kernel
theorem dX3_movePadTo_51 : decode cX3_movePadTo 51 = .ok (.aload_n 0, 1) := by decide +kernel
theorem dX3_movePadTo_52 : decode cX3_movePadTo 52 = .ok (.getfield 10, 3) := by decide +kernel
theorem dX3_movePadTo_55 : decode cX3_movePadTo 55 = .ok (.getfield 77, 3) := by decide +kernel
theorem dX3_movePadTo_58 : decode cX3_movePadTo 58 = .ok (.iload_n 1, 1) := by decide +kernel
theorem dX3_movePadTo_59 : decode cX3_movePadTo 59 = .ok (.dup2, 1) := by decide +kernel
theorem dX3_movePadTo_60 : decode cX3_movePadTo 60 = .ok (.iaload, 1) := by decide +kernel
theorem dX3_movePadTo_61 : decode cX3_movePadTo 61 = .ok (.aload_n 0, 1) := by decide +kernel
theorem dX3_movePadTo_62 : decode cX3_movePadTo 62 = .ok (.getfield 35, 3) := by decide +kernel
theorem dX3_movePadTo_65 : decode cX3_movePadTo 65 = .ok (.iadd, 1) := by decide +kernel
theorem dX3_movePadTo_66 : decode cX3_movePadTo 66 = .ok (.iastore, 1) := by decide +kernel
theorem dX3_movePadTo_67 : decode cX3_movePadTo 67 = .ok (.aload_n 0, 1) := by decide +kernel
theorem dX3_movePadTo_68 : decode cX3_movePadTo 68 = .ok (.iconst 0, 1) := by decide +kernel
theorem dX3_movePadTo_69 : decode cX3_movePadTo 69 = .ok (.putfield 35, 3) := by decide +kernel
theorem dX3_movePadTo_72 : decode cX3_movePadTo 72 = .ok (.return_, 1) := by decide +kernel
theorem dX4_init_0 : decode cX4_init 0 = .ok (.aload_n 0, 1) := by decide +kernel
theorem dX4_init_1 : decode cX4_init 1 = .ok (.invokespecial 1, 3) := by decide +kernel
theorem dX4_init_4 : decode cX4_init 4 = .ok (.aload_n 0, 1) := by decide +kernel
theorem dX4_init_5 : decode cX4_init 5 = .ok (.sipush 655, 3) := by decide +kernel
theorem dX4_init_8 : decode cX4_init 8 = .ok (.newarray .int, 2) := by decide +kernel
theorem dX4_init_10 : decode cX4_init 10 = .ok (.putfield 7, 3) := by decide +kernel
theorem dX4_init_13 : decode cX4_init 13 = .ok (.aload_n 0, 1) := by decide +kernel
theorem dX4_init_14 : decode cX4_init 14 = .ok (.sipush 3930, 3) := by decide +kernel
theorem dX4_init_17 : decode cX4_init 17 = .ok (.newarray .int, 2) := by decide +kernel
theorem dX4_init_19 : decode cX4_init 19 = .ok (.putfield 13, 3) := by decide +kernel
theorem dX4_init_22 : decode cX4_init 22 = .ok (.aload_n 0, 1) := by decide +kernel
theorem dX4_init_23 : decode cX4_init 23 = .ok (.sipush 1310, 3) := by decide +kernel
theorem dX4_init_26 : decode cX4_init 26 = .ok (.newarray .int, 2) := by decide +kernel
theorem dX4_init_28 : decode cX4_init 28 = .ok (.putfield 16, 3) := by decide +kernel
theorem dX4_init_31 : decode cX4_init 31 = .ok (.aload_n 0, 1) := by decide +kernel
theorem dX4_init_32 : decode cX4_init 32 = .ok (.iconst 2, 1) := by decide +kernel
theorem dX4_init_33 : decode cX4_init 33 = .ok (.newarray .boolean, 2) := by decide +kernel
theorem dX4_init_35 : decode cX4_init 35 = .ok (.putfield 19, 3) := by decide +kernel
theorem dX4_init_38 : decode cX4_init 38 = .ok (.aload_n 0, 1) := by decide +kernel
theorem dX4_init_39 : decode cX4_init 39 = .ok (.bipush 64, 2) := by decide +kernel
theorem dX4_init_41 : decode cX4_init 41 = .ok (.newarray .int, 2) := by decide +kernel
theorem dX4_init_43 : decode cX4_init 43 = .ok (.putfield 23, 3) := by decide +kernel
theorem dX4_init_46 : decode cX4_init 46 = .ok (.aload_n 0, 1) := by decide +kernel
theorem dX4_init_47 : decode cX4_init 47 = .ok (.sipush 128, 3) := by decide +kernel
theorem dX4_init_50 : decode cX4_init 50 = .ok (.newarray .int, 2) := by decide +kernel
theorem dX4_init_52 : decode cX4_init 52 = .ok (.putfield 26, 3) := by decide +kernel
theorem dX4_init_55 : decode cX4_init 55 = .ok (.aload_n 0, 1) := by decide +kernel
theorem dX4_init_56 : decode cX4_init 56 = .ok (.sipush 128, 3) := by decide +kernel
theorem dX4_init_59 : decode cX4_init 59 = .ok (.newarray .int, 2) := by decide +kernel
theorem dX4_init_61 : decode cX4_init 61 = .ok (.putfield 29, 3) := by decide +kernel
theorem dX4_init_64 : decode cX4_init 64 = .ok (.aload_n 0, 1) := by decide +kernel
theorem dX4_init_65 : decode cX4_init 65 = .ok (.sipush 128, 3) := by decide +kernel
theorem dX4_init_68 : decode cX4_init 68 = .ok (.newarray .int, 2) := by decide +kernel
theorem dX4_init_70 : decode cX4_init 70 = .ok (.putfield 32, 3) := by decide +kernel
theorem dX4_init_73 : decode cX4_init 73 = .ok (.aload_n 0, 1) := by decide +kernel
theorem dX4_init_74 : decode cX4_init 74 = .ok (.iconst 2, 1) := by decide +kernel
theorem dX4_init_75 : decode cX4_init 75 = .ok (.newarray .int, 2) := by decide +kernel
theorem dX4_init_77 : decode cX4_init 77 = .ok (.putfield 35, 3) := by decide +kernel
theorem dX4_init_80 : decode cX4_init 80 = .ok (.aload_n 0, 1) := by decide +kernel
theorem dX4_init_81 : decode cX4_init 81 = .ok (.getfield 7, 3) := by decide +kernel
theorem dX4_init_84 : decode cX4_init 84 = .ok (.iconst 0, 1) := by decide +kernel
theorem dX4_init_85 : decode cX4_init 85 = .ok (.iconst 3, 1) := by decide +kernel
theorem dX4_init_86 : decode cX4_init 86 = .ok (.iastore, 1) := by decide +kernel
theorem dX4_init_87 : decode cX4_init 87 = .ok (.aload_n 0, 1) := by decide +kernel
theorem dX4_init_88 : decode cX4_init 88 = .ok (.getfield 7, 3) := by decide +kernel
theorem dX4_init_91 : decode cX4_init 91 = .ok (.iconst 1, 1) := by decide +kernel
theorem dX4_init_92 : decode cX4_init 92 = .ok (.bipush 8, 2) := by decide +kernel
theorem dX4_init_94 : decode cX4_init 94 = .ok (.iastore, 1) := by decide +kernel
theorem dX4_init_95 : decode cX4_init 95 = .ok (.aload_n 0, 1) := by decide +kernel
theorem dX4_init_96 : decode cX4_init 96 = .ok (.getfield 7, 3) := by decide +kernel
theorem dX4_init_99 : decode cX4_init 99 = .ok (.iconst 2, 1) := by decide +kernel
theorem dX4_init_100 : decode cX4_init 100 = .ok (.sipush 7919, 3) := by decide +kernel
theorem dX4_init_103 : decode cX4_init 103 = .ok (.iastore, 1) := by decide +kernel
theorem dX4_init_104 : decode cX4_init 104 = .ok (.aload_n 0, 1) := by decide +kernel
theorem dX4_init_105 : decode cX4_init 105 = .ok (.getfield 7, 3) := by decide +kernel
theorem dX4_init_108 : decode cX4_init 108 = .ok (.iconst 3, 1) := by decide +kernel
theorem dX4_init_109 : decode cX4_init 109 = .ok (.ldc 38, 2) := by decide +kernel
theorem dX4_init_111 : decode cX4_init 111 = .ok (.iastore, 1) := by decide +kernel
theorem dX4_init_112 : decode cX4_init 112 = .ok (.return_, 1) := by decide +kernel
theorem dX4_in_0 : decode cX4_in 0 = .ok (.iload_n 0, 1) := by decide +kernel
theorem dX4_in_1 : decode cX4_in 1 = .ok (.iload_n 1, 1) := by decide +kernel
theorem dX4_in_2 : decode cX4_in 2 = .ok (.if_icmp .lt 12, 3) := by decide +kernel
theorem dX4_in_5 : decode cX4_in 5 = .ok (.iload_n 0, 1) := by decide +kernel
theorem dX4_in_6 : decode cX4_in 6 = .ok (.iload_n 2, 1) := by decide +kernel
theorem dX4_in_7 : decode cX4_in 7 = .ok (.if_icmp .gt 7, 3) := by decide +kernel
theorem dX4_in_10 : decode cX4_in 10 = .ok (.iconst 1, 1) := by decide +kernel
theorem dX4_in_11 : decode cX4_in 11 = .ok (.goto 4, 3) := by decide +kernel
theorem dX4_in_14 : decode cX4_in 14 = .ok (.iconst 0, 1) := by decide +kernel
theorem dX4_in_15 : decode cX4_in 15 = .ok (.ireturn, 1) := by decide +kernel
set_option maxRecDepth 20000 in
theorem ggX4_isRow_X4_in : GoodIn wsX4_isRow wsX4_in := goodIn_r _ [5] (by decide +kernel) (by decide +kernel)
set_option maxRecDepth 20000 in
theorem gX4_isRow_X4_in : GoodIn wsX4_isRow (va_wsS RX4 39 yX4_in wsX4_in) := goodIn_app (goodIn_of _ (by decide +kernel)) ggX4_isRow_X4_in
theorem dX4_isRow_0 : decode cX4_isRow 0 = .ok (.iload_n 1, 1) := by decide +kernel
theorem dX4_isRow_1 : decode cX4_isRow 1 = .ok (.iconst 0, 1) := by decide +kernel
theorem dX4_isRow_2 : decode cX4_isRow 2 = .ok (.aload_n 0, 1) := by decide +kernel
theorem dX4_isRow_3 : decode cX4_isRow 3 = .ok (.getfield 7, 3) := by decide +kernel
theorem dX4_isRow_6 : decode cX4_isRow 6 = .ok (.iconst 4, 1) := by decide +kernel
theorem dX4_isRow_7 : decode cX4_isRow 7 = .ok (.iaload, 1) := by decide +kernel
theorem dX4_isRow_8 : decode cX4_isRow 8 = .ok (.iconst 1, 1) := by decide +kernel
theorem dX4_isRow_9 : decode cX4_isRow 9 = .ok (.isub, 1) := by decide +kernel
theorem dX4_isRow_10 : decode cX4_isRow 10 = .ok (.invokestatic 39, 3) := by decide +kernel
theorem dX4_isRow_13 : decode cX4_isRow 13 = .ok (.ireturn, 1) := by decide +kernel
set_option maxRecDepth 20000 in
theorem ggX4_isPlace_X4_isRow : GoodIn wsX4_isPlace wsX4_isRow := goodIn_r _ [6, 1, 7, 8, 5, 9, 10, 11, 12, 13, 14, 15, 16, 17, 18, 19, 20, 21, 22, 23, 24] (by decide +kernel) (by decide +kernel)
set_option maxRecDepth 20000 in
theorem gX4_isPlace_X4_isRow : GoodIn wsX4_isPlace (wsV RX4 43 RX4 yX4_isRow wsX4_isRow) := goodIn_app (goodIn_of _ (by decide +kernel)) ggX4_isPlace_X4_isRow
set_option maxRecDepth 20000 in
theorem ggX4_isPlace_X4_in : GoodIn wsX4_isPlace wsX4_in := goodIn_r _ [9] (by decide +kernel) (by decide +kernel)
set_option maxRecDepth 20000 in
theorem gX4_isPlace_X4_in : GoodIn wsX4_isPlace (va_wsS RX4 39 yX4_in wsX4_in) := goodIn_app (goodIn_of _ (by decide +kernel)) ggX4_isPlace_X4_in
theorem dX4_isPlace_0 : decode cX4_isPlace 0 = .ok (.aload_n 0, 1) := by decide +kernel
theorem dX4_isPlace_1 : decode cX4_isPlace 1 = .ok (.iload_n 1, 1) := by decide +kernel
theorem dX4_isPlace_2 : decode cX4_isPlace 2 = .ok (.invokevirtual 43, 3) := by decide +kernel
theorem dX4_isPlace_5 : decode cX4_isPlace 5 = .ok (.ifCond .eq 25, 3) := by decide +kernel
theorem dX4_isPlace_8 : decode cX4_isPlace 8 = .ok (.iload_n 2, 1) := by decide +kernel
theorem dX4_isPlace_9 : decode cX4_isPlace 9 = .ok (.iconst 0, 1) := by decide +kernel
theorem dX4_isPlace_10 : decode cX4_isPlace 10 = .ok (.aload_n 0, 1) := by decide +kernel
theorem dX4_isPlace_11 : decode cX4_isPlace 11 = .ok (.getfield 7, 3) := by decide +kernel
theorem dX4_isPlace_14 : decode cX4_isPlace 14 = .ok (.iconst 5, 1) := by decide +kernel
theorem dX4_isPlace_15 : decode cX4_isPlace 15 = .ok (.iload_n 1, 1) := by decide +kernel
theorem dX4_isPlace_16 : decode cX4_isPlace 16 = .ok (.iadd, 1) := by decide +kernel
theorem dX4_isPlace_17 : decode cX4_isPlace 17 = .ok (.iaload, 1) := by decide +kernel
theorem dX4_isPlace_18 : decode cX4_isPlace 18 = .ok (.iconst 1, 1) := by decide +kernel
theorem dX4_isPlace_19 : decode cX4_isPlace 19 = .ok (.isub, 1) := by decide +kernel
theorem dX4_isPlace_20 : decode cX4_isPlace 20 = .ok (.invokestatic 39, 3) := by decide +kernel
theorem dX4_isPlace_23 : decode cX4_isPlace 23 = .ok (.ifCond .eq 7, 3) := by decide +kernel
theorem dX4_isPlace_26 : decode cX4_isPlace 26 = .ok (.iconst 1, 1) := by decide +kernel
theorem dX4_isPlace_27 : decode cX4_isPlace 27 = .ok (.goto 4, 3) := by decide +kernel
theorem dX4_isPlace_30 : decode cX4_isPlace 30 = .ok (.iconst 0, 1) := by decide +kernel
theorem dX4_isPlace_31 : decode cX4_isPlace 31 = .ok (.ireturn, 1) := by decide +kernel
theorem dX4_at_0 : decode cX4_at 0 = .ok (.aload_n 0, 1) := by decide +kernel
theorem dX4_at_1 : decode cX4_at 1 = .ok (.getfield 7, 3) := by decide +kernel
theorem dX4_at_4 : decode cX4_at 4 = .ok (.bipush 15, 2) := by decide +kernel
theorem dX4_at_6 : decode cX4_at 6 = .ok (.bipush 64, 2) := by decide +kernel
theorem dX4_at_8 : decode cX4_at 8 = .ok (.iload_n 1, 1) := by decide +kernel
theorem dX4_at_9 : decode cX4_at 9 = .ok (.imul, 1) := by decide +kernel
theorem dX4_at_10 : decode cX4_at 10 = .ok (.iadd, 1) := by decide +kernel
theorem dX4_at_11 : decode cX4_at 11 = .ok (.iload_n 2, 1) := by decide +kernel
theorem dX4_at_12 : decode cX4_at 12 = .ok (.iadd, 1) := by decide +kernel
theorem dX4_at_13 : decode cX4_at 13 = .ok (.iaload, 1) := by decide +kernel
theorem dX4_at_14 : decode cX4_at 14 = .ok (.ireturn, 1) := by decide +kernel
theorem dX4_know_0 : decode cX4_know 0 = .ok (.aload_n 0, 1) := by decide +kernel
theorem dX4_know_1 : decode cX4_know 1 = .ok (.getfield 47, 3) := by decide +kernel
theorem dX4_know_4 : decode cX4_know 4 = .ok (.bipush 6, 2) := by decide +kernel
theorem dX4_know_6 : decode cX4_know 6 = .ok (.if_icmp .ne 44, 3) := by decide +kernel
theorem dX4_know_9 : decode cX4_know 9 = .ok (.iconst 0, 1) := by decide +kernel
theorem dX4_know_10 : decode cX4_know 10 = .ok (.istore_n 1, 1) := by decide +kernel
theorem dX4_know_11 : decode cX4_know 11 = .ok (.iload_n 1, 1) := by decide +kernel
theorem dX4_know_12 : decode cX4_know 12 = .ok (.sipush 3275, 3) := by decide +kernel
theorem dX4_know_15 : decode cX4_know 15 = .ok (.if_icmp .ge 25, 3) := by decide +kernel
theorem dX4_know_18 : decode cX4_know 18 = .ok (.aload_n 0, 1) := by decide +kernel
theorem dX4_know_19 : decode cX4_know 19 = .ok (.getfield 13, 3) := by decide +kernel
theorem dX4_know_22 : decode cX4_know 22 = .ok (.iload_n 1, 1) := by decide +kernel
theorem dX4_know_23 : decode cX4_know 23 = .ok (.aload_n 0, 1) := by decide +kernel
theorem dX4_know_24 : decode cX4_know 24 = .ok (.getfield 13, 3) := by decide +kernel
theorem dX4_know_27 : decode cX4_know 27 = .ok (.sipush 655, 3) := by decide +kernel
theorem dX4_know_30 : decode cX4_know 30 = .ok (.iload_n 1, 1) := by decide +kernel
theorem dX4_know_31 : decode cX4_know 31 = .ok (.iadd, 1) := by decide +kernel
theorem dX4_know_32 : decode cX4_know 32 = .ok (.iaload, 1) := by decide +kernel
theorem dX4_know_33 : decode cX4_know 33 = .ok (.iastore, 1) := by decide +kernel
theorem dX4_know_34 : decode cX4_know 34 = .ok (.iinc 1 1, 3) := by decide +kernel
theorem dX4_know_37 : decode cX4_know 37 = .ok (.goto (-26), 3) := by decide +kernel
theorem dX4_know_40 : decode cX4_know 40 = .ok (.aload_n 0, 1) := by decide +kernel
theorem dX4_know_41 : decode cX4_know 41 = .ok (.dup, 1) := by decide +kernel
theorem dX4_know_42 : decode cX4_know 42 = .ok (.getfield 47, 3) := by decide +kernel
theorem dX4_know_45 : decode cX4_know 45 = .ok (.iconst 1, 1) := by decide +kernel
theorem dX4_know_46 : decode cX4_know 46 = .ok (.isub, 1) := by decide +kernel
theorem dX4_know_47 : decode cX4_know 47 = .ok (.putfield 47, 3) := by decide +kernel
theorem dX4_know_50 : decode cX4_know 50 = .ok (.iconst 0, 1) := by decide +kernel
theorem dX4_know_51 : decode cX4_know 51 = .ok (.istore_n 1, 1) := by decide +kernel
theorem dX4_know_52 : decode cX4_know 52 = .ok (.iload_n 1, 1) := by decide +kernel
theorem dX4_know_53 : decode cX4_know 53 = .ok (.sipush 655, 3) := by decide +kernel
theorem dX4_know_56 : decode cX4_know 56 = .ok (.if_icmp .ge 30, 3) := by decide +kernel
theorem dX4_know_59 : decode cX4_know 59 = .ok (.aload_n 0, 1) := by decide +kernel
theorem dX4_know_60 : decode cX4_know 60 = .ok (.getfield 13, 3) := by decide +kernel
theorem dX4_know_63 : decode cX4_know 63 = .ok (.sipush 655, 3) := by decide +kernel
theorem dX4_know_66 : decode cX4_know 66 = .ok (.aload_n 0, 1) := by decide +kernel
theorem dX4_know_67 : decode cX4_know 67 = .ok (.getfield 47, 3) := by decide +kernel
theorem dX4_know_70 : decode cX4_know 70 = .ok (.imul, 1) := by decide +kernel
theorem dX4_know_71 : decode cX4_know 71 = .ok (.iload_n 1, 1) := by decide +kernel
theorem dX4_know_72 : decode cX4_know 72 = .ok (.iadd, 1) := by decide +kernel
theorem dX4_know_73 : decode cX4_know 73 = .ok (.aload_n 0, 1) := by decide +kernel
theorem dX4_know_74 : decode cX4_know 74 = .ok (.getfield 7, 3) := by decide +kernel
theorem dX4_know_77 : decode cX4_know 77 = .ok (.iload_n 1, 1) := by decide +kernel
theorem dX4_know_78 : decode cX4_know 78 = .ok (.iaload, 1) := by decide +kernel
theorem dX4_know_79 : decode cX4_know 79 = .ok (.iastore, 1) := by decide +kernel
theorem dX4_know_80 : decode cX4_know 80 = .ok (.iinc 1 1, 3) := by decide +kernel
theorem dX4_know_83 : decode cX4_know 83 = .ok (.goto (-31), 3) := by decide +kernel
theorem dX4_know_86 : decode cX4_know 86 = .ok (.aload_n 0, 1) := by decide +kernel
theorem dX4_know_87 : decode cX4_know 87 = .ok (.dup, 1) := by decide +kernel
theorem dX4_know_88 : decode cX4_know 88 = .ok (.getfield 47, 3) := by decide +kernel
theorem dX4_know_91 : decode cX4_know 91 = .ok (.iconst 1, 1) := by decide +kernel
theorem dX4_know_92 : decode cX4_know 92 = .ok (.iadd, 1) := by decide +kernel
theorem dX4_know_93 : decode cX4_know 93 = .ok (.putfield 47, 3) := by decide +kernel
theorem dX4_know_96 : decode cX4_know 96 = .ok (.return_, 1) := by decide +kernel
theorem dX4_least_0 : decode cX4_least 0 = .ok (.iload_n 0, 1) := by decide +kernel
theorem dX4_least_1 : decode cX4_least 1 = .ok (.iconst 3, 1) := by decide +kernel
theorem dX4_least_2 : decode cX4_least 2 = .ok (.if_icmp .ne 7, 3) := by decide +kernel
theorem dX4_least_5 : decode cX4_least 5 = .ok (.iconst 0, 1) := by decide +kernel
theorem dX4_least_6 : decode cX4_least 6 = .ok (.goto 4, 3) := by decide +kernel
theorem dX4_least_9 : decode cX4_least 9 = .ok (.iconst 1, 1) := by decide +kernel
theorem dX4_least_10 : decode cX4_least 10 = .ok (.ireturn, 1) := by decide +kernel
theorem dX4_most_0 : decode cX4_most 0 = .ok (.iload_n 0, 1) := by decide +kernel
theorem dX4_most_1 : decode cX4_most 1 = .ok (.ifCond .ne 7, 3) := by decide +kernel
theorem dX4_most_4 : decode cX4_most 4 = .ok (.iconst 4, 1) := by decide +kernel
theorem dX4_most_5 : decode cX4_most 5 = .ok (.goto 15, 3) := by decide +kernel
theorem dX4_most_8 : decode cX4_most 8 = .ok (.iload_n 0, 1) := by decide +kernel
theorem dX4_most_9 : decode cX4_most 9 = .ok (.iconst 1, 1) := by decide +kernel
theorem dX4_most_10 : decode cX4_most 10 = .ok (.if_icmp .ne 8, 3) := by decide +kernel
theorem dX4_most_13 : decode cX4_most 13 = .ok (.bipush 32, 2) := by decide +kernel
theorem dX4_most_15 : decode cX4_most 15 = .ok (.goto 5, 3) := by decide +kernel
theorem dX4_most_18 : decode cX4_most 18 = .ok (.ldc 51, 2) := by decide +kernel
theorem dX4_most_20 : decode cX4_most 20 = .ok (.ireturn, 1) := by decide +kernel
set_option maxRecDepth 20000 in
theorem ggX4_set_X4_in : GoodIn wsX4_set wsX4_in := goodIn_r _ [5] (by decide +kernel) (by decide +kernel)
set_option maxRecDepth 20000 in
theorem gX4_set_X4_in : GoodIn wsX4_set (va_wsS RX4 39 yX4_in wsX4_in) := goodIn_app (goodIn_of _ (by decide +kernel)) ggX4_set_X4_in
set_option maxRecDepth 20000 in
theorem ggX4_set_X4_least : GoodIn wsX4_set wsX4_least := goodIn_r _ [8] (by decide +kernel) (by decide +kernel)
set_option maxRecDepth 20000 in
theorem gX4_set_X4_least : GoodIn wsX4_set (va_wsS RX4 52 yX4_least wsX4_least) := goodIn_app (goodIn_of _ (by decide +kernel)) ggX4_set_X4_least
set_option maxRecDepth 20000 in
theorem ggX4_set_X4_most : GoodIn wsX4_set wsX4_most := goodIn_r _ [11, 12] (by decide +kernel) (by decide +kernel)
set_option maxRecDepth 20000 in
theorem gX4_set_X4_most : GoodIn wsX4_set (va_wsS RX4 56 yX4_most wsX4_most) := goodIn_app (goodIn_of _ (by decide +kernel)) ggX4_set_X4_most
set_option maxRecDepth 20000 in
theorem ggX4_set_X4_know : GoodIn wsX4_set wsX4_know := goodIn_r _ [16, 17, 18, 1, 19, 20, 21, 22, 23, 24, 25, 26, 27, 28, 29, 30, 31, 32, 33] (by decide +kernel) (by decide +kernel)
set_option maxRecDepth 20000 in
theorem gX4_set_X4_know : GoodIn wsX4_set (wsV RX4 59 RX4 yX4_know wsX4_know) := goodIn_app (goodIn_of _ (by decide +kernel)) ggX4_set_X4_know
theorem dX4_set_0 : decode cX4_set 0 = .ok (.iload_n 1, 1) := by decide +kernel
theorem dX4_set_1 : decode cX4_set 1 = .ok (.iconst 0, 1) := by decide +kernel
theorem dX4_set_2 : decode cX4_set 2 = .ok (.iconst 3, 1) := by decide +kernel
theorem dX4_set_3 : decode cX4_set 3 = .ok (.invokestatic 39, 3) := by decide +kernel
theorem dX4_set_6 : decode cX4_set 6 = .ok (.ifCond .eq 18, 3) := by decide +kernel
theorem dX4_set_9 : decode cX4_set 9 = .ok (.iload_n 2, 1) := by decide +kernel
theorem dX4_set_10 : decode cX4_set 10 = .ok (.iload_n 1, 1) := by decide +kernel
theorem dX4_set_11 : decode cX4_set 11 = .ok (.invokestatic 52, 3) := by decide +kernel
theorem dX4_set_14 : decode cX4_set 14 = .ok (.iload_n 1, 1) := by decide +kernel
theorem dX4_set_15 : decode cX4_set 15 = .ok (.invokestatic 56, 3) := by decide +kernel
theorem dX4_set_18 : decode cX4_set 18 = .ok (.invokestatic 39, 3) := by decide +kernel
theorem dX4_set_21 : decode cX4_set 21 = .ok (.ifCond .ne 6, 3) := by decide +kernel
theorem dX4_set_24 : decode cX4_set 24 = .ok (.bipush (-2), 2) := by decide +kernel
theorem dX4_set_26 : decode cX4_set 26 = .ok (.ireturn, 1) := by decide +kernel
theorem dX4_set_27 : decode cX4_set 27 = .ok (.aload_n 0, 1) := by decide +kernel
theorem dX4_set_28 : decode cX4_set 28 = .ok (.invokevirtual 59, 3) := by decide +kernel
theorem dX4_set_31 : decode cX4_set 31 = .ok (.aload_n 0, 1) := by decide +kernel
theorem dX4_set_32 : decode cX4_set 32 = .ok (.getfield 7, 3) := by decide +kernel
theorem dX4_set_35 : decode cX4_set 35 = .ok (.iload_n 1, 1) := by decide +kernel
theorem dX4_set_36 : decode cX4_set 36 = .ok (.iaload, 1) := by decide +kernel
theorem dX4_set_37 : decode cX4_set 37 = .ok (.istore_n 3, 1) := by decide +kernel
theorem dX4_set_38 : decode cX4_set 38 = .ok (.aload_n 0, 1) := by decide +kernel
theorem dX4_set_39 : decode cX4_set 39 = .ok (.getfield 7, 3) := by decide +kernel
theorem dX4_set_42 : decode cX4_set 42 = .ok (.iload_n 1, 1) := by decide +kernel
theorem dX4_set_43 : decode cX4_set 43 = .ok (.iload_n 2, 1) := by decide +kernel
theorem dX4_set_44 : decode cX4_set 44 = .ok (.iastore, 1) := by decide +kernel
theorem dX4_set_45 : decode cX4_set 45 = .ok (.iload_n 3, 1) := by decide +kernel
theorem dX4_set_46 : decode cX4_set 46 = .ok (.ireturn, 1) := by decide +kernel
set_option maxRecDepth 20000 in
theorem ggX4_signOf_X4_in : GoodIn wsX4_signOf wsX4_in := goodIn_r _ [4] (by decide +kernel) (by decide +kernel)
set_option maxRecDepth 20000 in
theorem gX4_signOf_X4_in : GoodIn wsX4_signOf (va_wsS RX4 39 yX4_in wsX4_in) := goodIn_app (goodIn_of _ (by decide +kernel)) ggX4_signOf_X4_in
theorem dX4_signOf_0 : decode cX4_signOf 0 = .ok (.iload_n 0, 1) := by decide +kernel
theorem dX4_signOf_1 : decode cX4_signOf 1 = .ok (.bipush 46, 2) := by decide +kernel
theorem dX4_signOf_3 : decode cX4_signOf 3 = .ok (.if_icmp .ne 8, 3) := by decide +kernel
theorem dX4_signOf_6 : decode cX4_signOf 6 = .ok (.bipush 26, 2) := by decide +kernel
theorem dX4_signOf_8 : decode cX4_signOf 8 = .ok (.goto 23, 3) := by decide +kernel
theorem dX4_signOf_11 : decode cX4_signOf 11 = .ok (.iload_n 0, 1) := by decide +kernel
theorem dX4_signOf_12 : decode cX4_signOf 12 = .ok (.bipush 97, 2) := by decide +kernel
theorem dX4_signOf_14 : decode cX4_signOf 14 = .ok (.bipush 122, 2) := by decide +kernel
theorem dX4_signOf_16 : decode cX4_signOf 16 = .ok (.invokestatic 39, 3) := by decide +kernel
theorem dX4_signOf_19 : decode cX4_signOf 19 = .ok (.ifCond .eq 10, 3) := by decide +kernel
theorem dX4_signOf_22 : decode cX4_signOf 22 = .ok (.iload_n 0, 1) := by decide +kernel
theorem dX4_signOf_23 : decode cX4_signOf 23 = .ok (.bipush 97, 2) := by decide +kernel
theorem dX4_signOf_25 : decode cX4_signOf 25 = .ok (.isub, 1) := by decide +kernel
theorem dX4_signOf_26 : decode cX4_signOf 26 = .ok (.goto 5, 3) := by decide +kernel
theorem dX4_signOf_29 : decode cX4_signOf 29 = .ok (.bipush (-6), 2) := by decide +kernel
theorem dX4_signOf_31 : decode cX4_signOf 31 = .ok (.ireturn, 1) := by decide +kernel
set_option maxRecDepth 20000 in
theorem ggX4_fault_X4_signOf : GoodIn wsX4_fault wsX4_signOf := goodIn_r _ [6, 7, 8, 5, 9] (by decide +kernel) (by decide +kernel)
set_option maxRecDepth 20000 in
theorem gX4_fault_X4_signOf : GoodIn wsX4_fault (va_wsS RX4 65 yX4_signOf wsX4_signOf) := goodIn_app (goodIn_of _ (by decide +kernel)) ggX4_fault_X4_signOf
theorem dX4_fault_0 : decode cX4_fault 0 = .ok (.iconst 0, 1) := by decide +kernel
theorem dX4_fault_1 : decode cX4_fault 1 = .ok (.istore_n 1, 1) := by decide +kernel
theorem dX4_fault_2 : decode cX4_fault 2 = .ok (.iload_n 1, 1) := by decide +kernel
theorem dX4_fault_3 : decode cX4_fault 3 = .ok (.aload_n 0, 1) := by decide +kernel
theorem dX4_fault_4 : decode cX4_fault 4 = .ok (.getfield 62, 3) := by decide +kernel
theorem dX4_fault_7 : decode cX4_fault 7 = .ok (.if_icmp .ge 25, 3) := by decide +kernel
theorem dX4_fault_10 : decode cX4_fault 10 = .ok (.aload_n 0, 1) := by decide +kernel
theorem dX4_fault_11 : decode cX4_fault 11 = .ok (.getfield 23, 3) := by decide +kernel
theorem dX4_fault_14 : decode cX4_fault 14 = .ok (.iload_n 1, 1) := by decide +kernel
theorem dX4_fault_15 : decode cX4_fault 15 = .ok (.iaload, 1) := by decide +kernel
theorem dX4_fault_16 : decode cX4_fault 16 = .ok (.invokestatic 65, 3) := by decide +kernel
theorem dX4_fault_19 : decode cX4_fault 19 = .ok (.bipush (-6), 2) := by decide +kernel
theorem dX4_fault_21 : decode cX4_fault 21 = .ok (.if_icmp .ne 5, 3) := by decide +kernel
theorem dX4_fault_24 : decode cX4_fault 24 = .ok (.iload_n 1, 1) := by decide +kernel
theorem dX4_fault_25 : decode cX4_fault 25 = .ok (.ireturn, 1) := by decide +kernel
theorem dX4_fault_26 : decode cX4_fault 26 = .ok (.iinc 1 1, 3) := by decide +kernel
theorem dX4_fault_29 : decode cX4_fault 29 = .ok (.goto (-27), 3) := by decide +kernel
theorem dX4_fault_32 : decode cX4_fault 32 = .ok (.aload_n 0, 1) := by decide +kernel
theorem dX4_fault_33 : decode cX4_fault 33 = .ok (.getfield 62, 3) := by decide +kernel
theorem dX4_fault_36 : decode cX4_fault 36 = .ok (.ifCond .ne 7, 3) := by decide +kernel
theorem dX4_fault_39 : decode cX4_fault 39 = .ok (.iconst 0, 1) := by decide +kernel
theorem dX4_fault_40 : decode cX4_fault 40 = .ok (.goto 5, 3) := by decide +kernel
theorem dX4_fault_43 : decode cX4_fault 43 = .ok (.bipush (-6), 2) := by decide +kernel
theorem dX4_fault_45 : decode cX4_fault 45 = .ok (.ireturn, 1) := by decide +kernel
set_option maxRecDepth 20000 in
theorem ggX4_pour_X4_signOf : GoodIn wsX4_pour wsX4_signOf := goodIn_r _ [7, 8, 9, 6, 10] (by decide +kernel) (by decide +kernel)
set_option maxRecDepth 20000 in
theorem gX4_pour_X4_signOf : GoodIn wsX4_pour (va_wsS RX4 65 yX4_signOf wsX4_signOf) := goodIn_app (goodIn_of _ (by decide +kernel)) ggX4_pour_X4_signOf
theorem dX4_pour_0 : decode cX4_pour 0 = .ok (.iconst 0, 1) := by decide +kernel
theorem dX4_pour_1 : decode cX4_pour 1 = .ok (.istore_n 2, 1) := by decide +kernel
theorem dX4_pour_2 : decode cX4_pour 2 = .ok (.iload_n 2, 1) := by decide +kernel
theorem dX4_pour_3 : decode cX4_pour 3 = .ok (.aload_n 0, 1) := by decide +kernel
theorem dX4_pour_4 : decode cX4_pour 4 = .ok (.getfield 62, 3) := by decide +kernel
theorem dX4_pour_7 : decode cX4_pour 7 = .ok (.if_icmp .ge 41, 3) := by decide +kernel
theorem dX4_pour_10 : decode cX4_pour 10 = .ok (.aload_n 0, 1) := by decide +kernel
theorem dX4_pour_11 : decode cX4_pour 11 = .ok (.getfield 7, 3) := by decide +kernel
theorem dX4_pour_14 : decode cX4_pour 14 = .ok (.bipush 15, 2) := by decide +kernel
theorem dX4_pour_16 : decode cX4_pour 16 = .ok (.bipush 64, 2) := by decide +kernel
theorem dX4_pour_18 : decode cX4_pour 18 = .ok (.iload_n 1, 1) := by decide +kernel
theorem dX4_pour_19 : decode cX4_pour 19 = .ok (.imul, 1) := by decide +kernel
theorem dX4_pour_20 : decode cX4_pour 20 = .ok (.iadd, 1) := by decide +kernel
theorem dX4_pour_21 : decode cX4_pour 21 = .ok (.aload_n 0, 1) := by decide +kernel
theorem dX4_pour_22 : decode cX4_pour 22 = .ok (.getfield 7, 3) := by decide +kernel
theorem dX4_pour_25 : decode cX4_pour 25 = .ok (.iconst 5, 1) := by decide +kernel
theorem dX4_pour_26 : decode cX4_pour 26 = .ok (.iload_n 1, 1) := by decide +kernel
theorem dX4_pour_27 : decode cX4_pour 27 = .ok (.iadd, 1) := by decide +kernel
theorem dX4_pour_28 : decode cX4_pour 28 = .ok (.iaload, 1) := by decide +kernel
theorem dX4_pour_29 : decode cX4_pour 29 = .ok (.iadd, 1) := by decide +kernel
theorem dX4_pour_30 : decode cX4_pour 30 = .ok (.iload_n 2, 1) := by decide +kernel
theorem dX4_pour_31 : decode cX4_pour 31 = .ok (.iadd, 1) := by decide +kernel
theorem dX4_pour_32 : decode cX4_pour 32 = .ok (.aload_n 0, 1) := by decide +kernel
theorem dX4_pour_33 : decode cX4_pour 33 = .ok (.getfield 23, 3) := by decide +kernel
theorem dX4_pour_36 : decode cX4_pour 36 = .ok (.iload_n 2, 1) := by decide +kernel
theorem dX4_pour_37 : decode cX4_pour 37 = .ok (.iaload, 1) := by decide +kernel
theorem dX4_pour_38 : decode cX4_pour 38 = .ok (.invokestatic 65, 3) := by decide +kernel
theorem dX4_pour_41 : decode cX4_pour 41 = .ok (.iastore, 1) := by decide +kernel
theorem dX4_pour_42 : decode cX4_pour 42 = .ok (.iinc 2 1, 3) := by decide +kernel
theorem dX4_pour_45 : decode cX4_pour 45 = .ok (.goto (-43), 3) := by decide +kernel
theorem dX4_pour_48 : decode cX4_pour 48 = .ok (.aload_n 0, 1) := by decide +kernel
theorem dX4_pour_49 : decode cX4_pour 49 = .ok (.getfield 7, 3) := by decide +kernel
theorem dX4_pour_52 : decode cX4_pour 52 = .ok (.iconst 5, 1) := by decide +kernel
theorem dX4_pour_53 : decode cX4_pour 53 = .ok (.iload_n 1, 1) := by decide +kernel
theorem dX4_pour_54 : decode cX4_pour 54 = .ok (.iadd, 1) := by decide +kernel
theorem dX4_pour_55 : decode cX4_pour 55 = .ok (.dup2, 1) := by decide +kernel
theorem dX4_pour_56 : decode cX4_pour 56 = .ok (.iaload, 1) := by decide +kernel
theorem dX4_pour_57 : decode cX4_pour 57 = .ok (.aload_n 0, 1) := by decide +kernel
theorem dX4_pour_58 : decode cX4_pour 58 = .ok (.getfield 62, 3) := by decide +kernel
theorem dX4_pour_61 : decode cX4_pour 61 = .ok (.iadd, 1) := by decide +kernel
theorem dX4_pour_62 : decode cX4_pour 62 = .ok (.iastore, 1) := by decide +kernel
theorem dX4_pour_63 : decode cX4_pour 63 = .ok (.aload_n 0, 1) := by decide +kernel
theorem dX4_pour_64 : decode cX4_pour 64 = .ok (.iconst 0, 1) := by decide +kernel
theorem dX4_pour_65 : decode cX4_pour 65 = .ok (.putfield 62, 3) := by decide +kernel
theorem dX4_pour_68 : decode cX4_pour 68 = .ok (.return_, 1) := by decide +kernel
set_option maxRecDepth 20000 in
theorem ggX4_add_X4_fault : GoodIn wsX4_add wsX4_fault := goodIn_r _ [6, 7, 8, 9, 10, 5, 11, 12, 13, 14, 25, 26, 27, 28, 29, 30, 31, 32, 33, 34, 35, 36, 37, 38, 39] (by decide +kernel) (by decide +kernel)
set_option maxRecDepth 20000 in
theorem gX4_add_X4_fault : GoodIn wsX4_add (wsV RX4 68 RX4 yX4_fault wsX4_fault) := goodIn_app (goodIn_of _ (by decide +kernel)) ggX4_add_X4_fault
set_option maxRecDepth 20000 in
theorem ggX4_add_X4_know : GoodIn wsX4_add wsX4_know := goodIn_r _ [18, 19, 20, 1, 25, 26, 27, 28, 29, 30, 31, 32, 33, 34, 35, 36, 37, 38, 39] (by decide +kernel) (by decide +kernel)
set_option maxRecDepth 20000 in
theorem gX4_add_X4_know : GoodIn wsX4_add (wsV RX4 59 RX4 yX4_know wsX4_know) := goodIn_app (goodIn_of _ (by decide +kernel)) ggX4_add_X4_know
set_option maxRecDepth 20000 in
theorem ggX4_add_X4_pour : GoodIn wsX4_add wsX4_pour := goodIn_r _ [24, 7, 1, 8, 9, 10, 5, 11, 12, 13, 14, 25, 26, 27, 28, 29, 30, 31, 32, 33, 34, 35, 36, 37, 38, 39] (by decide +kernel) (by decide +kernel)
set_option maxRecDepth 20000 in
theorem gX4_add_X4_pour : GoodIn wsX4_add (wsV RX4 72 RX4 yX4_pour wsX4_pour) := goodIn_app (goodIn_of _ (by decide +kernel)) ggX4_add_X4_pour
theorem dX4_add_0 : decode cX4_add 0 = .ok (.aload_n 0, 1) := by decide +kernel
theorem dX4_add_1 : decode cX4_add 1 = .ok (.invokevirtual 68, 3) := by decide +kernel
theorem dX4_add_4 : decode cX4_add 4 = .ok (.bipush (-6), 2) := by decide +kernel
theorem dX4_add_6 : decode cX4_add 6 = .ok (.if_icmp .eq 6, 3) := by decide +kernel
theorem dX4_add_9 : decode cX4_add 9 = .ok (.bipush (-3), 2) := by decide +kernel
theorem dX4_add_11 : decode cX4_add 11 = .ok (.ireturn, 1) := by decide +kernel
theorem dX4_add_12 : decode cX4_add 12 = .ok (.aload_n 0, 1) := by decide +kernel
theorem dX4_add_13 : decode cX4_add 13 = .ok (.getfield 7, 3) := by decide +kernel
theorem dX4_add_16 : decode cX4_add 16 = .ok (.iconst 4, 1) := by decide +kernel
theorem dX4_add_17 : decode cX4_add 17 = .ok (.iaload, 1) := by decide +kernel
theorem dX4_add_18 : decode cX4_add 18 = .ok (.bipush 10, 2) := by decide +kernel
theorem dX4_add_20 : decode cX4_add 20 = .ok (.if_icmp .ne 6, 3) := by decide +kernel
theorem dX4_add_23 : decode cX4_add 23 = .ok (.bipush (-4), 2) := by decide +kernel
theorem dX4_add_25 : decode cX4_add 25 = .ok (.ireturn, 1) := by decide +kernel
theorem dX4_add_26 : decode cX4_add 26 = .ok (.aload_n 0, 1) := by decide +kernel
theorem dX4_add_27 : decode cX4_add 27 = .ok (.invokevirtual 59, 3) := by decide +kernel
theorem dX4_add_30 : decode cX4_add 30 = .ok (.aload_n 0, 1) := by decide +kernel
