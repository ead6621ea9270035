theorem dX4_candidates_91 : decode cX4_candidates 91 = .ok (.getfield 7, 3) := by decide +kernel
theorem dX4_candidates_94 : decode cX4_candidates 94 = .ok (.iconst 1, 1) := by decide +kernel
theorem dX4_candidates_95 : decode cX4_candidates 95 = .ok (.iaload, 1) := by decide +kernel
theorem dX4_candidates_96 : decode cX4_candidates 96 = .ok (.invokevirtual 126, 3) := by decide +kernel
theorem dX4_candidates_99 : decode cX4_candidates 99 = .ok (.iload_n 3, 1) := by decide +kernel
theorem dX4_candidates_100 : decode cX4_candidates 100 = .ok (.aload_n 0, 1) := by decide +kernel
theorem dX4_candidates_101 : decode cX4_candidates 101 = .ok (.invokevirtual 133, 3) := by decide +kernel
theorem dX4_candidates_104 : decode cX4_candidates 104 = .ok (.iload_n 2, 1) := by decide +kernel
theorem dX4_candidates_105 : decode cX4_candidates 105 = .ok (.if_icmp .lt 10, 3) := by decide +kernel
theorem dX4_candidates_108 : decode cX4_candidates 108 = .ok (.iconst 1, 1) := by decide +kernel
theorem dX4_candidates_109 : decode cX4_candidates 109 = .ok (.iload 4, 2) := by decide +kernel
theorem dX4_candidates_111 : decode cX4_candidates 111 = .ok (.ishl, 1) := by decide +kernel
theorem dX4_candidates_112 : decode cX4_candidates 112 = .ok (.goto 4, 3) := by decide +kernel
theorem dX4_candidates_115 : decode cX4_candidates 115 = .ok (.iconst 0, 1) := by decide +kernel
theorem dX4_candidates_116 : decode cX4_candidates 116 = .ok (.ior, 1) := by decide +kernel
theorem dX4_candidates_117 : decode cX4_candidates 117 = .ok (.istore_n 3, 1) := by decide +kernel
theorem dX4_candidates_118 : decode cX4_candidates 118 = .ok (.iinc 4 1, 3) := by decide +kernel
theorem dX4_candidates_121 : decode cX4_candidates 121 = .ok (.goto (-52), 3) := by decide +kernel
theorem dX4_candidates_124 : decode cX4_candidates 124 = .ok (.iload_n 3, 1) := by decide +kernel
theorem dX4_candidates_125 : decode cX4_candidates 125 = .ok (.ireturn, 1) := by decide +kernel
set_option maxRecDepth 20000 in
theorem ggX4_off_X4_compare : GoodIn wsX4_off wsX4_compare := goodIn_r _ [8, 2, 1, 9, 10, 11, 3, 12, 13, 14, 7, 15, 16, 17, 18, 19, 20, 21, 22, 23, 24, 25, 26, 27, 28, 29, 30, 31, 32, 33, 34, 35, 43, 44, 45, 46, 47, 48, 49, 50, 51, 52, 53, 54, 55, 56, 57] (by decide +kernel) (by decide +kernel)
set_option maxRecDepth 20000 in
theorem gX4_off_X4_compare : GoodIn wsX4_off (wsV RX4 126 RX4 yX4_compare wsX4_compare) := goodIn_app (goodIn_of _ (by decide +kernel)) ggX4_off_X4_compare
set_option maxRecDepth 20000 in
theorem ggX4_off_X4_share : GoodIn wsX4_off wsX4_share := goodIn_r _ [38] (by decide +kernel) (by decide +kernel)
set_option maxRecDepth 20000 in
theorem gX4_off_X4_share : GoodIn wsX4_off (va_wsS RX4 111 yX4_share wsX4_share) := goodIn_app (goodIn_of _ (by decide +kernel)) ggX4_off_X4_share
set_option maxRecDepth 20000 in
theorem ggX4_off_X4_either : GoodIn wsX4_off wsX4_either := goodIn_r _ [42, 9, 3, 43, 44, 45, 46, 47, 48, 49, 50, 51, 52, 53, 54, 55, 56, 57] (by decide +kernel) (by decide +kernel)
set_option maxRecDepth 20000 in
theorem gX4_off_X4_either : GoodIn wsX4_off (wsV RX4 136 RX4 yX4_either wsX4_either) := goodIn_app (goodIn_of _ (by decide +kernel)) ggX4_off_X4_either
theorem dX4_off_0 : decode cX4_off 0 = .ok (.aload_n 0, 1) := by decide +kernel
theorem dX4_off_1 : decode cX4_off 1 = .ok (.iload_n 1, 1) := by decide +kernel
theorem dX4_off_2 : decode cX4_off 2 = .ok (.iload_n 2, 1) := by decide +kernel
theorem dX4_off_3 : decode cX4_off 3 = .ok (.iload_n 3, 1) := by decide +kernel
theorem dX4_off_4 : decode cX4_off 4 = .ok (.invokevirtual 126, 3) := by decide +kernel
theorem dX4_off_7 : decode cX4_off 7 = .ok (.aload_n 0, 1) := by decide +kernel
theorem dX4_off_8 : decode cX4_off 8 = .ok (.getfield 102, 3) := by decide +kernel
theorem dX4_off_11 : decode cX4_off 11 = .ok (.aload_n 0, 1) := by decide +kernel
theorem dX4_off_12 : decode cX4_off 12 = .ok (.getfield 99, 3) := by decide +kernel
theorem dX4_off_15 : decode cX4_off 15 = .ok (.invokestatic 111, 3) := by decide +kernel
theorem dX4_off_18 : decode cX4_off 18 = .ok (.aload_n 0, 1) := by decide +kernel
theorem dX4_off_19 : decode cX4_off 19 = .ok (.getfield 108, 3) := by decide +kernel
theorem dX4_off_22 : decode cX4_off 22 = .ok (.aload_n 0, 1) := by decide +kernel
theorem dX4_off_23 : decode cX4_off 23 = .ok (.invokevirtual 136, 3) := by decide +kernel
theorem dX4_off_26 : decode cX4_off 26 = .ok (.invokestatic 111, 3) := by decide +kernel
theorem dX4_off_29 : decode cX4_off 29 = .ok (.isub, 1) := by decide +kernel
theorem dX4_off_30 : decode cX4_off 30 = .ok (.istore 4, 2) := by decide +kernel
theorem dX4_off_32 : decode cX4_off 32 = .ok (.iload 4, 2) := by decide +kernel
theorem dX4_off_34 : decode cX4_off 34 = .ok (.ifCond .ge 9, 3) := by decide +kernel
theorem dX4_off_37 : decode cX4_off 37 = .ok (.iload 4, 2) := by decide +kernel
theorem dX4_off_39 : decode cX4_off 39 = .ok (.ineg, 1) := by decide +kernel
theorem dX4_off_40 : decode cX4_off 40 = .ok (.goto 5, 3) := by decide +kernel
theorem dX4_off_43 : decode cX4_off 43 = .ok (.iload 4, 2) := by decide +kernel
theorem dX4_off_45 : decode cX4_off 45 = .ok (.ireturn, 1) := by decide +kernel
set_option maxRecDepth 20000 in
theorem ggX4_worst_X4_in : GoodIn wsX4_worst wsX4_in := goodIn_r _ [5] (by decide +kernel) (by decide +kernel)
set_option maxRecDepth 20000 in
theorem gX4_worst_X4_in : GoodIn wsX4_worst (va_wsS RX4 39 yX4_in wsX4_in) := goodIn_app (goodIn_of _ (by decide +kernel)) ggX4_worst_X4_in
set_option maxRecDepth 20000 in
theorem ggX4_worst_X4_off : GoodIn wsX4_worst wsX4_off := goodIn_r _ [9, 10, 11, 12, 13, 14, 15, 4, 16, 17, 18, 19, 20, 21, 22, 23, 1, 24, 25, 26, 27, 28, 29, 30, 31, 32, 33, 34, 35, 36, 37, 38, 39, 40, 41, 42, 43, 44, 45, 46, 47, 48, 49, 50, 51, 52, 53, 54, 55, 56, 57, 58, 59, 60, 61, 62, 63, 64] (by decide +kernel) (by decide +kernel)
set_option maxRecDepth 20000 in
theorem gX4_worst_X4_off : GoodIn wsX4_worst (wsV RX4 139 RX4 yX4_off wsX4_off) := goodIn_app (goodIn_of _ (by decide +kernel)) ggX4_worst_X4_off
theorem dX4_worst_0 : decode cX4_worst 0 = .ok (.iload_n 1, 1) := by decide +kernel
theorem dX4_worst_1 : decode cX4_worst 1 = .ok (.iconst 0, 1) := by decide +kernel
theorem dX4_worst_2 : decode cX4_worst 2 = .ok (.iconst 2, 1) := by decide +kernel
theorem dX4_worst_3 : decode cX4_worst 3 = .ok (.invokestatic 39, 3) := by decide +kernel
theorem dX4_worst_6 : decode cX4_worst 6 = .ok (.ifCond .ne 6, 3) := by decide +kernel
theorem dX4_worst_9 : decode cX4_worst 9 = .ok (.bipush (-2), 2) := by decide +kernel
theorem dX4_worst_11 : decode cX4_worst 11 = .ok (.ireturn, 1) := by decide +kernel
theorem dX4_worst_12 : decode cX4_worst 12 = .ok (.bipush (-6), 2) := by decide +kernel
theorem dX4_worst_14 : decode cX4_worst 14 = .ok (.istore_n 2, 1) := by decide +kernel
theorem dX4_worst_15 : decode cX4_worst 15 = .ok (.bipush (-6), 2) := by decide +kernel
theorem dX4_worst_17 : decode cX4_worst 17 = .ok (.istore_n 3, 1) := by decide +kernel
theorem dX4_worst_18 : decode cX4_worst 18 = .ok (.iconst (-1), 1) := by decide +kernel
theorem dX4_worst_19 : decode cX4_worst 19 = .ok (.istore 4, 2) := by decide +kernel
theorem dX4_worst_21 : decode cX4_worst 21 = .ok (.iconst 0, 1) := by decide +kernel
theorem dX4_worst_22 : decode cX4_worst 22 = .ok (.istore 5, 2) := by decide +kernel
theorem dX4_worst_24 : decode cX4_worst 24 = .ok (.iload 5, 2) := by decide +kernel
theorem dX4_worst_26 : decode cX4_worst 26 = .ok (.aload_n 0, 1) := by decide +kernel
theorem dX4_worst_27 : decode cX4_worst 27 = .ok (.getfield 7, 3) := by decide +kernel
theorem dX4_worst_30 : decode cX4_worst 30 = .ok (.iconst 4, 1) := by decide +kernel
theorem dX4_worst_31 : decode cX4_worst 31 = .ok (.iaload, 1) := by decide +kernel
theorem dX4_worst_32 : decode cX4_worst 32 = .ok (.if_icmp .ge 65, 3) := by decide +kernel
theorem dX4_worst_35 : decode cX4_worst 35 = .ok (.iload 5, 2) := by decide +kernel
theorem dX4_worst_37 : decode cX4_worst 37 = .ok (.iconst 1, 1) := by decide +kernel
theorem dX4_worst_38 : decode cX4_worst 38 = .ok (.iadd, 1) := by decide +kernel
theorem dX4_worst_39 : decode cX4_worst 39 = .ok (.istore 6, 2) := by decide +kernel
theorem dX4_worst_41 : decode cX4_worst 41 = .ok (.iload 6, 2) := by decide +kernel
theorem dX4_worst_43 : decode cX4_worst 43 = .ok (.aload_n 0, 1) := by decide +kernel
theorem dX4_worst_44 : decode cX4_worst 44 = .ok (.getfield 7, 3) := by decide +kernel
theorem dX4_worst_47 : decode cX4_worst 47 = .ok (.iconst 4, 1) := by decide +kernel
theorem dX4_worst_48 : decode cX4_worst 48 = .ok (.iaload, 1) := by decide +kernel
theorem dX4_worst_49 : decode cX4_worst 49 = .ok (.if_icmp .ge 42, 3) := by decide +kernel
theorem dX4_worst_52 : decode cX4_worst 52 = .ok (.aload_n 0, 1) := by decide +kernel
theorem dX4_worst_53 : decode cX4_worst 53 = .ok (.iload 5, 2) := by decide +kernel
theorem dX4_worst_55 : decode cX4_worst 55 = .ok (.iload 6, 2) := by decide +kernel
theorem dX4_worst_57 : decode cX4_worst 57 = .ok (.aload_n 0, 1) := by decide +kernel
theorem dX4_worst_58 : decode cX4_worst 58 = .ok (.getfield 7, 3) := by decide +kernel
theorem dX4_worst_61 : decode cX4_worst 61 = .ok (.iconst 1, 1) := by decide +kernel
theorem dX4_worst_62 : decode cX4_worst 62 = .ok (.iaload, 1) := by decide +kernel
theorem dX4_worst_63 : decode cX4_worst 63 = .ok (.invokevirtual 139, 3) := by decide +kernel
theorem dX4_worst_66 : decode cX4_worst 66 = .ok (.istore 7, 2) := by decide +kernel
theorem dX4_worst_68 : decode cX4_worst 68 = .ok (.iload 7, 2) := by decide +kernel
theorem dX4_worst_70 : decode cX4_worst 70 = .ok (.iload 4, 2) := by decide +kernel
theorem dX4_worst_72 : decode cX4_worst 72 = .ok (.if_icmp .le 13, 3) := by decide +kernel
theorem dX4_worst_75 : decode cX4_worst 75 = .ok (.iload 5, 2) := by decide +kernel
theorem dX4_worst_77 : decode cX4_worst 77 = .ok (.istore_n 2, 1) := by decide +kernel
theorem dX4_worst_78 : decode cX4_worst 78 = .ok (.iload 6, 2) := by decide +kernel
theorem dX4_worst_80 : decode cX4_worst 80 = .ok (.istore_n 3, 1) := by decide +kernel
theorem dX4_worst_81 : decode cX4_worst 81 = .ok (.iload 7, 2) := by decide +kernel
theorem dX4_worst_83 : decode cX4_worst 83 = .ok (.istore 4, 2) := by decide +kernel
theorem dX4_worst_85 : decode cX4_worst 85 = .ok (.iinc 6 1, 3) := by decide +kernel
theorem dX4_worst_88 : decode cX4_worst 88 = .ok (.goto (-47), 3) := by decide +kernel
theorem dX4_worst_91 : decode cX4_worst 91 = .ok (.iinc 5 1, 3) := by decide +kernel
theorem dX4_worst_94 : decode cX4_worst 94 = .ok (.goto (-70), 3) := by decide +kernel
theorem dX4_worst_97 : decode cX4_worst 97 = .ok (.iload 4, 2) := by decide +kernel
theorem dX4_worst_99 : decode cX4_worst 99 = .ok (.ifCond .lt 7, 3) := by decide +kernel
theorem dX4_worst_102 : decode cX4_worst 102 = .ok (.iload_n 1, 1) := by decide +kernel
theorem dX4_worst_103 : decode cX4_worst 103 = .ok (.ifCond .ne 7, 3) := by decide +kernel
theorem dX4_worst_106 : decode cX4_worst 106 = .ok (.iload_n 2, 1) := by decide +kernel
theorem dX4_worst_107 : decode cX4_worst 107 = .ok (.goto 14, 3) := by decide +kernel
theorem dX4_worst_110 : decode cX4_worst 110 = .ok (.iload_n 1, 1) := by decide +kernel
theorem dX4_worst_111 : decode cX4_worst 111 = .ok (.iconst 1, 1) := by decide +kernel
theorem dX4_worst_112 : decode cX4_worst 112 = .ok (.if_icmp .ne 7, 3) := by decide +kernel
theorem dX4_worst_115 : decode cX4_worst 115 = .ok (.iload_n 3, 1) := by decide +kernel
theorem dX4_worst_116 : decode cX4_worst 116 = .ok (.goto 5, 3) := by decide +kernel
theorem dX4_worst_119 : decode cX4_worst 119 = .ok (.iload 4, 2) := by decide +kernel
theorem dX4_worst_121 : decode cX4_worst 121 = .ok (.ireturn, 1) := by decide +kernel
set_option maxRecDepth 20000 in
theorem ggX4_bestKept_X4_in : GoodIn wsX4_bestKept wsX4_in := goodIn_r _ [5] (by decide +kernel) (by decide +kernel)
set_option maxRecDepth 20000 in
theorem gX4_bestKept_X4_in : GoodIn wsX4_bestKept (va_wsS RX4 39 yX4_in wsX4_in) := goodIn_app (goodIn_of _ (by decide +kernel)) ggX4_bestKept_X4_in
set_option maxRecDepth 20000 in
theorem ggX4_bestKept_X4_off : GoodIn wsX4_bestKept wsX4_off := goodIn_r _ [9, 10, 11, 12, 13, 14, 15, 4, 16, 17, 18, 19, 20, 21, 22, 23, 1, 24, 25, 26, 27, 28, 29, 30, 31, 32, 33, 34, 35, 36, 37, 38, 39, 40, 41, 42, 43, 44, 45, 46, 47, 48, 49, 50, 51, 52, 53, 54, 55, 56, 57, 58, 59, 60, 61, 62, 63, 64] (by decide +kernel) (by decide +kernel)
set_option maxRecDepth 20000 in
theorem gX4_bestKept_X4_off : GoodIn wsX4_bestKept (wsV RX4 139 RX4 yX4_off wsX4_off) := goodIn_app (goodIn_of _ (by decide +kernel)) ggX4_bestKept_X4_off
theorem dX4_bestKept_0 : decode cX4_bestKept 0 = .ok (.iload_n 1, 1) := by decide +kernel
theorem dX4_bestKept_1 : decode cX4_bestKept 1 = .ok (.iconst 0, 1) := by decide +kernel
theorem dX4_bestKept_2 : decode cX4_bestKept 2 = .ok (.sipush 10000, 3) := by decide +kernel
theorem dX4_bestKept_5 : decode cX4_bestKept 5 = .ok (.invokestatic 39, 3) := by decide +kernel
theorem dX4_bestKept_8 : decode cX4_bestKept 8 = .ok (.ifCond .ne 6, 3) := by decide +kernel
theorem dX4_bestKept_11 : decode cX4_bestKept 11 = .ok (.bipush (-2), 2) := by decide +kernel
theorem dX4_bestKept_13 : decode cX4_bestKept 13 = .ok (.ireturn, 1) := by decide +kernel
theorem dX4_bestKept_14 : decode cX4_bestKept 14 = .ok (.iconst 1, 1) := by decide +kernel
theorem dX4_bestKept_15 : decode cX4_bestKept 15 = .ok (.istore_n 2, 1) := by decide +kernel
theorem dX4_bestKept_16 : decode cX4_bestKept 16 = .ok (.iload_n 2, 1) := by decide +kernel
theorem dX4_bestKept_17 : decode cX4_bestKept 17 = .ok (.bipush 32, 2) := by decide +kernel
theorem dX4_bestKept_19 : decode cX4_bestKept 19 = .ok (.if_icmp .gt 87, 3) := by decide +kernel
theorem dX4_bestKept_22 : decode cX4_bestKept 22 = .ok (.iconst 1, 1) := by decide +kernel
theorem dX4_bestKept_23 : decode cX4_bestKept 23 = .ok (.istore_n 3, 1) := by decide +kernel
theorem dX4_bestKept_24 : decode cX4_bestKept 24 = .ok (.iconst 0, 1) := by decide +kernel
theorem dX4_bestKept_25 : decode cX4_bestKept 25 = .ok (.istore 4, 2) := by decide +kernel
theorem dX4_bestKept_27 : decode cX4_bestKept 27 = .ok (.iload 4, 2) := by decide +kernel
theorem dX4_bestKept_29 : decode cX4_bestKept 29 = .ok (.aload_n 0, 1) := by decide +kernel
theorem dX4_bestKept_30 : decode cX4_bestKept 30 = .ok (.getfield 7, 3) := by decide +kernel
theorem dX4_bestKept_33 : decode cX4_bestKept 33 = .ok (.iconst 4, 1) := by decide +kernel
theorem dX4_bestKept_34 : decode cX4_bestKept 34 = .ok (.iaload, 1) := by decide +kernel
theorem dX4_bestKept_35 : decode cX4_bestKept 35 = .ok (.if_icmp .ge 59, 3) := by decide +kernel
theorem dX4_bestKept_38 : decode cX4_bestKept 38 = .ok (.iload_n 3, 1) := by decide +kernel
theorem dX4_bestKept_39 : decode cX4_bestKept 39 = .ok (.ifCond .eq 55, 3) := by decide +kernel
theorem dX4_bestKept_42 : decode cX4_bestKept 42 = .ok (.iload 4, 2) := by decide +kernel
theorem dX4_bestKept_44 : decode cX4_bestKept 44 = .ok (.iconst 1, 1) := by decide +kernel
theorem dX4_bestKept_45 : decode cX4_bestKept 45 = .ok (.iadd, 1) := by decide +kernel
theorem dX4_bestKept_46 : decode cX4_bestKept 46 = .ok (.istore 5, 2) := by decide +kernel
theorem dX4_bestKept_48 : decode cX4_bestKept 48 = .ok (.iload 5, 2) := by decide +kernel
theorem dX4_bestKept_50 : decode cX4_bestKept 50 = .ok (.aload_n 0, 1) := by decide +kernel
theorem dX4_bestKept_51 : decode cX4_bestKept 51 = .ok (.getfield 7, 3) := by decide +kernel
theorem dX4_bestKept_54 : decode cX4_bestKept 54 = .ok (.iconst 4, 1) := by decide +kernel
theorem dX4_bestKept_55 : decode cX4_bestKept 55 = .ok (.iaload, 1) := by decide +kernel
theorem dX4_bestKept_56 : decode cX4_bestKept 56 = .ok (.if_icmp .ge 32, 3) := by decide +kernel
theorem dX4_bestKept_59 : decode cX4_bestKept 59 = .ok (.iload_n 3, 1) := by decide +kernel
theorem dX4_bestKept_60 : decode cX4_bestKept 60 = .ok (.ifCond .eq 28, 3) := by decide +kernel
theorem dX4_bestKept_63 : decode cX4_bestKept 63 = .ok (.aload_n 0, 1) := by decide +kernel
theorem dX4_bestKept_64 : decode cX4_bestKept 64 = .ok (.iload 4, 2) := by decide +kernel
theorem dX4_bestKept_66 : decode cX4_bestKept 66 = .ok (.iload 5, 2) := by decide +kernel
theorem dX4_bestKept_68 : decode cX4_bestKept 68 = .ok (.iload_n 2, 1) := by decide +kernel
theorem dX4_bestKept_69 : decode cX4_bestKept 69 = .ok (.invokevirtual 139, 3) := by decide +kernel
theorem dX4_bestKept_72 : decode cX4_bestKept 72 = .ok (.iload_n 1, 1) := by decide +kernel
theorem dX4_bestKept_73 : decode cX4_bestKept 73 = .ok (.if_icmp .gt 7, 3) := by decide +kernel
theorem dX4_bestKept_76 : decode cX4_bestKept 76 = .ok (.iconst 1, 1) := by decide +kernel
theorem dX4_bestKept_77 : decode cX4_bestKept 77 = .ok (.goto 4, 3) := by decide +kernel
theorem dX4_bestKept_80 : decode cX4_bestKept 80 = .ok (.iconst 0, 1) := by decide +kernel
theorem dX4_bestKept_81 : decode cX4_bestKept 81 = .ok (.istore_n 3, 1) := by decide +kernel
theorem dX4_bestKept_82 : decode cX4_bestKept 82 = .ok (.iinc 5 1, 3) := by decide +kernel
theorem dX4_bestKept_85 : decode cX4_bestKept 85 = .ok (.goto (-37), 3) := by decide +kernel
theorem dX4_bestKept_88 : decode cX4_bestKept 88 = .ok (.iinc 4 1, 3) := by decide +kernel
theorem dX4_bestKept_91 : decode cX4_bestKept 91 = .ok (.goto (-64), 3) := by decide +kernel
theorem dX4_bestKept_94 : decode cX4_bestKept 94 = .ok (.iload_n 3, 1) := by decide +kernel
theorem dX4_bestKept_95 : decode cX4_bestKept 95 = .ok (.ifCond .eq 5, 3) := by decide +kernel
theorem dX4_bestKept_98 : decode cX4_bestKept 98 = .ok (.iload_n 2, 1) := by decide +kernel
theorem dX4_bestKept_99 : decode cX4_bestKept 99 = .ok (.ireturn, 1) := by decide +kernel
theorem dX4_bestKept_100 : decode cX4_bestKept 100 = .ok (.iinc 2 1, 3) := by decide +kernel
theorem dX4_bestKept_103 : decode cX4_bestKept 103 = .ok (.goto (-87), 3) := by decide +kernel
theorem dX4_bestKept_106 : decode cX4_bestKept 106 = .ok (.bipush (-6), 2) := by decide +kernel
theorem dX4_bestKept_108 : decode cX4_bestKept 108 = .ok (.ireturn, 1) := by decide +kernel
set_option maxRecDepth 20000 in
theorem ggX4_group_X4_isRow : GoodIn wsX4_group wsX4_isRow := goodIn_r _ [8, 1, 9, 10, 7, 11, 46, 47, 48, 49, 50, 51, 52, 53, 54, 55, 56, 57, 58, 59, 60] (by decide +kernel) (by decide +kernel)
set_option maxRecDepth 20000 in
theorem gX4_group_X4_isRow : GoodIn wsX4_group (wsV RX4 43 RX4 yX4_isRow wsX4_isRow) := goodIn_app (goodIn_of _ (by decide +kernel)) ggX4_group_X4_isRow
set_option maxRecDepth 20000 in
theorem ggX4_group_X4_in : GoodIn wsX4_group wsX4_in := goodIn_r _ [11] (by decide +kernel) (by decide +kernel)
set_option maxRecDepth 20000 in
theorem gX4_group_X4_in : GoodIn wsX4_group (va_wsS RX4 39 yX4_in wsX4_in) := goodIn_app (goodIn_of _ (by decide +kernel)) ggX4_group_X4_in
set_option maxRecDepth 20000 in
theorem ggX4_group_X4_compare : GoodIn wsX4_group wsX4_compare := goodIn_r _ [15, 3, 2, 16, 17, 18, 19, 20, 21, 22, 7, 23, 1, 24, 25, 26, 27, 28, 29, 30, 31, 32, 33, 34, 35, 36, 37, 38, 39, 40, 41, 42, 46, 47, 48, 49, 50, 51, 52, 53, 54, 55, 56, 57, 58, 59, 60] (by decide +kernel) (by decide +kernel)
set_option maxRecDepth 20000 in
theorem gX4_group_X4_compare : GoodIn wsX4_group (wsV RX4 126 RX4 yX4_compare wsX4_compare) := goodIn_app (goodIn_of _ (by decide +kernel)) ggX4_group_X4_compare
set_option maxRecDepth 20000 in
theorem ggX4_group_X4_share : GoodIn wsX4_group wsX4_share := goodIn_r _ [45] (by decide +kernel) (by decide +kernel)
set_option maxRecDepth 20000 in
theorem gX4_group_X4_share : GoodIn wsX4_group (va_wsS RX4 111 yX4_share wsX4_share) := goodIn_app (goodIn_of _ (by decide +kernel)) ggX4_group_X4_share
theorem dX4_group_0 : decode cX4_group 0 = .ok (.aload_n 0, 1) := by decide +kernel
theorem dX4_group_1 : decode cX4_group 1 = .ok (.iload_n 1, 1) := by decide +kernel
theorem dX4_group_2 : decode cX4_group 2 = .ok (.invokevirtual 43, 3) := by decide +kernel
theorem dX4_group_5 : decode cX4_group 5 = .ok (.ifCond .ne 5, 3) := by decide +kernel
theorem dX4_group_8 : decode cX4_group 8 = .ok (.iconst (-1), 1) := by decide +kernel
theorem dX4_group_9 : decode cX4_group 9 = .ok (.ireturn, 1) := by decide +kernel
theorem dX4_group_10 : decode cX4_group 10 = .ok (.iload_n 2, 1) := by decide +kernel
theorem dX4_group_11 : decode cX4_group 11 = .ok (.iconst 0, 1) := by decide +kernel
theorem dX4_group_12 : decode cX4_group 12 = .ok (.sipush 10000, 3) := by decide +kernel
theorem dX4_group_15 : decode cX4_group 15 = .ok (.invokestatic 39, 3) := by decide +kernel
theorem dX4_group_18 : decode cX4_group 18 = .ok (.ifCond .ne 6, 3) := by decide +kernel
theorem dX4_group_21 : decode cX4_group 21 = .ok (.bipush (-2), 2) := by decide +kernel
theorem dX4_group_23 : decode cX4_group 23 = .ok (.ireturn, 1) := by decide +kernel
theorem dX4_group_24 : decode cX4_group 24 = .ok (.iconst 1, 1) := by decide +kernel
theorem dX4_group_25 : decode cX4_group 25 = .ok (.iload_n 1, 1) := by decide +kernel
theorem dX4_group_26 : decode cX4_group 26 = .ok (.ishl, 1) := by decide +kernel
theorem dX4_group_27 : decode cX4_group 27 = .ok (.istore_n 3, 1) := by decide +kernel
theorem dX4_group_28 : decode cX4_group 28 = .ok (.iconst 0, 1) := by decide +kernel
theorem dX4_group_29 : decode cX4_group 29 = .ok (.istore 4, 2) := by decide +kernel
theorem dX4_group_31 : decode cX4_group 31 = .ok (.iload 4, 2) := by decide +kernel
theorem dX4_group_33 : decode cX4_group 33 = .ok (.aload_n 0, 1) := by decide +kernel
theorem dX4_group_34 : decode cX4_group 34 = .ok (.getfield 7, 3) := by decide +kernel
theorem dX4_group_37 : decode cX4_group 37 = .ok (.iconst 4, 1) := by decide +kernel
theorem dX4_group_38 : decode cX4_group 38 = .ok (.iaload, 1) := by decide +kernel
theorem dX4_group_39 : decode cX4_group 39 = .ok (.if_icmp .ge 108, 3) := by decide +kernel
theorem dX4_group_42 : decode cX4_group 42 = .ok (.iconst 0, 1) := by decide +kernel
theorem dX4_group_43 : decode cX4_group 43 = .ok (.istore 5, 2) := by decide +kernel
theorem dX4_group_45 : decode cX4_group 45 = .ok (.iload 5, 2) := by decide +kernel
theorem dX4_group_47 : decode cX4_group 47 = .ok (.aload_n 0, 1) := by decide +kernel
theorem dX4_group_48 : decode cX4_group 48 = .ok (.getfield 7, 3) := by decide +kernel
theorem dX4_group_51 : decode cX4_group 51 = .ok (.iconst 4, 1) := by decide +kernel
theorem dX4_group_52 : decode cX4_group 52 = .ok (.iaload, 1) := by decide +kernel
theorem dX4_group_53 : decode cX4_group 53 = .ok (.if_icmp .ge 88, 3) := by decide +kernel
theorem dX4_group_56 : decode cX4_group 56 = .ok (.iconst 0, 1) := by decide +kernel
theorem dX4_group_57 : decode cX4_group 57 = .ok (.istore 6, 2) := by decide +kernel
theorem dX4_group_59 : decode cX4_group 59 = .ok (.iload 6, 2) := by decide +kernel
theorem dX4_group_61 : decode cX4_group 61 = .ok (.aload_n 0, 1) := by decide +kernel
theorem dX4_group_62 : decode cX4_group 62 = .ok (.getfield 7, 3) := by decide +kernel
theorem dX4_group_65 : decode cX4_group 65 = .ok (.iconst 4, 1) := by decide +kernel
theorem dX4_group_66 : decode cX4_group 66 = .ok (.iaload, 1) := by decide +kernel
theorem dX4_group_67 : decode cX4_group 67 = .ok (.if_icmp .ge 68, 3) := by decide +kernel
theorem dX4_group_70 : decode cX4_group 70 = .ok (.iload_n 3, 1) := by decide +kernel
theorem dX4_group_71 : decode cX4_group 71 = .ok (.iload 5, 2) := by decide +kernel
theorem dX4_group_73 : decode cX4_group 73 = .ok (.ishr, 1) := by decide +kernel
theorem dX4_group_74 : decode cX4_group 74 = .ok (.iconst 1, 1) := by decide +kernel
theorem dX4_group_75 : decode cX4_group 75 = .ok (.iand, 1) := by decide +kernel
theorem dX4_group_76 : decode cX4_group 76 = .ok (.iconst 1, 1) := by decide +kernel
theorem dX4_group_77 : decode cX4_group 77 = .ok (.if_icmp .ne 58, 3) := by decide +kernel
theorem dX4_group_80 : decode cX4_group 80 = .ok (.iload_n 3, 1) := by decide +kernel
theorem dX4_group_81 : decode cX4_group 81 = .ok (.iload 6, 2) := by decide +kernel
theorem dX4_group_83 : decode cX4_group 83 = .ok (.ishr, 1) := by decide +kernel
theorem dX4_group_84 : decode cX4_group 84 = .ok (.iconst 1, 1) := by decide +kernel
theorem dX4_group_85 : decode cX4_group 85 = .ok (.iand, 1) := by decide +kernel
theorem dX4_group_86 : decode cX4_group 86 = .ok (.ifCond .ne 43, 3) := by decide +kernel
theorem dX4_group_89 : decode cX4_group 89 = .ok (.aload_n 0, 1) := by decide +kernel
theorem dX4_group_90 : decode cX4_group 90 = .ok (.iload 5, 2) := by decide +kernel
theorem dX4_group_92 : decode cX4_group 92 = .ok (.iload 6, 2) := by decide +kernel
theorem dX4_group_94 : decode cX4_group 94 = .ok (.aload_n 0, 1) := by decide +kernel
theorem dX4_group_95 : decode cX4_group 95 = .ok (.getfield 7, 3) := by decide +kernel
theorem dX4_group_98 : decode cX4_group 98 = .ok (.iconst 1, 1) := by decide +kernel
theorem dX4_group_99 : decode cX4_group 99 = .ok (.iaload, 1) := by decide +kernel
theorem dX4_group_100 : decode cX4_group 100 = .ok (.invokevirtual 126, 3) := by decide +kernel
theorem dX4_group_103 : decode cX4_group 103 = .ok (.iload_n 3, 1) := by decide +kernel
theorem dX4_group_104 : decode cX4_group 104 = .ok (.aload_n 0, 1) := by decide +kernel
theorem dX4_group_105 : decode cX4_group 105 = .ok (.getfield 102, 3) := by decide +kernel
theorem dX4_group_108 : decode cX4_group 108 = .ok (.aload_n 0, 1) := by decide +kernel
theorem dX4_group_109 : decode cX4_group 109 = .ok (.getfield 99, 3) := by decide +kernel
theorem dX4_group_112 : decode cX4_group 112 = .ok (.invokestatic 111, 3) := by decide +kernel
theorem dX4_group_115 : decode cX4_group 115 = .ok (.iload_n 2, 1) := by decide +kernel
theorem dX4_group_116 : decode cX4_group 116 = .ok (.if_icmp .lt 10, 3) := by decide +kernel
theorem dX4_group_119 : decode cX4_group 119 = .ok (.iconst 1, 1) := by decide +kernel
theorem dX4_group_120 : decode cX4_group 120 = .ok (.iload 6, 2) := by decide +kernel
theorem dX4_group_122 : decode cX4_group 122 = .ok (.ishl, 1) := by decide +kernel
theorem dX4_group_123 : decode cX4_group 123 = .ok (.goto 4, 3) := by decide +kernel
theorem dX4_group_126 : decode cX4_group 126 = .ok (.iconst 0, 1) := by decide +kernel
theorem dX4_group_127 : decode cX4_group 127 = .ok (.ior, 1) := by decide +kernel
theorem dX4_group_128 : decode cX4_group 128 = .ok (.istore_n 3, 1) := by decide +kernel
theorem dX4_group_129 : decode cX4_group 129 = .ok (.iinc 6 1, 3) := by decide +kernel
theorem dX4_group_132 : decode cX4_group 132 = .ok (.goto (-73), 3) := by decide +kernel
theorem dX4_group_135 : decode cX4_group 135 = .ok (.iinc 5 1, 3) := by decide +kernel
theorem dX4_group_138 : decode cX4_group 138 = .ok (.goto (-93), 3) := by decide +kernel
theorem dX4_group_141 : decode cX4_group 141 = .ok (.iinc 4 1, 3) := by decide +kernel
theorem dX4_group_144 : decode cX4_group 144 = .ok (.goto (-113), 3) := by decide +kernel
theorem dX4_group_147 : decode cX4_group 147 = .ok (.iconst 0, 1) := by decide +kernel
theorem dX4_group_148 : decode cX4_group 148 = .ok (.istore 4, 2) := by decide +kernel
theorem dX4_group_150 : decode cX4_group 150 = .ok (.iload_n 3, 1) := by decide +kernel
theorem dX4_group_151 : decode cX4_group 151 = .ok (.iload 4, 2) := by decide +kernel
theorem dX4_group_153 : decode cX4_group 153 = .ok (.ishr, 1) := by decide +kernel
theorem dX4_group_154 : decode cX4_group 154 = .ok (.iconst 1, 1) := by decide +kernel
theorem dX4_group_155 : decode cX4_group 155 = .ok (.iand, 1) := by decide +kernel
theorem dX4_group_156 : decode cX4_group 156 = .ok (.ifCond .ne 9, 3) := by decide +kernel
theorem dX4_group_159 : decode cX4_group 159 = .ok (.iinc 4 1, 3) := by decide +kernel
theorem dX4_group_162 : decode cX4_group 162 = .ok (.goto (-12), 3) := by decide +kernel
theorem dX4_group_165 : decode cX4_group 165 = .ok (.iload 4, 2) := by decide +kernel
theorem dX4_group_167 : decode cX4_group 167 = .ok (.ireturn, 1) := by decide +kernel
set_option maxRecDepth 20000 in
theorem ggX4_put_X4_in : GoodIn wsX4_put wsX4_in := goodIn_r _ [7] (by decide +kernel) (by decide +kernel)
set_option maxRecDepth 20000 in
theorem gX4_put_X4_in : GoodIn wsX4_put (va_wsS RX4 39 yX4_in wsX4_in) := goodIn_app (goodIn_of _ (by decide +kernel)) ggX4_put_X4_in
theorem dX4_put_0 : decode cX4_put 0 = .ok (.iconst 0, 1) := by decide +kernel
theorem dX4_put_1 : decode cX4_put 1 = .ok (.istore_n 3, 1) := by decide +kernel
theorem dX4_put_2 : decode cX4_put 2 = .ok (.iload_n 3, 1) := by decide +kernel
theorem dX4_put_3 : decode cX4_put 3 = .ok (.bipush 8, 2) := by decide +kernel
theorem dX4_put_5 : decode cX4_put 5 = .ok (.if_icmp .ge 24, 3) := by decide +kernel
theorem dX4_put_8 : decode cX4_put 8 = .ok (.lload_n 1, 1) := by decide +kernel
theorem dX4_put_9 : decode cX4_put 9 = .ok (.bipush 8, 2) := by decide +kernel
theorem dX4_put_11 : decode cX4_put 11 = .ok (.iload_n 3, 1) := by decide +kernel
theorem dX4_put_12 : decode cX4_put 12 = .ok (.imul, 1) := by decide +kernel
theorem dX4_put_13 : decode cX4_put 13 = .ok (.lshr, 1) := by decide +kernel
theorem dX4_put_14 : decode cX4_put 14 = .ok (.ldc2_w 143, 3) := by decide +kernel
theorem dX4_put_17 : decode cX4_put 17 = .ok (.land, 1) := by decide +kernel
theorem dX4_put_18 : decode cX4_put 18 = .ok (.lconst 0, 1) := by decide +kernel
theorem dX4_put_19 : decode cX4_put 19 = .ok (.lcmp, 1) := by decide +kernel
theorem dX4_put_20 : decode cX4_put 20 = .ok (.ifCond .eq 9, 3) := by decide +kernel
theorem dX4_put_23 : decode cX4_put 23 = .ok (.iinc 3 1, 3) := by decide +kernel
theorem dX4_put_26 : decode cX4_put 26 = .ok (.goto (-24), 3) := by decide +kernel
theorem dX4_put_29 : decode cX4_put 29 = .ok (.iload_n 3, 1) := by decide +kernel
theorem dX4_put_30 : decode cX4_put 30 = .ok (.ifCond .le 7, 3) := by decide +kernel
theorem dX4_put_33 : decode cX4_put 33 = .ok (.iconst 1, 1) := by decide +kernel
theorem dX4_put_34 : decode cX4_put 34 = .ok (.goto 4, 3) := by decide +kernel
theorem dX4_put_37 : decode cX4_put 37 = .ok (.iconst 0, 1) := by decide +kernel
theorem dX4_put_38 : decode cX4_put 38 = .ok (.istore 4, 2) := by decide +kernel
theorem dX4_put_40 : decode cX4_put 40 = .ok (.iconst 0, 1) := by decide +kernel
theorem dX4_put_41 : decode cX4_put 41 = .ok (.istore 5, 2) := by decide +kernel
theorem dX4_put_43 : decode cX4_put 43 = .ok (.iload 5, 2) := by decide +kernel
theorem dX4_put_45 : decode cX4_put 45 = .ok (.bipush 8, 2) := by decide +kernel
theorem dX4_put_47 : decode cX4_put 47 = .ok (.if_icmp .ge 61, 3) := by decide +kernel
theorem dX4_put_50 : decode cX4_put 50 = .ok (.lload_n 1, 1) := by decide +kernel
theorem dX4_put_51 : decode cX4_put 51 = .ok (.bipush 8, 2) := by decide +kernel
theorem dX4_put_53 : decode cX4_put 53 = .ok (.iload 5, 2) := by decide +kernel
theorem dX4_put_55 : decode cX4_put 55 = .ok (.imul, 1) := by decide +kernel
theorem dX4_put_56 : decode cX4_put 56 = .ok (.lshr, 1) := by decide +kernel
theorem dX4_put_57 : decode cX4_put 57 = .ok (.ldc2_w 143, 3) := by decide +kernel
theorem dX4_put_60 : decode cX4_put 60 = .ok (.land, 1) := by decide +kernel
theorem dX4_put_61 : decode cX4_put 61 = .ok (.l2i, 1) := by decide +kernel
theorem dX4_put_62 : decode cX4_put 62 = .ok (.istore 6, 2) := by decide +kernel
theorem dX4_put_64 : decode cX4_put 64 = .ok (.iload 4, 2) := by decide +kernel
theorem dX4_put_66 : decode cX4_put 66 = .ok (.ifCond .eq 33, 3) := by decide +kernel
theorem dX4_put_69 : decode cX4_put 69 = .ok (.iload 5, 2) := by decide +kernel
theorem dX4_put_71 : decode cX4_put 71 = .ok (.iload_n 3, 1) := by decide +kernel
theorem dX4_put_72 : decode cX4_put 72 = .ok (.if_icmp .ge 18, 3) := by decide +kernel
theorem dX4_put_75 : decode cX4_put 75 = .ok (.iload 6, 2) := by decide +kernel
theorem dX4_put_77 : decode cX4_put 77 = .ok (.bipush 33, 2) := by decide +kernel
theorem dX4_put_79 : decode cX4_put 79 = .ok (.bipush 126, 2) := by decide +kernel
theorem dX4_put_81 : decode cX4_put 81 = .ok (.invokestatic 39, 3) := by decide +kernel
theorem dX4_put_84 : decode cX4_put 84 = .ok (.ifCond .eq 15, 3) := by decide +kernel
theorem dX4_put_87 : decode cX4_put 87 = .ok (.goto 8, 3) := by decide +kernel
theorem dX4_put_90 : decode cX4_put 90 = .ok (.iload 6, 2) := by decide +kernel
theorem dX4_put_92 : decode cX4_put 92 = .ok (.ifCond .ne 7, 3) := by decide +kernel
theorem dX4_put_95 : decode cX4_put 95 = .ok (.iconst 1, 1) := by decide +kernel
theorem dX4_put_96 : decode cX4_put 96 = .ok (.goto 4, 3) := by decide +kernel
theorem dX4_put_99 : decode cX4_put 99 = .ok (.iconst 0, 1) := by decide +kernel
theorem dX4_put_100 : decode cX4_put 100 = .ok (.istore 4, 2) := by decide +kernel
theorem dX4_put_102 : decode cX4_put 102 = .ok (.iinc 5 1, 3) := by decide +kernel
theorem dX4_put_105 : decode cX4_put 105 = .ok (.goto (-62), 3) := by decide +kernel
theorem dX4_put_108 : decode cX4_put 108 = .ok (.iload 4, 2) := by decide +kernel
theorem dX4_put_110 : decode cX4_put 110 = .ok (.ifCond .ne 6, 3) := by decide +kernel
theorem dX4_put_113 : decode cX4_put 113 = .ok (.bipush (-2), 2) := by decide +kernel
theorem dX4_put_115 : decode cX4_put 115 = .ok (.ireturn, 1) := by decide +kernel
theorem dX4_put_116 : decode cX4_put 116 = .ok (.aload_n 0, 1) := by decide +kernel
theorem dX4_put_117 : decode cX4_put 117 = .ok (.getfield 62, 3) := by decide +kernel
theorem dX4_put_120 : decode cX4_put 120 = .ok (.iload_n 3, 1) := by decide +kernel
theorem dX4_put_121 : decode cX4_put 121 = .ok (.iadd, 1) := by decide +kernel
theorem dX4_put_122 : decode cX4_put 122 = .ok (.bipush 64, 2) := by decide +kernel
theorem dX4_put_124 : decode cX4_put 124 = .ok (.if_icmp .le 6, 3) := by decide +kernel
theorem dX4_put_127 : decode cX4_put 127 = .ok (.bipush (-4), 2) := by decide +kernel
theorem dX4_put_129 : decode cX4_put 129 = .ok (.ireturn, 1) := by decide +kernel
theorem dX4_put_130 : decode cX4_put 130 = .ok (.iload_n 3, 1) := by decide +kernel
theorem dX4_put_131 : decode cX4_put 131 = .ok (.iconst 1, 1) := by decide +kernel
theorem dX4_put_132 : decode cX4_put 132 = .ok (.isub, 1) := by decide +kernel
theorem dX4_put_133 : decode cX4_put 133 = .ok (.istore 5, 2) := by decide +kernel
theorem dX4_put_135 : decode cX4_put 135 = .ok (.iload 5, 2) := by decide +kernel
theorem dX4_put_137 : decode cX4_put 137 = .ok (.ifCond .lt 40, 3) := by decide +kernel
theorem dX4_put_140 : decode cX4_put 140 = .ok (.aload_n 0, 1) := by decide +kernel
theorem dX4_put_141 : decode cX4_put 141 = .ok (.getfield 23, 3) := by decide +kernel
theorem dX4_put_144 : decode cX4_put 144 = .ok (.aload_n 0, 1) := by decide +kernel
theorem dX4_put_145 : decode cX4_put 145 = .ok (.getfield 62, 3) := by decide +kernel
theorem dX4_put_148 : decode cX4_put 148 = .ok (.lload_n 1, 1) := by decide +kernel
theorem dX4_put_149 : decode cX4_put 149 = .ok (.bipush 8, 2) := by decide +kernel
theorem dX4_put_151 : decode cX4_put 151 = .ok (.iload 5, 2) := by decide +kernel
theorem dX4_put_153 : decode cX4_put 153 = .ok (.imul, 1) := by decide +kernel
theorem dX4_put_154 : decode cX4_put 154 = .ok (.lshr, 1) := by decide +kernel
theorem dX4_put_155 : decode cX4_put 155 = .ok (.ldc2_w 143, 3) := by decide +kernel
theorem dX4_put_158 : decode cX4_put 158 = .ok (.land, 1) := by decide +kernel
theorem dX4_put_159 : decode cX4_put 159 = .ok (.l2i, 1) := by decide +kernel
theorem dX4_put_160 : decode cX4_put 160 = .ok (.iastore, 1) := by decide +kernel
theorem dX4_put_161 : decode cX4_put 161 = .ok (.aload_n 0, 1) := by decide +kernel
theorem dX4_put_162 : decode cX4_put 162 = .ok (.dup, 1) := by decide +kernel
theorem dX4_put_163 : decode cX4_put 163 = .ok (.getfield 62, 3) := by decide +kernel
theorem dX4_put_166 : decode cX4_put 166 = .ok (.iconst 1, 1) := by decide +kernel
theorem dX4_put_167 : decode cX4_put 167 = .ok (.iadd, 1) := by decide +kernel
theorem dX4_put_168 : decode cX4_put 168 = .ok (.putfield 62, 3) := by decide +kernel
theorem dX4_put_171 : decode cX4_put 171 = .ok (.iinc 5 (-1), 3) := by decide +kernel
theorem dX4_put_174 : decode cX4_put 174 = .ok (.goto (-39), 3) := by decide +kernel
theorem dX4_put_177 : decode cX4_put 177 = .ok (.aload_n 0, 1) := by decide +kernel
theorem dX4_put_178 : decode cX4_put 178 = .ok (.getfield 62, 3) := by decide +kernel
theorem dX4_put_181 : decode cX4_put 181 = .ok (.ireturn, 1) := by decide +kernel
theorem dX4_wipe_0 : decode cX4_wipe 0 = .ok (.aload_n 0, 1) := by decide +kernel
theorem dX4_wipe_1 : decode cX4_wipe 1 = .ok (.getfield 62, 3) := by decide +kernel
theorem dX4_wipe_4 : decode cX4_wipe 4 = .ok (.istore_n 1, 1) := by decide +kernel
theorem dX4_wipe_5 : decode cX4_wipe 5 = .ok (.aload_n 0, 1) := by decide +kernel
theorem dX4_wipe_6 : decode cX4_wipe 6 = .ok (.iconst 0, 1) := by decide +kernel
theorem dX4_wipe_7 : decode cX4_wipe 7 = .ok (.putfield 62, 3) := by decide +kernel
theorem dX4_wipe_10 : decode cX4_wipe 10 = .ok (.iload_n 1, 1) := by decide +kernel
theorem dX4_wipe_11 : decode cX4_wipe 11 = .ok (.ireturn, 1) := by decide +kernel
theorem dX4_undo_0 : decode cX4_undo 0 = .ok (.aload_n 0, 1) := by decide +kernel
theorem dX4_undo_1 : decode cX4_undo 1 = .ok (.getfield 47, 3) := by decide +kernel
theorem dX4_undo_4 : decode cX4_undo 4 = .ok (.ifCond .ne 6, 3) := by decide +kernel
theorem dX4_undo_7 : decode cX4_undo 7 = .ok (.bipush (-5), 2) := by decide +kernel
theorem dX4_undo_9 : decode cX4_undo 9 = .ok (.ireturn, 1) := by decide +kernel
theorem dX4_undo_10 : decode cX4_undo 10 = .ok (.aload_n 0, 1) := by decide +kernel
theorem dX4_undo_11 : decode cX4_undo 11 = .ok (.dup, 1) := by decide +kernel
theorem dX4_undo_12 : decode cX4_undo 12 = .ok (.getfield 47, 3) := by decide +kernel
theorem dX4_undo_15 : decode cX4_undo 15 = .ok (.iconst 1, 1) := by decide +kernel
theorem dX4_undo_16 : decode cX4_undo 16 = .ok (.isub, 1) := by decide +kernel
theorem dX4_undo_17 : decode cX4_undo 17 = .ok (.putfield 47, 3) := by decide +kernel
theorem dX4_undo_20 : decode cX4_undo 20 = .ok (.iconst 0, 1) := by decide +kernel
theorem dX4_undo_21 : decode cX4_undo 21 = .ok (.istore_n 1, 1) := by decide +kernel
theorem dX4_undo_22 : decode cX4_undo 22 = .ok (.iload_n 1, 1) := by decide +kernel
theorem dX4_undo_23 : decode cX4_undo 23 = .ok (.sipush 655, 3) := by decide +kernel
theorem dX4_undo_26 : decode cX4_undo 26 = .ok (.if_icmp .ge 30, 3) := by decide +kernel
theorem dX4_undo_29 : decode cX4_undo 29 = .ok (.aload_n 0, 1) := by decide +kernel
theorem dX4_undo_30 : decode cX4_undo 30 = .ok (.getfield 7, 3) := by decide +kernel
theorem dX4_undo_33 : decode cX4_undo 33 = .ok (.iload_n 1, 1) := by decide +kernel
theorem dX4_undo_34 : decode cX4_undo 34 = .ok (.aload_n 0, 1) := by decide +kernel
theorem dX4_undo_35 : decode cX4_undo 35 = .ok (.getfield 13, 3) := by decide +kernel
theorem dX4_undo_38 : decode cX4_undo 38 = .ok (.sipush 655, 3) := by decide +kernel
theorem dX4_undo_41 : decode cX4_undo 41 = .ok (.aload_n 0, 1) := by decide +kernel
theorem dX4_undo_42 : decode cX4_undo 42 = .ok (.getfield 47, 3) := by decide +kernel
theorem dX4_undo_45 : decode cX4_undo 45 = .ok (.imul, 1) := by decide +kernel
theorem dX4_undo_46 : decode cX4_undo 46 = .ok (.iload_n 1, 1) := by decide +kernel
theorem dX4_undo_47 : decode cX4_undo 47 = .ok (.iadd, 1) := by decide +kernel
theorem dX4_undo_48 : decode cX4_undo 48 = .ok (.iaload, 1) := by decide +kernel
theorem dX4_undo_49 : decode cX4_undo 49 = .ok (.iastore, 1) := by decide +kernel
theorem dX4_undo_50 : decode cX4_undo 50 = .ok (.iinc 1 1, 3) := by decide +kernel
theorem dX4_undo_53 : decode cX4_undo 53 = .ok (.goto (-31), 3) := by decide +kernel
theorem dX4_undo_56 : decode cX4_undo 56 = .ok (.aload_n 0, 1) := by decide +kernel
theorem dX4_undo_57 : decode cX4_undo 57 = .ok (.getfield 47, 3) := by decide +kernel
theorem dX4_undo_60 : decode cX4_undo 60 = .ok (.ireturn, 1) := by decide +kernel
set_option maxRecDepth 20000 in
theorem ggX4_save_X4_in : GoodIn wsX4_save wsX4_in := goodIn_r _ [7] (by decide +kernel) (by decide +kernel)
set_option maxRecDepth 20000 in
theorem gX4_save_X4_in : GoodIn wsX4_save (va_wsS RX4 39 yX4_in wsX4_in) := goodIn_app (goodIn_of _ (by decide +kernel)) ggX4_save_X4_in
theorem dX4_save_0 : decode cX4_save 0 = .ok (.iload_n 1, 1) := by decide +kernel
theorem dX4_save_1 : decode cX4_save 1 = .ok (.iconst 0, 1) := by decide +kernel
theorem dX4_save_2 : decode cX4_save 2 = .ok (.iconst 1, 1) := by decide +kernel
theorem dX4_save_3 : decode cX4_save 3 = .ok (.invokestatic 39, 3) := by decide +kernel
theorem dX4_save_6 : decode cX4_save 6 = .ok (.ifCond .ne 6, 3) := by decide +kernel
theorem dX4_save_9 : decode cX4_save 9 = .ok (.bipush (-2), 2) := by decide +kernel
theorem dX4_save_11 : decode cX4_save 11 = .ok (.ireturn, 1) := by decide +kernel
theorem dX4_save_12 : decode cX4_save 12 = .ok (.iconst 0, 1) := by decide +kernel
theorem dX4_save_13 : decode cX4_save 13 = .ok (.istore_n 2, 1) := by decide +kernel
theorem dX4_save_14 : decode cX4_save 14 = .ok (.iload_n 2, 1) := by decide +kernel
theorem dX4_save_15 : decode cX4_save 15 = .ok (.sipush 655, 3) := by decide +kernel
theorem dX4_save_18 : decode cX4_save 18 = .ok (.if_icmp .ge 27, 3) := by decide +kernel
theorem dX4_save_21 : decode cX4_save 21 = .ok (.aload_n 0, 1) := by decide +kernel
theorem dX4_save_22 : decode cX4_save 22 = .ok (.getfield 16, 3) := by decide +kernel
theorem dX4_save_25 : decode cX4_save 25 = .ok (.sipush 655, 3) := by decide +kernel
theorem dX4_save_28 : decode cX4_save 28 = .ok (.iload_n 1, 1) := by decide +kernel
theorem dX4_save_29 : decode cX4_save 29 = .ok (.imul, 1) := by decide +kernel
theorem dX4_save_30 : decode cX4_save 30 = .ok (.iload_n 2, 1) := by decide +kernel
theorem dX4_save_31 : decode cX4_save 31 = .ok (.iadd, 1) := by decide +kernel
theorem dX4_save_32 : decode cX4_save 32 = .ok (.aload_n 0, 1) := by decide +kernel
theorem dX4_save_33 : decode cX4_save 33 = .ok (.getfield 7, 3) := by decide +kernel
theorem dX4_save_36 : decode cX4_save 36 = .ok (.iload_n 2, 1) := by decide +kernel
theorem dX4_save_37 : decode cX4_save 37 = .ok (.iaload, 1) := by decide +kernel
theorem dX4_save_38 : decode cX4_save 38 = .ok (.iastore, 1) := by decide +kernel
theorem dX4_save_39 : decode cX4_save 39 = .ok (.iinc 2 1, 3) := by decide +kernel
theorem dX4_save_42 : decode cX4_save 42 = .ok (.goto (-28), 3) := by decide +kernel
theorem dX4_save_45 : decode cX4_save 45 = .ok (.aload_n 0, 1) := by decide +kernel
theorem dX4_save_46 : decode cX4_save 46 = .ok (.getfield 19, 3) := by decide +kernel
theorem dX4_save_49 : decode cX4_save 49 = .ok (.iload_n 1, 1) := by decide +kernel
theorem dX4_save_50 : decode cX4_save 50 = .ok (.iconst 1, 1) := by decide +kernel
theorem dX4_save_51 : decode cX4_save 51 = .ok (.bastore, 1) := by decide +kernel
theorem dX4_save_52 : decode cX4_save 52 = .ok (.aload_n 0, 1) := by decide +kernel
theorem dX4_save_53 : decode cX4_save 53 = .ok (.getfield 7, 3) := by decide +kernel
theorem dX4_save_56 : decode cX4_save 56 = .ok (.iconst 4, 1) := by decide +kernel
theorem dX4_save_57 : decode cX4_save 57 = .ok (.iaload, 1) := by decide +kernel
theorem dX4_save_58 : decode cX4_save 58 = .ok (.ireturn, 1) := by decide +kernel
set_option maxRecDepth 20000 in
theorem ggX4_restore_X4_in : GoodIn wsX4_restore wsX4_in := goodIn_r _ [7] (by decide +kernel) (by decide +kernel)
set_option maxRecDepth 20000 in
theorem gX4_restore_X4_in : GoodIn wsX4_restore (va_wsS RX4 39 yX4_in wsX4_in) := goodIn_app (goodIn_of _ (by decide +kernel)) ggX4_restore_X4_in
set_option maxRecDepth 20000 in
theorem ggX4_restore_X4_know : GoodIn wsX4_restore wsX4_know := goodIn_r _ [11, 12, 13, 2, 14, 15, 16, 17, 18, 19, 20, 21, 22, 23, 24, 25, 26, 27, 28] (by decide +kernel) (by decide +kernel)
set_option maxRecDepth 20000 in
theorem gX4_restore_X4_know : GoodIn wsX4_restore (wsV RX4 59 RX4 yX4_know wsX4_know) := goodIn_app (goodIn_of _ (by decide +kernel)) ggX4_restore_X4_know
theorem dX4_restore_0 : decode cX4_restore 0 = .ok (.iload_n 1, 1) := by decide +kernel
theorem dX4_restore_1 : decode cX4_restore 1 = .ok (.iconst 0, 1) := by decide +kernel
theorem dX4_restore_2 : decode cX4_restore 2 = .ok (.iconst 1, 1) := by decide +kernel
theorem dX4_restore_3 : decode cX4_restore 3 = .ok (.invokestatic 39, 3) := by decide +kernel
theorem dX4_restore_6 : decode cX4_restore 6 = .ok (.ifCond .ne 6, 3) := by decide +kernel
theorem dX4_restore_9 : decode cX4_restore 9 = .ok (.bipush (-2), 2) := by decide +kernel
theorem dX4_restore_11 : decode cX4_restore 11 = .ok (.ireturn, 1) := by decide +kernel
theorem dX4_restore_12 : decode cX4_restore 12 = .ok (.aload_n 0, 1) := by decide +kernel
theorem dX4_restore_13 : decode cX4_restore 13 = .ok (.getfield 19, 3) := by decide +kernel
theorem dX4_restore_16 : decode cX4_restore 16 = .ok (.iload_n 1, 1) := by decide +kernel
theorem dX4_restore_17 : decode cX4_restore 17 = .ok (.baload, 1) := by decide +kernel
theorem dX4_restore_18 : decode cX4_restore 18 = .ok (.ifCond .ne 6, 3) := by decide +kernel
theorem dX4_restore_21 : decode cX4_restore 21 = .ok (.bipush (-5), 2) := by decide +kernel
theorem dX4_restore_23 : decode cX4_restore 23 = .ok (.ireturn, 1) := by decide +kernel
theorem dX4_restore_24 : decode cX4_restore 24 = .ok (.aload_n 0, 1) := by decide +kernel
theorem dX4_restore_25 : decode cX4_restore 25 = .ok (.invokevirtual 59, 3) := by decide +kernel
theorem dX4_restore_28 : decode cX4_restore 28 = .ok (.iconst 0, 1) := by decide +kernel
theorem dX4_restore_29 : decode cX4_restore 29 = .ok (.istore_n 2, 1) := by decide +kernel
theorem dX4_restore_30 : decode cX4_restore 30 = .ok (.iload_n 2, 1) := by decide +kernel
theorem dX4_restore_31 : decode cX4_restore 31 = .ok (.sipush 655, 3) := by decide +kernel
theorem dX4_restore_34 : decode cX4_restore 34 = .ok (.if_icmp .ge 27, 3) := by decide +kernel
theorem dX4_restore_37 : decode cX4_restore 37 = .ok (.aload_n 0, 1) := by decide +kernel
theorem dX4_restore_38 : decode cX4_restore 38 = .ok (.getfield 7, 3) := by decide +kernel
theorem dX4_restore_41 : decode cX4_restore 41 = .ok (.iload_n 2, 1) := by decide +kernel
theorem dX4_restore_42 : decode cX4_restore 42 = .ok (.aload_n 0, 1) := by decide +kernel
theorem dX4_restore_43 : decode cX4_restore 43 = .ok (.getfield 16, 3) := by decide +kernel
theorem dX4_restore_46 : decode cX4_restore 46 = .ok (.sipush 655, 3) := by decide +kernel
theorem dX4_restore_49 : decode cX4_restore 49 = .ok (.iload_n 1, 1) := by decide +kernel
theorem dX4_restore_50 : decode cX4_restore 50 = .ok (.imul, 1) := by decide +kernel
theorem dX4_restore_51 : decode cX4_restore 51 = .ok (.iload_n 2, 1) := by decide +kernel
theorem dX4_restore_52 : decode cX4_restore 52 = .ok (.iadd, 1) := by decide +kernel
theorem dX4_restore_53 : decode cX4_restore 53 = .ok (.iaload, 1) := by decide +kernel
theorem dX4_restore_54 : decode cX4_restore 54 = .ok (.iastore, 1) := by decide +kernel
theorem dX4_restore_55 : decode cX4_restore 55 = .ok (.iinc 2 1, 3) := by decide +kernel
theorem dX4_restore_58 : decode cX4_restore 58 = .ok (.goto (-28), 3) := by decide +kernel
theorem dX4_restore_61 : decode cX4_restore 61 = .ok (.aload_n 0, 1) := by decide +kernel
theorem dX4_restore_62 : decode cX4_restore 62 = .ok (.getfield 7, 3) := by decide +kernel
theorem dX4_restore_65 : decode cX4_restore 65 = .ok (.iconst 4, 1) := by decide +kernel
theorem dX4_restore_66 : decode cX4_restore 66 = .ok (.iaload, 1) := by decide +kernel
theorem dX4_restore_67 : decode cX4_restore 67 = .ok (.ireturn, 1) := by decide +kernel
theorem dJ9_abs_0f7a4_0 : decode cJ9_abs_0f7a4 0 = .ok (.iload_n 0, 1) := by decide +kernel
theorem dJ9_abs_0f7a4_1 : decode cJ9_abs_0f7a4 1 = .ok (.ifCond .ge 8, 3) := by decide +kernel
theorem dJ9_abs_0f7a4_4 : decode cJ9_abs_0f7a4 4 = .ok (.iload_n 0, 1) := by decide +kernel
theorem dJ9_abs_0f7a4_5 : decode cJ9_abs_0f7a4 5 = .ok (.ineg, 1) := by decide +kernel
theorem dJ9_abs_0f7a4_6 : decode cJ9_abs_0f7a4 6 = .ok (.goto 4, 3) := by decide +kernel
theorem dJ9_abs_0f7a4_9 : decode cJ9_abs_0f7a4 9 = .ok (.iload_n 0, 1) := by decide +kernel
theorem dJ9_abs_0f7a4_10 : decode cJ9_abs_0f7a4 10 = .ok (.ireturn, 1) := by decide +kernel
theorem dJ9_max_7cf53_0 : decode cJ9_max_7cf53 0 = .ok (.iload_n 0, 1) := by decide +kernel
theorem dJ9_max_7cf53_1 : decode cJ9_max_7cf53 1 = .ok (.iload_n 1, 1) := by decide +kernel
theorem dJ9_max_7cf53_2 : decode cJ9_max_7cf53 2 = .ok (.if_icmp .lt 7, 3) := by decide +kernel
theorem dJ9_max_7cf53_5 : decode cJ9_max_7cf53 5 = .ok (.iload_n 0, 1) := by decide +kernel
theorem dJ9_max_7cf53_6 : decode cJ9_max_7cf53 6 = .ok (.goto 4, 3) := by decide +kernel
theorem dJ9_max_7cf53_9 : decode cJ9_max_7cf53 9 = .ok (.iload_n 1, 1) := by decide +kernel
theorem dJ9_max_7cf53_10 : decode cJ9_max_7cf53 10 = .ok (.ireturn, 1) := by decide +kernel
theorem dJ9_min_7cf53_0 : decode cJ9_min_7cf53 0 = .ok (.iload_n 0, 1) := by decide +kernel
theorem dJ9_min_7cf53_1 : decode cJ9_min_7cf53 1 = .ok (.iload_n 1, 1) := by decide +kernel
theorem dJ9_min_7cf53_2 : decode cJ9_min_7cf53 2 = .ok (.if_icmp .gt 7, 3) := by decide +kernel
theorem dJ9_min_7cf53_5 : decode cJ9_min_7cf53 5 = .ok (.iload_n 0, 1) := by decide +kernel
theorem dJ9_min_7cf53_6 : decode cJ9_min_7cf53 6 = .ok (.goto 4, 3) := by decide +kernel
theorem dJ9_min_7cf53_9 : decode cJ9_min_7cf53 9 = .ok (.iload_n 1, 1) := by decide +kernel
theorem dJ9_min_7cf53_10 : decode cJ9_min_7cf53 10 = .ok (.ireturn, 1) := by decide +kernel
