theorem dX4_add_31 : decode cX4_add 31 = .ok (.getfield 7, 3) := by decide +kernel
theorem dX4_add_34 : decode cX4_add 34 = .ok (.iconst 5, 1) := by decide +kernel
theorem dX4_add_35 : decode cX4_add 35 = .ok (.aload_n 0, 1) := by decide +kernel
theorem dX4_add_36 : decode cX4_add 36 = .ok (.getfield 7, 3) := by decide +kernel
theorem dX4_add_39 : decode cX4_add 39 = .ok (.iconst 4, 1) := by decide +kernel
theorem dX4_add_40 : decode cX4_add 40 = .ok (.iaload, 1) := by decide +kernel
theorem dX4_add_41 : decode cX4_add 41 = .ok (.iadd, 1) := by decide +kernel
theorem dX4_add_42 : decode cX4_add 42 = .ok (.iconst 0, 1) := by decide +kernel
theorem dX4_add_43 : decode cX4_add 43 = .ok (.iastore, 1) := by decide +kernel
theorem dX4_add_44 : decode cX4_add 44 = .ok (.aload_n 0, 1) := by decide +kernel
theorem dX4_add_45 : decode cX4_add 45 = .ok (.aload_n 0, 1) := by decide +kernel
theorem dX4_add_46 : decode cX4_add 46 = .ok (.getfield 7, 3) := by decide +kernel
theorem dX4_add_49 : decode cX4_add 49 = .ok (.iconst 4, 1) := by decide +kernel
theorem dX4_add_50 : decode cX4_add 50 = .ok (.iaload, 1) := by decide +kernel
theorem dX4_add_51 : decode cX4_add 51 = .ok (.invokevirtual 72, 3) := by decide +kernel
theorem dX4_add_54 : decode cX4_add 54 = .ok (.aload_n 0, 1) := by decide +kernel
theorem dX4_add_55 : decode cX4_add 55 = .ok (.getfield 7, 3) := by decide +kernel
theorem dX4_add_58 : decode cX4_add 58 = .ok (.iconst 4, 1) := by decide +kernel
theorem dX4_add_59 : decode cX4_add 59 = .ok (.dup2, 1) := by decide +kernel
theorem dX4_add_60 : decode cX4_add 60 = .ok (.iaload, 1) := by decide +kernel
theorem dX4_add_61 : decode cX4_add 61 = .ok (.iconst 1, 1) := by decide +kernel
theorem dX4_add_62 : decode cX4_add 62 = .ok (.iadd, 1) := by decide +kernel
theorem dX4_add_63 : decode cX4_add 63 = .ok (.iastore, 1) := by decide +kernel
theorem dX4_add_64 : decode cX4_add 64 = .ok (.aload_n 0, 1) := by decide +kernel
theorem dX4_add_65 : decode cX4_add 65 = .ok (.getfield 7, 3) := by decide +kernel
theorem dX4_add_68 : decode cX4_add 68 = .ok (.iconst 4, 1) := by decide +kernel
theorem dX4_add_69 : decode cX4_add 69 = .ok (.iaload, 1) := by decide +kernel
theorem dX4_add_70 : decode cX4_add 70 = .ok (.iconst 1, 1) := by decide +kernel
theorem dX4_add_71 : decode cX4_add 71 = .ok (.isub, 1) := by decide +kernel
theorem dX4_add_72 : decode cX4_add 72 = .ok (.ireturn, 1) := by decide +kernel
set_option maxRecDepth 20000 in
theorem ggX4_append_X4_isRow : GoodIn wsX4_append wsX4_isRow := goodIn_r _ [7, 1, 8, 9, 6, 10, 29, 30, 31, 32, 33, 34, 35, 36, 37, 38, 39, 40, 41, 42, 43] (by decide +kernel) (by decide +kernel)
set_option maxRecDepth 20000 in
theorem gX4_append_X4_isRow : GoodIn wsX4_append (wsV RX4 43 RX4 yX4_isRow wsX4_isRow) := goodIn_app (goodIn_of _ (by decide +kernel)) ggX4_append_X4_isRow
set_option maxRecDepth 20000 in
theorem ggX4_append_X4_fault : GoodIn wsX4_append wsX4_fault := goodIn_r _ [14, 2, 15, 16, 17, 6, 18, 8, 9, 10, 29, 30, 31, 32, 33, 34, 35, 36, 37, 38, 39, 40, 41, 42, 43] (by decide +kernel) (by decide +kernel)
set_option maxRecDepth 20000 in
theorem gX4_append_X4_fault : GoodIn wsX4_append (wsV RX4 68 RX4 yX4_fault wsX4_fault) := goodIn_app (goodIn_of _ (by decide +kernel)) ggX4_append_X4_fault
set_option maxRecDepth 20000 in
theorem ggX4_append_X4_know : GoodIn wsX4_append wsX4_know := goodIn_r _ [22, 23, 24, 1, 29, 30, 31, 32, 33, 34, 35, 36, 37, 38, 39, 40, 41, 42, 43] (by decide +kernel) (by decide +kernel)
set_option maxRecDepth 20000 in
theorem gX4_append_X4_know : GoodIn wsX4_append (wsV RX4 59 RX4 yX4_know wsX4_know) := goodIn_app (goodIn_of _ (by decide +kernel)) ggX4_append_X4_know
set_option maxRecDepth 20000 in
theorem ggX4_append_X4_pour : GoodIn wsX4_append wsX4_pour := goodIn_r _ [28, 2, 1, 15, 16, 17, 6, 18, 8, 9, 10, 29, 30, 31, 32, 33, 34, 35, 36, 37, 38, 39, 40, 41, 42, 43] (by decide +kernel) (by decide +kernel)
set_option maxRecDepth 20000 in
theorem gX4_append_X4_pour : GoodIn wsX4_append (wsV RX4 72 RX4 yX4_pour wsX4_pour) := goodIn_app (goodIn_of _ (by decide +kernel)) ggX4_append_X4_pour
theorem dX4_append_0 : decode cX4_append 0 = .ok (.aload_n 0, 1) := by decide +kernel
theorem dX4_append_1 : decode cX4_append 1 = .ok (.iload_n 1, 1) := by decide +kernel
theorem dX4_append_2 : decode cX4_append 2 = .ok (.invokevirtual 43, 3) := by decide +kernel
theorem dX4_append_5 : decode cX4_append 5 = .ok (.ifCond .ne 5, 3) := by decide +kernel
theorem dX4_append_8 : decode cX4_append 8 = .ok (.iconst (-1), 1) := by decide +kernel
theorem dX4_append_9 : decode cX4_append 9 = .ok (.ireturn, 1) := by decide +kernel
theorem dX4_append_10 : decode cX4_append 10 = .ok (.aload_n 0, 1) := by decide +kernel
theorem dX4_append_11 : decode cX4_append 11 = .ok (.invokevirtual 68, 3) := by decide +kernel
theorem dX4_append_14 : decode cX4_append 14 = .ok (.bipush (-6), 2) := by decide +kernel
theorem dX4_append_16 : decode cX4_append 16 = .ok (.if_icmp .eq 6, 3) := by decide +kernel
theorem dX4_append_19 : decode cX4_append 19 = .ok (.bipush (-3), 2) := by decide +kernel
theorem dX4_append_21 : decode cX4_append 21 = .ok (.ireturn, 1) := by decide +kernel
theorem dX4_append_22 : decode cX4_append 22 = .ok (.aload_n 0, 1) := by decide +kernel
theorem dX4_append_23 : decode cX4_append 23 = .ok (.getfield 7, 3) := by decide +kernel
theorem dX4_append_26 : decode cX4_append 26 = .ok (.iconst 5, 1) := by decide +kernel
theorem dX4_append_27 : decode cX4_append 27 = .ok (.iload_n 1, 1) := by decide +kernel
theorem dX4_append_28 : decode cX4_append 28 = .ok (.iadd, 1) := by decide +kernel
theorem dX4_append_29 : decode cX4_append 29 = .ok (.iaload, 1) := by decide +kernel
theorem dX4_append_30 : decode cX4_append 30 = .ok (.aload_n 0, 1) := by decide +kernel
theorem dX4_append_31 : decode cX4_append 31 = .ok (.getfield 62, 3) := by decide +kernel
theorem dX4_append_34 : decode cX4_append 34 = .ok (.iadd, 1) := by decide +kernel
theorem dX4_append_35 : decode cX4_append 35 = .ok (.bipush 64, 2) := by decide +kernel
theorem dX4_append_37 : decode cX4_append 37 = .ok (.if_icmp .le 6, 3) := by decide +kernel
theorem dX4_append_40 : decode cX4_append 40 = .ok (.bipush (-4), 2) := by decide +kernel
theorem dX4_append_42 : decode cX4_append 42 = .ok (.ireturn, 1) := by decide +kernel
theorem dX4_append_43 : decode cX4_append 43 = .ok (.aload_n 0, 1) := by decide +kernel
theorem dX4_append_44 : decode cX4_append 44 = .ok (.invokevirtual 59, 3) := by decide +kernel
theorem dX4_append_47 : decode cX4_append 47 = .ok (.aload_n 0, 1) := by decide +kernel
theorem dX4_append_48 : decode cX4_append 48 = .ok (.iload_n 1, 1) := by decide +kernel
theorem dX4_append_49 : decode cX4_append 49 = .ok (.invokevirtual 72, 3) := by decide +kernel
theorem dX4_append_52 : decode cX4_append 52 = .ok (.aload_n 0, 1) := by decide +kernel
theorem dX4_append_53 : decode cX4_append 53 = .ok (.getfield 7, 3) := by decide +kernel
theorem dX4_append_56 : decode cX4_append 56 = .ok (.iconst 5, 1) := by decide +kernel
theorem dX4_append_57 : decode cX4_append 57 = .ok (.iload_n 1, 1) := by decide +kernel
theorem dX4_append_58 : decode cX4_append 58 = .ok (.iadd, 1) := by decide +kernel
theorem dX4_append_59 : decode cX4_append 59 = .ok (.iaload, 1) := by decide +kernel
theorem dX4_append_60 : decode cX4_append 60 = .ok (.ireturn, 1) := by decide +kernel
set_option maxRecDepth 20000 in
theorem ggX4_change_X4_isPlace : GoodIn wsX4_change wsX4_isPlace := goodIn_r _ [6, 1, 7, 8, 9, 5, 10, 11, 12, 13, 24, 25, 26, 27, 28, 29, 30, 31, 32, 33, 34, 35, 36, 37, 38] (by decide +kernel) (by decide +kernel)
set_option maxRecDepth 20000 in
theorem gX4_change_X4_isPlace : GoodIn wsX4_change (wsV RX4 76 RX4 yX4_isPlace wsX4_isPlace) := goodIn_app (goodIn_of _ (by decide +kernel)) ggX4_change_X4_isPlace
set_option maxRecDepth 20000 in
theorem ggX4_change_X4_in : GoodIn wsX4_change wsX4_in := goodIn_r _ [13] (by decide +kernel) (by decide +kernel)
set_option maxRecDepth 20000 in
theorem gX4_change_X4_in : GoodIn wsX4_change (va_wsS RX4 39 yX4_in wsX4_in) := goodIn_app (goodIn_of _ (by decide +kernel)) ggX4_change_X4_in
set_option maxRecDepth 20000 in
theorem ggX4_change_X4_know : GoodIn wsX4_change wsX4_know := goodIn_r _ [17, 18, 19, 1, 24, 25, 26, 27, 28, 29, 30, 31, 32, 33, 34, 35, 36, 37, 38] (by decide +kernel) (by decide +kernel)
set_option maxRecDepth 20000 in
theorem gX4_change_X4_know : GoodIn wsX4_change (wsV RX4 59 RX4 yX4_know wsX4_know) := goodIn_app (goodIn_of _ (by decide +kernel)) ggX4_change_X4_know
set_option maxRecDepth 20000 in
theorem ggX4_change_X4_at : GoodIn wsX4_change wsX4_at := goodIn_r _ [23, 1, 24, 25, 26, 27, 28, 29, 30, 31, 32, 33, 34, 35, 36, 37, 38] (by decide +kernel) (by decide +kernel)
set_option maxRecDepth 20000 in
theorem gX4_change_X4_at : GoodIn wsX4_change (wsV RX4 80 RX4 yX4_at wsX4_at) := goodIn_app (goodIn_of _ (by decide +kernel)) ggX4_change_X4_at
theorem dX4_change_0 : decode cX4_change 0 = .ok (.aload_n 0, 1) := by decide +kernel
theorem dX4_change_1 : decode cX4_change 1 = .ok (.iload_n 1, 1) := by decide +kernel
theorem dX4_change_2 : decode cX4_change 2 = .ok (.iload_n 2, 1) := by decide +kernel
theorem dX4_change_3 : decode cX4_change 3 = .ok (.invokevirtual 76, 3) := by decide +kernel
theorem dX4_change_6 : decode cX4_change 6 = .ok (.ifCond .ne 5, 3) := by decide +kernel
theorem dX4_change_9 : decode cX4_change 9 = .ok (.iconst (-1), 1) := by decide +kernel
theorem dX4_change_10 : decode cX4_change 10 = .ok (.ireturn, 1) := by decide +kernel
theorem dX4_change_11 : decode cX4_change 11 = .ok (.iload_n 3, 1) := by decide +kernel
theorem dX4_change_12 : decode cX4_change 12 = .ok (.iconst 0, 1) := by decide +kernel
theorem dX4_change_13 : decode cX4_change 13 = .ok (.bipush 26, 2) := by decide +kernel
theorem dX4_change_15 : decode cX4_change 15 = .ok (.invokestatic 39, 3) := by decide +kernel
theorem dX4_change_18 : decode cX4_change 18 = .ok (.ifCond .ne 6, 3) := by decide +kernel
theorem dX4_change_21 : decode cX4_change 21 = .ok (.bipush (-2), 2) := by decide +kernel
theorem dX4_change_23 : decode cX4_change 23 = .ok (.ireturn, 1) := by decide +kernel
theorem dX4_change_24 : decode cX4_change 24 = .ok (.aload_n 0, 1) := by decide +kernel
theorem dX4_change_25 : decode cX4_change 25 = .ok (.invokevirtual 59, 3) := by decide +kernel
theorem dX4_change_28 : decode cX4_change 28 = .ok (.aload_n 0, 1) := by decide +kernel
theorem dX4_change_29 : decode cX4_change 29 = .ok (.iload_n 1, 1) := by decide +kernel
theorem dX4_change_30 : decode cX4_change 30 = .ok (.iload_n 2, 1) := by decide +kernel
theorem dX4_change_31 : decode cX4_change 31 = .ok (.invokevirtual 80, 3) := by decide +kernel
theorem dX4_change_34 : decode cX4_change 34 = .ok (.istore 4, 2) := by decide +kernel
theorem dX4_change_36 : decode cX4_change 36 = .ok (.aload_n 0, 1) := by decide +kernel
theorem dX4_change_37 : decode cX4_change 37 = .ok (.getfield 7, 3) := by decide +kernel
theorem dX4_change_40 : decode cX4_change 40 = .ok (.bipush 15, 2) := by decide +kernel
theorem dX4_change_42 : decode cX4_change 42 = .ok (.bipush 64, 2) := by decide +kernel
theorem dX4_change_44 : decode cX4_change 44 = .ok (.iload_n 1, 1) := by decide +kernel
theorem dX4_change_45 : decode cX4_change 45 = .ok (.imul, 1) := by decide +kernel
theorem dX4_change_46 : decode cX4_change 46 = .ok (.iadd, 1) := by decide +kernel
theorem dX4_change_47 : decode cX4_change 47 = .ok (.iload_n 2, 1) := by decide +kernel
theorem dX4_change_48 : decode cX4_change 48 = .ok (.iadd, 1) := by decide +kernel
theorem dX4_change_49 : decode cX4_change 49 = .ok (.iload_n 3, 1) := by decide +kernel
theorem dX4_change_50 : decode cX4_change 50 = .ok (.iastore, 1) := by decide +kernel
theorem dX4_change_51 : decode cX4_change 51 = .ok (.iload 4, 2) := by decide +kernel
theorem dX4_change_53 : decode cX4_change 53 = .ok (.ireturn, 1) := by decide +kernel
set_option maxRecDepth 20000 in
theorem ggX4_remove_X4_isRow : GoodIn wsX4_remove wsX4_isRow := goodIn_r _ [6, 1, 7, 8, 5, 9, 16, 17, 18, 19, 20, 21, 22, 23, 24, 25, 26, 27, 28, 29, 30] (by decide +kernel) (by decide +kernel)
set_option maxRecDepth 20000 in
theorem gX4_remove_X4_isRow : GoodIn wsX4_remove (wsV RX4 43 RX4 yX4_isRow wsX4_isRow) := goodIn_app (goodIn_of _ (by decide +kernel)) ggX4_remove_X4_isRow
set_option maxRecDepth 20000 in
theorem ggX4_remove_X4_know : GoodIn wsX4_remove wsX4_know := goodIn_r _ [13, 14, 15, 1, 16, 17, 18, 19, 20, 21, 22, 23, 24, 25, 26, 27, 28, 29, 30] (by decide +kernel) (by decide +kernel)
set_option maxRecDepth 20000 in
theorem gX4_remove_X4_know : GoodIn wsX4_remove (wsV RX4 59 RX4 yX4_know wsX4_know) := goodIn_app (goodIn_of _ (by decide +kernel)) ggX4_remove_X4_know
theorem dX4_remove_0 : decode cX4_remove 0 = .ok (.aload_n 0, 1) := by decide +kernel
theorem dX4_remove_1 : decode cX4_remove 1 = .ok (.iload_n 1, 1) := by decide +kernel
theorem dX4_remove_2 : decode cX4_remove 2 = .ok (.invokevirtual 43, 3) := by decide +kernel
theorem dX4_remove_5 : decode cX4_remove 5 = .ok (.ifCond .ne 5, 3) := by decide +kernel
theorem dX4_remove_8 : decode cX4_remove 8 = .ok (.iconst (-1), 1) := by decide +kernel
theorem dX4_remove_9 : decode cX4_remove 9 = .ok (.ireturn, 1) := by decide +kernel
theorem dX4_remove_10 : decode cX4_remove 10 = .ok (.aload_n 0, 1) := by decide +kernel
theorem dX4_remove_11 : decode cX4_remove 11 = .ok (.invokevirtual 59, 3) := by decide +kernel
theorem dX4_remove_14 : decode cX4_remove 14 = .ok (.iload_n 1, 1) := by decide +kernel
theorem dX4_remove_15 : decode cX4_remove 15 = .ok (.istore_n 2, 1) := by decide +kernel
theorem dX4_remove_16 : decode cX4_remove 16 = .ok (.iload_n 2, 1) := by decide +kernel
theorem dX4_remove_17 : decode cX4_remove 17 = .ok (.iconst 1, 1) := by decide +kernel
theorem dX4_remove_18 : decode cX4_remove 18 = .ok (.iadd, 1) := by decide +kernel
theorem dX4_remove_19 : decode cX4_remove 19 = .ok (.aload_n 0, 1) := by decide +kernel
theorem dX4_remove_20 : decode cX4_remove 20 = .ok (.getfield 7, 3) := by decide +kernel
theorem dX4_remove_23 : decode cX4_remove 23 = .ok (.iconst 4, 1) := by decide +kernel
theorem dX4_remove_24 : decode cX4_remove 24 = .ok (.iaload, 1) := by decide +kernel
theorem dX4_remove_25 : decode cX4_remove 25 = .ok (.if_icmp .ge 71, 3) := by decide +kernel
theorem dX4_remove_28 : decode cX4_remove 28 = .ok (.aload_n 0, 1) := by decide +kernel
theorem dX4_remove_29 : decode cX4_remove 29 = .ok (.getfield 7, 3) := by decide +kernel
theorem dX4_remove_32 : decode cX4_remove 32 = .ok (.iconst 5, 1) := by decide +kernel
theorem dX4_remove_33 : decode cX4_remove 33 = .ok (.iload_n 2, 1) := by decide +kernel
theorem dX4_remove_34 : decode cX4_remove 34 = .ok (.iadd, 1) := by decide +kernel
theorem dX4_remove_35 : decode cX4_remove 35 = .ok (.aload_n 0, 1) := by decide +kernel
theorem dX4_remove_36 : decode cX4_remove 36 = .ok (.getfield 7, 3) := by decide +kernel
theorem dX4_remove_39 : decode cX4_remove 39 = .ok (.iconst 5, 1) := by decide +kernel
theorem dX4_remove_40 : decode cX4_remove 40 = .ok (.iload_n 2, 1) := by decide +kernel
theorem dX4_remove_41 : decode cX4_remove 41 = .ok (.iadd, 1) := by decide +kernel
theorem dX4_remove_42 : decode cX4_remove 42 = .ok (.iconst 1, 1) := by decide +kernel
theorem dX4_remove_43 : decode cX4_remove 43 = .ok (.iadd, 1) := by decide +kernel
theorem dX4_remove_44 : decode cX4_remove 44 = .ok (.iaload, 1) := by decide +kernel
theorem dX4_remove_45 : decode cX4_remove 45 = .ok (.iastore, 1) := by decide +kernel
theorem dX4_remove_46 : decode cX4_remove 46 = .ok (.iconst 0, 1) := by decide +kernel
theorem dX4_remove_47 : decode cX4_remove 47 = .ok (.istore_n 3, 1) := by decide +kernel
theorem dX4_remove_48 : decode cX4_remove 48 = .ok (.iload_n 3, 1) := by decide +kernel
theorem dX4_remove_49 : decode cX4_remove 49 = .ok (.bipush 64, 2) := by decide +kernel
theorem dX4_remove_51 : decode cX4_remove 51 = .ok (.if_icmp .ge 39, 3) := by decide +kernel
theorem dX4_remove_54 : decode cX4_remove 54 = .ok (.aload_n 0, 1) := by decide +kernel
theorem dX4_remove_55 : decode cX4_remove 55 = .ok (.getfield 7, 3) := by decide +kernel
theorem dX4_remove_58 : decode cX4_remove 58 = .ok (.bipush 15, 2) := by decide +kernel
theorem dX4_remove_60 : decode cX4_remove 60 = .ok (.bipush 64, 2) := by decide +kernel
theorem dX4_remove_62 : decode cX4_remove 62 = .ok (.iload_n 2, 1) := by decide +kernel
theorem dX4_remove_63 : decode cX4_remove 63 = .ok (.imul, 1) := by decide +kernel
theorem dX4_remove_64 : decode cX4_remove 64 = .ok (.iadd, 1) := by decide +kernel
theorem dX4_remove_65 : decode cX4_remove 65 = .ok (.iload_n 3, 1) := by decide +kernel
theorem dX4_remove_66 : decode cX4_remove 66 = .ok (.iadd, 1) := by decide +kernel
theorem dX4_remove_67 : decode cX4_remove 67 = .ok (.aload_n 0, 1) := by decide +kernel
theorem dX4_remove_68 : decode cX4_remove 68 = .ok (.getfield 7, 3) := by decide +kernel
theorem dX4_remove_71 : decode cX4_remove 71 = .ok (.bipush 15, 2) := by decide +kernel
theorem dX4_remove_73 : decode cX4_remove 73 = .ok (.bipush 64, 2) := by decide +kernel
theorem dX4_remove_75 : decode cX4_remove 75 = .ok (.iload_n 2, 1) := by decide +kernel
theorem dX4_remove_76 : decode cX4_remove 76 = .ok (.iconst 1, 1) := by decide +kernel
theorem dX4_remove_77 : decode cX4_remove 77 = .ok (.iadd, 1) := by decide +kernel
theorem dX4_remove_78 : decode cX4_remove 78 = .ok (.imul, 1) := by decide +kernel
theorem dX4_remove_79 : decode cX4_remove 79 = .ok (.iadd, 1) := by decide +kernel
theorem dX4_remove_80 : decode cX4_remove 80 = .ok (.iload_n 3, 1) := by decide +kernel
theorem dX4_remove_81 : decode cX4_remove 81 = .ok (.iadd, 1) := by decide +kernel
theorem dX4_remove_82 : decode cX4_remove 82 = .ok (.iaload, 1) := by decide +kernel
theorem dX4_remove_83 : decode cX4_remove 83 = .ok (.iastore, 1) := by decide +kernel
theorem dX4_remove_84 : decode cX4_remove 84 = .ok (.iinc 3 1, 3) := by decide +kernel
theorem dX4_remove_87 : decode cX4_remove 87 = .ok (.goto (-39), 3) := by decide +kernel
theorem dX4_remove_90 : decode cX4_remove 90 = .ok (.iinc 2 1, 3) := by decide +kernel
theorem dX4_remove_93 : decode cX4_remove 93 = .ok (.goto (-77), 3) := by decide +kernel
theorem dX4_remove_96 : decode cX4_remove 96 = .ok (.aload_n 0, 1) := by decide +kernel
theorem dX4_remove_97 : decode cX4_remove 97 = .ok (.getfield 7, 3) := by decide +kernel
theorem dX4_remove_100 : decode cX4_remove 100 = .ok (.iconst 4, 1) := by decide +kernel
theorem dX4_remove_101 : decode cX4_remove 101 = .ok (.dup2, 1) := by decide +kernel
theorem dX4_remove_102 : decode cX4_remove 102 = .ok (.iaload, 1) := by decide +kernel
theorem dX4_remove_103 : decode cX4_remove 103 = .ok (.iconst 1, 1) := by decide +kernel
theorem dX4_remove_104 : decode cX4_remove 104 = .ok (.isub, 1) := by decide +kernel
theorem dX4_remove_105 : decode cX4_remove 105 = .ok (.iastore, 1) := by decide +kernel
theorem dX4_remove_106 : decode cX4_remove 106 = .ok (.aload_n 0, 1) := by decide +kernel
theorem dX4_remove_107 : decode cX4_remove 107 = .ok (.getfield 7, 3) := by decide +kernel
theorem dX4_remove_110 : decode cX4_remove 110 = .ok (.iconst 4, 1) := by decide +kernel
theorem dX4_remove_111 : decode cX4_remove 111 = .ok (.iaload, 1) := by decide +kernel
theorem dX4_remove_112 : decode cX4_remove 112 = .ok (.ireturn, 1) := by decide +kernel
set_option maxRecDepth 20000 in
theorem ggX4_codeAt_X4_at : GoodIn wsX4_codeAt wsX4_at := goodIn_r _ [6, 1, 7, 8, 9, 10, 11, 12, 13, 14, 15, 16, 17, 18, 19, 20, 21] (by decide +kernel) (by decide +kernel)
set_option maxRecDepth 20000 in
theorem gX4_codeAt_X4_at : GoodIn wsX4_codeAt (wsV RX4 80 RX4 yX4_at wsX4_at) := goodIn_app (goodIn_of _ (by decide +kernel)) ggX4_codeAt_X4_at
theorem dX4_codeAt_0 : decode cX4_codeAt 0 = .ok (.iconst 0, 1) := by decide +kernel
theorem dX4_codeAt_1 : decode cX4_codeAt 1 = .ok (.istore_n 3, 1) := by decide +kernel
theorem dX4_codeAt_2 : decode cX4_codeAt 2 = .ok (.iconst 0, 1) := by decide +kernel
theorem dX4_codeAt_3 : decode cX4_codeAt 3 = .ok (.istore 4, 2) := by decide +kernel
theorem dX4_codeAt_5 : decode cX4_codeAt 5 = .ok (.iload 4, 2) := by decide +kernel
theorem dX4_codeAt_7 : decode cX4_codeAt 7 = .ok (.aload_n 0, 1) := by decide +kernel
theorem dX4_codeAt_8 : decode cX4_codeAt 8 = .ok (.getfield 7, 3) := by decide +kernel
theorem dX4_codeAt_11 : decode cX4_codeAt 11 = .ok (.iconst 0, 1) := by decide +kernel
theorem dX4_codeAt_12 : decode cX4_codeAt 12 = .ok (.iaload, 1) := by decide +kernel
theorem dX4_codeAt_13 : decode cX4_codeAt 13 = .ok (.if_icmp .ge 24, 3) := by decide +kernel
theorem dX4_codeAt_16 : decode cX4_codeAt 16 = .ok (.bipush 27, 2) := by decide +kernel
theorem dX4_codeAt_18 : decode cX4_codeAt 18 = .ok (.iload_n 3, 1) := by decide +kernel
theorem dX4_codeAt_19 : decode cX4_codeAt 19 = .ok (.imul, 1) := by decide +kernel
theorem dX4_codeAt_20 : decode cX4_codeAt 20 = .ok (.aload_n 0, 1) := by decide +kernel
theorem dX4_codeAt_21 : decode cX4_codeAt 21 = .ok (.iload_n 1, 1) := by decide +kernel
theorem dX4_codeAt_22 : decode cX4_codeAt 22 = .ok (.iload_n 2, 1) := by decide +kernel
theorem dX4_codeAt_23 : decode cX4_codeAt 23 = .ok (.iload 4, 2) := by decide +kernel
theorem dX4_codeAt_25 : decode cX4_codeAt 25 = .ok (.iadd, 1) := by decide +kernel
theorem dX4_codeAt_26 : decode cX4_codeAt 26 = .ok (.invokevirtual 80, 3) := by decide +kernel
theorem dX4_codeAt_29 : decode cX4_codeAt 29 = .ok (.iadd, 1) := by decide +kernel
theorem dX4_codeAt_30 : decode cX4_codeAt 30 = .ok (.istore_n 3, 1) := by decide +kernel
theorem dX4_codeAt_31 : decode cX4_codeAt 31 = .ok (.iinc 4 1, 3) := by decide +kernel
theorem dX4_codeAt_34 : decode cX4_codeAt 34 = .ok (.goto (-29), 3) := by decide +kernel
theorem dX4_codeAt_37 : decode cX4_codeAt 37 = .ok (.iload_n 3, 1) := by decide +kernel
theorem dX4_codeAt_38 : decode cX4_codeAt 38 = .ok (.ireturn, 1) := by decide +kernel
theorem dX4_valueOf_0 : decode cX4_valueOf 0 = .ok (.iload_n 1, 1) := by decide +kernel
theorem dX4_valueOf_1 : decode cX4_valueOf 1 = .ok (.i2l, 1) := by decide +kernel
theorem dX4_valueOf_2 : decode cX4_valueOf 2 = .ok (.aload_n 0, 1) := by decide +kernel
theorem dX4_valueOf_3 : decode cX4_valueOf 3 = .ok (.getfield 7, 3) := by decide +kernel
theorem dX4_valueOf_6 : decode cX4_valueOf 6 = .ok (.iconst 2, 1) := by decide +kernel
theorem dX4_valueOf_7 : decode cX4_valueOf 7 = .ok (.iaload, 1) := by decide +kernel
theorem dX4_valueOf_8 : decode cX4_valueOf 8 = .ok (.i2l, 1) := by decide +kernel
theorem dX4_valueOf_9 : decode cX4_valueOf 9 = .ok (.lmul, 1) := by decide +kernel
theorem dX4_valueOf_10 : decode cX4_valueOf 10 = .ok (.aload_n 0, 1) := by decide +kernel
theorem dX4_valueOf_11 : decode cX4_valueOf 11 = .ok (.getfield 7, 3) := by decide +kernel
theorem dX4_valueOf_14 : decode cX4_valueOf 14 = .ok (.iconst 3, 1) := by decide +kernel
theorem dX4_valueOf_15 : decode cX4_valueOf 15 = .ok (.iaload, 1) := by decide +kernel
theorem dX4_valueOf_16 : decode cX4_valueOf 16 = .ok (.i2l, 1) := by decide +kernel
theorem dX4_valueOf_17 : decode cX4_valueOf 17 = .ok (.ladd, 1) := by decide +kernel
theorem dX4_valueOf_18 : decode cX4_valueOf 18 = .ok (.ldc2_w 84, 3) := by decide +kernel
theorem dX4_valueOf_21 : decode cX4_valueOf 21 = .ok (.lrem, 1) := by decide +kernel
theorem dX4_valueOf_22 : decode cX4_valueOf 22 = .ok (.l2i, 1) := by decide +kernel
theorem dX4_valueOf_23 : decode cX4_valueOf 23 = .ok (.ireturn, 1) := by decide +kernel
set_option maxRecDepth 20000 in
theorem ggX4_note_X4_valueOf : GoodIn wsX4_note wsX4_valueOf := goodIn_r _ [9, 10, 11, 12, 13, 14, 15, 16, 17, 18, 19, 20, 21, 22, 23, 24, 25, 26] (by decide +kernel) (by decide +kernel)
set_option maxRecDepth 20000 in
theorem gX4_note_X4_valueOf : GoodIn wsX4_note (wsV RX4 86 RX4 yX4_valueOf wsX4_valueOf) := goodIn_app (goodIn_of _ (by decide +kernel)) ggX4_note_X4_valueOf
theorem dX4_note_0 : decode cX4_note 0 = .ok (.aload_n 0, 1) := by decide +kernel
theorem dX4_note_1 : decode cX4_note 1 = .ok (.iload_n 2, 1) := by decide +kernel
theorem dX4_note_2 : decode cX4_note 2 = .ok (.invokevirtual 86, 3) := by decide +kernel
theorem dX4_note_5 : decode cX4_note 5 = .ok (.istore_n 3, 1) := by decide +kernel
theorem dX4_note_6 : decode cX4_note 6 = .ok (.bipush 64, 2) := by decide +kernel
theorem dX4_note_8 : decode cX4_note 8 = .ok (.iload_n 1, 1) := by decide +kernel
theorem dX4_note_9 : decode cX4_note 9 = .ok (.imul, 1) := by decide +kernel
theorem dX4_note_10 : decode cX4_note 10 = .ok (.istore 4, 2) := by decide +kernel
theorem dX4_note_12 : decode cX4_note 12 = .ok (.iload 4, 2) := by decide +kernel
theorem dX4_note_14 : decode cX4_note 14 = .ok (.istore 5, 2) := by decide +kernel
theorem dX4_note_16 : decode cX4_note 16 = .ok (.iload 5, 2) := by decide +kernel
theorem dX4_note_18 : decode cX4_note 18 = .ok (.iload 4, 2) := by decide +kernel
theorem dX4_note_20 : decode cX4_note 20 = .ok (.aload_n 0, 1) := by decide +kernel
theorem dX4_note_21 : decode cX4_note 21 = .ok (.getfield 35, 3) := by decide +kernel
theorem dX4_note_24 : decode cX4_note 24 = .ok (.iload_n 1, 1) := by decide +kernel
theorem dX4_note_25 : decode cX4_note 25 = .ok (.iaload, 1) := by decide +kernel
theorem dX4_note_26 : decode cX4_note 26 = .ok (.iadd, 1) := by decide +kernel
theorem dX4_note_27 : decode cX4_note 27 = .ok (.if_icmp .ge 20, 3) := by decide +kernel
theorem dX4_note_30 : decode cX4_note 30 = .ok (.aload_n 0, 1) := by decide +kernel
theorem dX4_note_31 : decode cX4_note 31 = .ok (.getfield 29, 3) := by decide +kernel
theorem dX4_note_34 : decode cX4_note 34 = .ok (.iload 5, 2) := by decide +kernel
theorem dX4_note_36 : decode cX4_note 36 = .ok (.iaload, 1) := by decide +kernel
theorem dX4_note_37 : decode cX4_note 37 = .ok (.iload_n 3, 1) := by decide +kernel
theorem dX4_note_38 : decode cX4_note 38 = .ok (.if_icmp .ge 9, 3) := by decide +kernel
theorem dX4_note_41 : decode cX4_note 41 = .ok (.iinc 5 1, 3) := by decide +kernel
theorem dX4_note_44 : decode cX4_note 44 = .ok (.goto (-28), 3) := by decide +kernel
theorem dX4_note_47 : decode cX4_note 47 = .ok (.iload 5, 2) := by decide +kernel
theorem dX4_note_49 : decode cX4_note 49 = .ok (.iload 4, 2) := by decide +kernel
theorem dX4_note_51 : decode cX4_note 51 = .ok (.aload_n 0, 1) := by decide +kernel
theorem dX4_note_52 : decode cX4_note 52 = .ok (.getfield 35, 3) := by decide +kernel
theorem dX4_note_55 : decode cX4_note 55 = .ok (.iload_n 1, 1) := by decide +kernel
theorem dX4_note_56 : decode cX4_note 56 = .ok (.iaload, 1) := by decide +kernel
theorem dX4_note_57 : decode cX4_note 57 = .ok (.iadd, 1) := by decide +kernel
theorem dX4_note_58 : decode cX4_note 58 = .ok (.if_icmp .ge 26, 3) := by decide +kernel
theorem dX4_note_61 : decode cX4_note 61 = .ok (.aload_n 0, 1) := by decide +kernel
theorem dX4_note_62 : decode cX4_note 62 = .ok (.getfield 29, 3) := by decide +kernel
theorem dX4_note_65 : decode cX4_note 65 = .ok (.iload 5, 2) := by decide +kernel
theorem dX4_note_67 : decode cX4_note 67 = .ok (.iaload, 1) := by decide +kernel
theorem dX4_note_68 : decode cX4_note 68 = .ok (.iload_n 3, 1) := by decide +kernel
theorem dX4_note_69 : decode cX4_note 69 = .ok (.if_icmp .ne 15, 3) := by decide +kernel
theorem dX4_note_72 : decode cX4_note 72 = .ok (.aload_n 0, 1) := by decide +kernel
theorem dX4_note_73 : decode cX4_note 73 = .ok (.getfield 32, 3) := by decide +kernel
theorem dX4_note_76 : decode cX4_note 76 = .ok (.iload 5, 2) := by decide +kernel
theorem dX4_note_78 : decode cX4_note 78 = .ok (.dup2, 1) := by decide +kernel
theorem dX4_note_79 : decode cX4_note 79 = .ok (.iaload, 1) := by decide +kernel
theorem dX4_note_80 : decode cX4_note 80 = .ok (.iconst 1, 1) := by decide +kernel
theorem dX4_note_81 : decode cX4_note 81 = .ok (.iadd, 1) := by decide +kernel
theorem dX4_note_82 : decode cX4_note 82 = .ok (.iastore, 1) := by decide +kernel
theorem dX4_note_83 : decode cX4_note 83 = .ok (.return_, 1) := by decide +kernel
theorem dX4_note_84 : decode cX4_note 84 = .ok (.iload 4, 2) := by decide +kernel
theorem dX4_note_86 : decode cX4_note 86 = .ok (.aload_n 0, 1) := by decide +kernel
theorem dX4_note_87 : decode cX4_note 87 = .ok (.getfield 35, 3) := by decide +kernel
theorem dX4_note_90 : decode cX4_note 90 = .ok (.iload_n 1, 1) := by decide +kernel
theorem dX4_note_91 : decode cX4_note 91 = .ok (.iaload, 1) := by decide +kernel
theorem dX4_note_92 : decode cX4_note 92 = .ok (.iadd, 1) := by decide +kernel
theorem dX4_note_93 : decode cX4_note 93 = .ok (.istore 6, 2) := by decide +kernel
theorem dX4_note_95 : decode cX4_note 95 = .ok (.iload 6, 2) := by decide +kernel
theorem dX4_note_97 : decode cX4_note 97 = .ok (.iload 5, 2) := by decide +kernel
theorem dX4_note_99 : decode cX4_note 99 = .ok (.if_icmp .le 57, 3) := by decide +kernel
theorem dX4_note_102 : decode cX4_note 102 = .ok (.aload_n 0, 1) := by decide +kernel
theorem dX4_note_103 : decode cX4_note 103 = .ok (.getfield 26, 3) := by decide +kernel
theorem dX4_note_106 : decode cX4_note 106 = .ok (.iload 6, 2) := by decide +kernel
theorem dX4_note_108 : decode cX4_note 108 = .ok (.aload_n 0, 1) := by decide +kernel
theorem dX4_note_109 : decode cX4_note 109 = .ok (.getfield 26, 3) := by decide +kernel
theorem dX4_note_112 : decode cX4_note 112 = .ok (.iload 6, 2) := by decide +kernel
theorem dX4_note_114 : decode cX4_note 114 = .ok (.iconst 1, 1) := by decide +kernel
theorem dX4_note_115 : decode cX4_note 115 = .ok (.isub, 1) := by decide +kernel
theorem dX4_note_116 : decode cX4_note 116 = .ok (.iaload, 1) := by decide +kernel
theorem dX4_note_117 : decode cX4_note 117 = .ok (.iastore, 1) := by decide +kernel
theorem dX4_note_118 : decode cX4_note 118 = .ok (.aload_n 0, 1) := by decide +kernel
theorem dX4_note_119 : decode cX4_note 119 = .ok (.getfield 29, 3) := by decide +kernel
theorem dX4_note_122 : decode cX4_note 122 = .ok (.iload 6, 2) := by decide +kernel
theorem dX4_note_124 : decode cX4_note 124 = .ok (.aload_n 0, 1) := by decide +kernel
theorem dX4_note_125 : decode cX4_note 125 = .ok (.getfield 29, 3) := by decide +kernel
theorem dX4_note_128 : decode cX4_note 128 = .ok (.iload 6, 2) := by decide +kernel
theorem dX4_note_130 : decode cX4_note 130 = .ok (.iconst 1, 1) := by decide +kernel
theorem dX4_note_131 : decode cX4_note 131 = .ok (.isub, 1) := by decide +kernel
theorem dX4_note_132 : decode cX4_note 132 = .ok (.iaload, 1) := by decide +kernel
theorem dX4_note_133 : decode cX4_note 133 = .ok (.iastore, 1) := by decide +kernel
theorem dX4_note_134 : decode cX4_note 134 = .ok (.aload_n 0, 1) := by decide +kernel
theorem dX4_note_135 : decode cX4_note 135 = .ok (.getfield 32, 3) := by decide +kernel
theorem dX4_note_138 : decode cX4_note 138 = .ok (.iload 6, 2) := by decide +kernel
theorem dX4_note_140 : decode cX4_note 140 = .ok (.aload_n 0, 1) := by decide +kernel
theorem dX4_note_141 : decode cX4_note 141 = .ok (.getfield 32, 3) := by decide +kernel
theorem dX4_note_144 : decode cX4_note 144 = .ok (.iload 6, 2) := by decide +kernel
theorem dX4_note_146 : decode cX4_note 146 = .ok (.iconst 1, 1) := by decide +kernel
theorem dX4_note_147 : decode cX4_note 147 = .ok (.isub, 1) := by decide +kernel
theorem dX4_note_148 : decode cX4_note 148 = .ok (.iaload, 1) := by decide +kernel
theorem dX4_note_149 : decode cX4_note 149 = .ok (.iastore, 1) := by decide +kernel
theorem dX4_note_150 : decode cX4_note 150 = .ok (.iinc 6 (-1), 3) := by decide +kernel
theorem dX4_note_153 : decode cX4_note 153 = .ok (.goto (-58), 3) := by decide +kernel
theorem dX4_note_156 : decode cX4_note 156 = .ok (.aload_n 0, 1) := by decide +kernel
theorem dX4_note_157 : decode cX4_note 157 = .ok (.getfield 26, 3) := by decide +kernel
theorem dX4_note_160 : decode cX4_note 160 = .ok (.iload 5, 2) := by decide +kernel
theorem dX4_note_162 : decode cX4_note 162 = .ok (.iload_n 2, 1) := by decide +kernel
theorem dX4_note_163 : decode cX4_note 163 = .ok (.iastore, 1) := by decide +kernel
theorem dX4_note_164 : decode cX4_note 164 = .ok (.aload_n 0, 1) := by decide +kernel
theorem dX4_note_165 : decode cX4_note 165 = .ok (.getfield 29, 3) := by decide +kernel
theorem dX4_note_168 : decode cX4_note 168 = .ok (.iload 5, 2) := by decide +kernel
theorem dX4_note_170 : decode cX4_note 170 = .ok (.iload_n 3, 1) := by decide +kernel
theorem dX4_note_171 : decode cX4_note 171 = .ok (.iastore, 1) := by decide +kernel
theorem dX4_note_172 : decode cX4_note 172 = .ok (.aload_n 0, 1) := by decide +kernel
theorem dX4_note_173 : decode cX4_note 173 = .ok (.getfield 32, 3) := by decide +kernel
theorem dX4_note_176 : decode cX4_note 176 = .ok (.iload 5, 2) := by decide +kernel
theorem dX4_note_178 : decode cX4_note 178 = .ok (.iconst 1, 1) := by decide +kernel
theorem dX4_note_179 : decode cX4_note 179 = .ok (.iastore, 1) := by decide +kernel
theorem dX4_note_180 : decode cX4_note 180 = .ok (.aload_n 0, 1) := by decide +kernel
theorem dX4_note_181 : decode cX4_note 181 = .ok (.getfield 35, 3) := by decide +kernel
theorem dX4_note_184 : decode cX4_note 184 = .ok (.iload_n 1, 1) := by decide +kernel
theorem dX4_note_185 : decode cX4_note 185 = .ok (.dup2, 1) := by decide +kernel
theorem dX4_note_186 : decode cX4_note 186 = .ok (.iaload, 1) := by decide +kernel
theorem dX4_note_187 : decode cX4_note 187 = .ok (.iconst 1, 1) := by decide +kernel
theorem dX4_note_188 : decode cX4_note 188 = .ok (.iadd, 1) := by decide +kernel
theorem dX4_note_189 : decode cX4_note 189 = .ok (.iastore, 1) := by decide +kernel
theorem dX4_note_190 : decode cX4_note 190 = .ok (.return_, 1) := by decide +kernel
set_option maxRecDepth 20000 in
theorem ggX4_find_X4_codeAt : GoodIn wsX4_find wsX4_codeAt := goodIn_r _ [7, 2, 8, 9, 10, 6, 11, 24, 25, 26, 27, 28, 29, 30, 31, 32, 33, 34, 35, 36, 37, 38] (by decide +kernel) (by decide +kernel)
set_option maxRecDepth 20000 in
theorem gX4_find_X4_codeAt : GoodIn wsX4_find (wsV RX4 89 RX4 yX4_codeAt wsX4_codeAt) := goodIn_app (goodIn_of _ (by decide +kernel)) ggX4_find_X4_codeAt
set_option maxRecDepth 20000 in
theorem ggX4_find_X4_note : GoodIn wsX4_find wsX4_note := goodIn_r _ [15, 1, 16, 17, 18, 19, 20, 21, 6, 22, 2, 23, 24, 25, 26, 27, 28, 29, 30, 31, 32, 33, 34, 35, 36, 37, 38] (by decide +kernel) (by decide +kernel)
set_option maxRecDepth 20000 in
theorem gX4_find_X4_note : GoodIn wsX4_find (wsV RX4 92 RX4 yX4_note wsX4_note) := goodIn_app (goodIn_of _ (by decide +kernel)) ggX4_find_X4_note
theorem dX4_find_0 : decode cX4_find 0 = .ok (.aload_n 0, 1) := by decide +kernel
theorem dX4_find_1 : decode cX4_find 1 = .ok (.getfield 35, 3) := by decide +kernel
theorem dX4_find_4 : decode cX4_find 4 = .ok (.iload_n 1, 1) := by decide +kernel
theorem dX4_find_5 : decode cX4_find 5 = .ok (.iconst 0, 1) := by decide +kernel
theorem dX4_find_6 : decode cX4_find 6 = .ok (.iastore, 1) := by decide +kernel
theorem dX4_find_7 : decode cX4_find 7 = .ok (.iconst 0, 1) := by decide +kernel
theorem dX4_find_8 : decode cX4_find 8 = .ok (.istore_n 3, 1) := by decide +kernel
theorem dX4_find_9 : decode cX4_find 9 = .ok (.iload_n 3, 1) := by decide +kernel
theorem dX4_find_10 : decode cX4_find 10 = .ok (.aload_n 0, 1) := by decide +kernel
theorem dX4_find_11 : decode cX4_find 11 = .ok (.getfield 7, 3) := by decide +kernel
theorem dX4_find_14 : decode cX4_find 14 = .ok (.iconst 0, 1) := by decide +kernel
theorem dX4_find_15 : decode cX4_find 15 = .ok (.iaload, 1) := by decide +kernel
theorem dX4_find_16 : decode cX4_find 16 = .ok (.iadd, 1) := by decide +kernel
theorem dX4_find_17 : decode cX4_find 17 = .ok (.aload_n 0, 1) := by decide +kernel
theorem dX4_find_18 : decode cX4_find 18 = .ok (.getfield 7, 3) := by decide +kernel
theorem dX4_find_21 : decode cX4_find 21 = .ok (.iconst 5, 1) := by decide +kernel
theorem dX4_find_22 : decode cX4_find 22 = .ok (.iload_n 2, 1) := by decide +kernel
theorem dX4_find_23 : decode cX4_find 23 = .ok (.iadd, 1) := by decide +kernel
theorem dX4_find_24 : decode cX4_find 24 = .ok (.iaload, 1) := by decide +kernel
theorem dX4_find_25 : decode cX4_find 25 = .ok (.if_icmp .gt 20, 3) := by decide +kernel
theorem dX4_find_28 : decode cX4_find 28 = .ok (.aload_n 0, 1) := by decide +kernel
theorem dX4_find_29 : decode cX4_find 29 = .ok (.iload_n 1, 1) := by decide +kernel
theorem dX4_find_30 : decode cX4_find 30 = .ok (.aload_n 0, 1) := by decide +kernel
theorem dX4_find_31 : decode cX4_find 31 = .ok (.iload_n 2, 1) := by decide +kernel
theorem dX4_find_32 : decode cX4_find 32 = .ok (.iload_n 3, 1) := by decide +kernel
theorem dX4_find_33 : decode cX4_find 33 = .ok (.invokevirtual 89, 3) := by decide +kernel
theorem dX4_find_36 : decode cX4_find 36 = .ok (.invokevirtual 92, 3) := by decide +kernel
theorem dX4_find_39 : decode cX4_find 39 = .ok (.iinc 3 1, 3) := by decide +kernel
theorem dX4_find_42 : decode cX4_find 42 = .ok (.goto (-33), 3) := by decide +kernel
theorem dX4_find_45 : decode cX4_find 45 = .ok (.return_, 1) := by decide +kernel
set_option maxRecDepth 20000 in
theorem ggX4_compare_X4_find : GoodIn wsX4_compare wsX4_find := goodIn_r _ [11, 3, 12, 13, 14, 15, 10, 16, 17, 18, 19, 20, 21, 22, 23, 24, 4, 25, 26, 27, 28, 29, 30, 31, 32, 33, 34, 35, 36, 37, 38, 39, 40, 41, 42, 43, 44, 45, 46] (by decide +kernel) (by decide +kernel)
set_option maxRecDepth 20000 in
theorem gX4_compare_X4_find : GoodIn wsX4_compare (wsV RX4 96 RX4 yX4_find wsX4_find) := goodIn_app (goodIn_of _ (by decide +kernel)) ggX4_compare_X4_find
theorem dX4_compare_0 : decode cX4_compare 0 = .ok (.aload_n 0, 1) := by decide +kernel
theorem dX4_compare_1 : decode cX4_compare 1 = .ok (.iconst 0, 1) := by decide +kernel
theorem dX4_compare_2 : decode cX4_compare 2 = .ok (.iload_n 1, 1) := by decide +kernel
theorem dX4_compare_3 : decode cX4_compare 3 = .ok (.invokevirtual 96, 3) := by decide +kernel
theorem dX4_compare_6 : decode cX4_compare 6 = .ok (.aload_n 0, 1) := by decide +kernel
theorem dX4_compare_7 : decode cX4_compare 7 = .ok (.iconst 1, 1) := by decide +kernel
theorem dX4_compare_8 : decode cX4_compare 8 = .ok (.iload_n 2, 1) := by decide +kernel
theorem dX4_compare_9 : decode cX4_compare 9 = .ok (.invokevirtual 96, 3) := by decide +kernel
theorem dX4_compare_12 : decode cX4_compare 12 = .ok (.iconst 0, 1) := by decide +kernel
theorem dX4_compare_13 : decode cX4_compare 13 = .ok (.istore 4, 2) := by decide +kernel
theorem dX4_compare_15 : decode cX4_compare 15 = .ok (.iconst 0, 1) := by decide +kernel
theorem dX4_compare_16 : decode cX4_compare 16 = .ok (.istore 5, 2) := by decide +kernel
theorem dX4_compare_18 : decode cX4_compare 18 = .ok (.aload_n 0, 1) := by decide +kernel
theorem dX4_compare_19 : decode cX4_compare 19 = .ok (.iconst 0, 1) := by decide +kernel
theorem dX4_compare_20 : decode cX4_compare 20 = .ok (.putfield 99, 3) := by decide +kernel
theorem dX4_compare_23 : decode cX4_compare 23 = .ok (.aload_n 0, 1) := by decide +kernel
theorem dX4_compare_24 : decode cX4_compare 24 = .ok (.iconst 0, 1) := by decide +kernel
theorem dX4_compare_25 : decode cX4_compare 25 = .ok (.putfield 102, 3) := by decide +kernel
theorem dX4_compare_28 : decode cX4_compare 28 = .ok (.aload_n 0, 1) := by decide +kernel
theorem dX4_compare_29 : decode cX4_compare 29 = .ok (.getfield 99, 3) := by decide +kernel
theorem dX4_compare_32 : decode cX4_compare 32 = .ok (.iload_n 3, 1) := by decide +kernel
theorem dX4_compare_33 : decode cX4_compare 33 = .ok (.if_icmp .ge 190, 3) := by decide +kernel
theorem dX4_compare_36 : decode cX4_compare 36 = .ok (.iload 4, 2) := by decide +kernel
theorem dX4_compare_38 : decode cX4_compare 38 = .ok (.aload_n 0, 1) := by decide +kernel
theorem dX4_compare_39 : decode cX4_compare 39 = .ok (.getfield 35, 3) := by decide +kernel
theorem dX4_compare_42 : decode cX4_compare 42 = .ok (.iconst 0, 1) := by decide +kernel
theorem dX4_compare_43 : decode cX4_compare 43 = .ok (.iaload, 1) := by decide +kernel
theorem dX4_compare_44 : decode cX4_compare 44 = .ok (.if_icmp .lt 14, 3) := by decide +kernel
theorem dX4_compare_47 : decode cX4_compare 47 = .ok (.iload 5, 2) := by decide +kernel
theorem dX4_compare_49 : decode cX4_compare 49 = .ok (.aload_n 0, 1) := by decide +kernel
theorem dX4_compare_50 : decode cX4_compare 50 = .ok (.getfield 35, 3) := by decide +kernel
theorem dX4_compare_53 : decode cX4_compare 53 = .ok (.iconst 1, 1) := by decide +kernel
theorem dX4_compare_54 : decode cX4_compare 54 = .ok (.iaload, 1) := by decide +kernel
theorem dX4_compare_55 : decode cX4_compare 55 = .ok (.if_icmp .ge 168, 3) := by decide +kernel
theorem dX4_compare_58 : decode cX4_compare 58 = .ok (.iload 5, 2) := by decide +kernel
theorem dX4_compare_60 : decode cX4_compare 60 = .ok (.aload_n 0, 1) := by decide +kernel
theorem dX4_compare_61 : decode cX4_compare 61 = .ok (.getfield 35, 3) := by decide +kernel
theorem dX4_compare_64 : decode cX4_compare 64 = .ok (.iconst 1, 1) := by decide +kernel
theorem dX4_compare_65 : decode cX4_compare 65 = .ok (.iaload, 1) := by decide +kernel
theorem dX4_compare_66 : decode cX4_compare 66 = .ok (.if_icmp .eq 34, 3) := by decide +kernel
theorem dX4_compare_69 : decode cX4_compare 69 = .ok (.iload 4, 2) := by decide +kernel
theorem dX4_compare_71 : decode cX4_compare 71 = .ok (.aload_n 0, 1) := by decide +kernel
theorem dX4_compare_72 : decode cX4_compare 72 = .ok (.getfield 35, 3) := by decide +kernel
theorem dX4_compare_75 : decode cX4_compare 75 = .ok (.iconst 0, 1) := by decide +kernel
theorem dX4_compare_76 : decode cX4_compare 76 = .ok (.iaload, 1) := by decide +kernel
theorem dX4_compare_77 : decode cX4_compare 77 = .ok (.if_icmp .ge 27, 3) := by decide +kernel
theorem dX4_compare_80 : decode cX4_compare 80 = .ok (.aload_n 0, 1) := by decide +kernel
theorem dX4_compare_81 : decode cX4_compare 81 = .ok (.getfield 29, 3) := by decide +kernel
theorem dX4_compare_84 : decode cX4_compare 84 = .ok (.iload 4, 2) := by decide +kernel
theorem dX4_compare_86 : decode cX4_compare 86 = .ok (.iaload, 1) := by decide +kernel
theorem dX4_compare_87 : decode cX4_compare 87 = .ok (.aload_n 0, 1) := by decide +kernel
theorem dX4_compare_88 : decode cX4_compare 88 = .ok (.getfield 29, 3) := by decide +kernel
theorem dX4_compare_91 : decode cX4_compare 91 = .ok (.bipush 64, 2) := by decide +kernel
theorem dX4_compare_93 : decode cX4_compare 93 = .ok (.iload 5, 2) := by decide +kernel
theorem dX4_compare_95 : decode cX4_compare 95 = .ok (.iadd, 1) := by decide +kernel
theorem dX4_compare_96 : decode cX4_compare 96 = .ok (.iaload, 1) := by decide +kernel
theorem dX4_compare_97 : decode cX4_compare 97 = .ok (.if_icmp .gt 7, 3) := by decide +kernel
theorem dX4_compare_100 : decode cX4_compare 100 = .ok (.iconst 1, 1) := by decide +kernel
theorem dX4_compare_101 : decode cX4_compare 101 = .ok (.goto 4, 3) := by decide +kernel
theorem dX4_compare_104 : decode cX4_compare 104 = .ok (.iconst 0, 1) := by decide +kernel
theorem dX4_compare_105 : decode cX4_compare 105 = .ok (.istore 6, 2) := by decide +kernel
theorem dX4_compare_107 : decode cX4_compare 107 = .ok (.iload 4, 2) := by decide +kernel
theorem dX4_compare_109 : decode cX4_compare 109 = .ok (.aload_n 0, 1) := by decide +kernel
theorem dX4_compare_110 : decode cX4_compare 110 = .ok (.getfield 35, 3) := by decide +kernel
theorem dX4_compare_113 : decode cX4_compare 113 = .ok (.iconst 0, 1) := by decide +kernel
theorem dX4_compare_114 : decode cX4_compare 114 = .ok (.iaload, 1) := by decide +kernel
theorem dX4_compare_115 : decode cX4_compare 115 = .ok (.if_icmp .eq 34, 3) := by decide +kernel
theorem dX4_compare_118 : decode cX4_compare 118 = .ok (.iload 5, 2) := by decide +kernel
theorem dX4_compare_120 : decode cX4_compare 120 = .ok (.aload_n 0, 1) := by decide +kernel
theorem dX4_compare_121 : decode cX4_compare 121 = .ok (.getfield 35, 3) := by decide +kernel
theorem dX4_compare_124 : decode cX4_compare 124 = .ok (.iconst 1, 1) := by decide +kernel
theorem dX4_compare_125 : decode cX4_compare 125 = .ok (.iaload, 1) := by decide +kernel
theorem dX4_compare_126 : decode cX4_compare 126 = .ok (.if_icmp .ge 27, 3) := by decide +kernel
theorem dX4_compare_129 : decode cX4_compare 129 = .ok (.aload_n 0, 1) := by decide +kernel
theorem dX4_compare_130 : decode cX4_compare 130 = .ok (.getfield 29, 3) := by decide +kernel
theorem dX4_compare_133 : decode cX4_compare 133 = .ok (.bipush 64, 2) := by decide +kernel
theorem dX4_compare_135 : decode cX4_compare 135 = .ok (.iload 5, 2) := by decide +kernel
theorem dX4_compare_137 : decode cX4_compare 137 = .ok (.iadd, 1) := by decide +kernel
theorem dX4_compare_138 : decode cX4_compare 138 = .ok (.iaload, 1) := by decide +kernel
theorem dX4_compare_139 : decode cX4_compare 139 = .ok (.aload_n 0, 1) := by decide +kernel
theorem dX4_compare_140 : decode cX4_compare 140 = .ok (.getfield 29, 3) := by decide +kernel
theorem dX4_compare_143 : decode cX4_compare 143 = .ok (.iload 4, 2) := by decide +kernel
theorem dX4_compare_145 : decode cX4_compare 145 = .ok (.iaload, 1) := by decide +kernel
theorem dX4_compare_146 : decode cX4_compare 146 = .ok (.if_icmp .gt 7, 3) := by decide +kernel
theorem dX4_compare_149 : decode cX4_compare 149 = .ok (.iconst 1, 1) := by decide +kernel
theorem dX4_compare_150 : decode cX4_compare 150 = .ok (.goto 4, 3) := by decide +kernel
theorem dX4_compare_153 : decode cX4_compare 153 = .ok (.iconst 0, 1) := by decide +kernel
theorem dX4_compare_154 : decode cX4_compare 154 = .ok (.istore 7, 2) := by decide +kernel
theorem dX4_compare_156 : decode cX4_compare 156 = .ok (.aload_n 0, 1) := by decide +kernel
theorem dX4_compare_157 : decode cX4_compare 157 = .ok (.dup, 1) := by decide +kernel
theorem dX4_compare_158 : decode cX4_compare 158 = .ok (.getfield 99, 3) := by decide +kernel
theorem dX4_compare_161 : decode cX4_compare 161 = .ok (.iconst 1, 1) := by decide +kernel
theorem dX4_compare_162 : decode cX4_compare 162 = .ok (.iadd, 1) := by decide +kernel
theorem dX4_compare_163 : decode cX4_compare 163 = .ok (.putfield 99, 3) := by decide +kernel
theorem dX4_compare_166 : decode cX4_compare 166 = .ok (.aload_n 0, 1) := by decide +kernel
theorem dX4_compare_167 : decode cX4_compare 167 = .ok (.dup, 1) := by decide +kernel
theorem dX4_compare_168 : decode cX4_compare 168 = .ok (.getfield 102, 3) := by decide +kernel
theorem dX4_compare_171 : decode cX4_compare 171 = .ok (.iload 6, 2) := by decide +kernel
theorem dX4_compare_173 : decode cX4_compare 173 = .ok (.ifCond .eq 12, 3) := by decide +kernel
theorem dX4_compare_176 : decode cX4_compare 176 = .ok (.iload 7, 2) := by decide +kernel
theorem dX4_compare_178 : decode cX4_compare 178 = .ok (.ifCond .eq 7, 3) := by decide +kernel
theorem dX4_compare_181 : decode cX4_compare 181 = .ok (.iconst 1, 1) := by decide +kernel
theorem dX4_compare_182 : decode cX4_compare 182 = .ok (.goto 4, 3) := by decide +kernel
theorem dX4_compare_185 : decode cX4_compare 185 = .ok (.iconst 0, 1) := by decide +kernel
theorem dX4_compare_186 : decode cX4_compare 186 = .ok (.iadd, 1) := by decide +kernel
theorem dX4_compare_187 : decode cX4_compare 187 = .ok (.putfield 102, 3) := by decide +kernel
theorem dX4_compare_190 : decode cX4_compare 190 = .ok (.iload 4, 2) := by decide +kernel
theorem dX4_compare_192 : decode cX4_compare 192 = .ok (.iload 6, 2) := by decide +kernel
theorem dX4_compare_194 : decode cX4_compare 194 = .ok (.ifCond .eq 7, 3) := by decide +kernel
theorem dX4_compare_197 : decode cX4_compare 197 = .ok (.iconst 1, 1) := by decide +kernel
theorem dX4_compare_198 : decode cX4_compare 198 = .ok (.goto 4, 3) := by decide +kernel
theorem dX4_compare_201 : decode cX4_compare 201 = .ok (.iconst 0, 1) := by decide +kernel
theorem dX4_compare_202 : decode cX4_compare 202 = .ok (.iadd, 1) := by decide +kernel
theorem dX4_compare_203 : decode cX4_compare 203 = .ok (.istore 4, 2) := by decide +kernel
theorem dX4_compare_205 : decode cX4_compare 205 = .ok (.iload 5, 2) := by decide +kernel
theorem dX4_compare_207 : decode cX4_compare 207 = .ok (.iload 7, 2) := by decide +kernel
theorem dX4_compare_209 : decode cX4_compare 209 = .ok (.ifCond .eq 7, 3) := by decide +kernel
theorem dX4_compare_212 : decode cX4_compare 212 = .ok (.iconst 1, 1) := by decide +kernel
theorem dX4_compare_213 : decode cX4_compare 213 = .ok (.goto 4, 3) := by decide +kernel
theorem dX4_compare_216 : decode cX4_compare 216 = .ok (.iconst 0, 1) := by decide +kernel
theorem dX4_compare_217 : decode cX4_compare 217 = .ok (.iadd, 1) := by decide +kernel
theorem dX4_compare_218 : decode cX4_compare 218 = .ok (.istore 5, 2) := by decide +kernel
theorem dX4_compare_220 : decode cX4_compare 220 = .ok (.goto (-192), 3) := by decide +kernel
theorem dX4_compare_223 : decode cX4_compare 223 = .ok (.aload_n 0, 1) := by decide +kernel
theorem dX4_compare_224 : decode cX4_compare 224 = .ok (.aload_n 0, 1) := by decide +kernel
theorem dX4_compare_225 : decode cX4_compare 225 = .ok (.getfield 35, 3) := by decide +kernel
theorem dX4_compare_228 : decode cX4_compare 228 = .ok (.iconst 0, 1) := by decide +kernel
theorem dX4_compare_229 : decode cX4_compare 229 = .ok (.iaload, 1) := by decide +kernel
theorem dX4_compare_230 : decode cX4_compare 230 = .ok (.iload 4, 2) := by decide +kernel
theorem dX4_compare_232 : decode cX4_compare 232 = .ok (.isub, 1) := by decide +kernel
theorem dX4_compare_233 : decode cX4_compare 233 = .ok (.aload_n 0, 1) := by decide +kernel
theorem dX4_compare_234 : decode cX4_compare 234 = .ok (.getfield 35, 3) := by decide +kernel
theorem dX4_compare_237 : decode cX4_compare 237 = .ok (.iconst 1, 1) := by decide +kernel
theorem dX4_compare_238 : decode cX4_compare 238 = .ok (.iaload, 1) := by decide +kernel
theorem dX4_compare_239 : decode cX4_compare 239 = .ok (.iload 5, 2) := by decide +kernel
theorem dX4_compare_241 : decode cX4_compare 241 = .ok (.isub, 1) := by decide +kernel
theorem dX4_compare_242 : decode cX4_compare 242 = .ok (.if_icmp .ge 15, 3) := by decide +kernel
theorem dX4_compare_245 : decode cX4_compare 245 = .ok (.aload_n 0, 1) := by decide +kernel
theorem dX4_compare_246 : decode cX4_compare 246 = .ok (.getfield 35, 3) := by decide +kernel
theorem dX4_compare_249 : decode cX4_compare 249 = .ok (.iconst 0, 1) := by decide +kernel
theorem dX4_compare_250 : decode cX4_compare 250 = .ok (.iaload, 1) := by decide +kernel
theorem dX4_compare_251 : decode cX4_compare 251 = .ok (.iload 4, 2) := by decide +kernel
theorem dX4_compare_253 : decode cX4_compare 253 = .ok (.isub, 1) := by decide +kernel
theorem dX4_compare_254 : decode cX4_compare 254 = .ok (.goto 12, 3) := by decide +kernel
theorem dX4_compare_257 : decode cX4_compare 257 = .ok (.aload_n 0, 1) := by decide +kernel
theorem dX4_compare_258 : decode cX4_compare 258 = .ok (.getfield 35, 3) := by decide +kernel
theorem dX4_compare_261 : decode cX4_compare 261 = .ok (.iconst 1, 1) := by decide +kernel
theorem dX4_compare_262 : decode cX4_compare 262 = .ok (.iaload, 1) := by decide +kernel
theorem dX4_compare_263 : decode cX4_compare 263 = .ok (.iload 5, 2) := by decide +kernel
theorem dX4_compare_265 : decode cX4_compare 265 = .ok (.isub, 1) := by decide +kernel
theorem dX4_compare_266 : decode cX4_compare 266 = .ok (.putfield 105, 3) := by decide +kernel
theorem dX4_compare_269 : decode cX4_compare 269 = .ok (.aload_n 0, 1) := by decide +kernel
theorem dX4_compare_270 : decode cX4_compare 270 = .ok (.aload_n 0, 1) := by decide +kernel
theorem dX4_compare_271 : decode cX4_compare 271 = .ok (.getfield 102, 3) := by decide +kernel
theorem dX4_compare_274 : decode cX4_compare 274 = .ok (.putfield 108, 3) := by decide +kernel
theorem dX4_compare_277 : decode cX4_compare 277 = .ok (.iload 4, 2) := by decide +kernel
theorem dX4_compare_279 : decode cX4_compare 279 = .ok (.aload_n 0, 1) := by decide +kernel
theorem dX4_compare_280 : decode cX4_compare 280 = .ok (.getfield 35, 3) := by decide +kernel
theorem dX4_compare_283 : decode cX4_compare 283 = .ok (.iconst 0, 1) := by decide +kernel
theorem dX4_compare_284 : decode cX4_compare 284 = .ok (.iaload, 1) := by decide +kernel
theorem dX4_compare_285 : decode cX4_compare 285 = .ok (.if_icmp .ge 93, 3) := by decide +kernel
theorem dX4_compare_288 : decode cX4_compare 288 = .ok (.iload 5, 2) := by decide +kernel
theorem dX4_compare_290 : decode cX4_compare 290 = .ok (.aload_n 0, 1) := by decide +kernel
theorem dX4_compare_291 : decode cX4_compare 291 = .ok (.getfield 35, 3) := by decide +kernel
theorem dX4_compare_294 : decode cX4_compare 294 = .ok (.iconst 1, 1) := by decide +kernel
theorem dX4_compare_295 : decode cX4_compare 295 = .ok (.iaload, 1) := by decide +kernel
theorem dX4_compare_296 : decode cX4_compare 296 = .ok (.if_icmp .ge 82, 3) := by decide +kernel
theorem dX4_compare_299 : decode cX4_compare 299 = .ok (.aload_n 0, 1) := by decide +kernel
theorem dX4_compare_300 : decode cX4_compare 300 = .ok (.getfield 29, 3) := by decide +kernel
theorem dX4_compare_303 : decode cX4_compare 303 = .ok (.iload 4, 2) := by decide +kernel
theorem dX4_compare_305 : decode cX4_compare 305 = .ok (.iaload, 1) := by decide +kernel
theorem dX4_compare_306 : decode cX4_compare 306 = .ok (.istore 6, 2) := by decide +kernel
theorem dX4_compare_308 : decode cX4_compare 308 = .ok (.aload_n 0, 1) := by decide +kernel
theorem dX4_compare_309 : decode cX4_compare 309 = .ok (.getfield 29, 3) := by decide +kernel
theorem dX4_compare_312 : decode cX4_compare 312 = .ok (.bipush 64, 2) := by decide +kernel
theorem dX4_compare_314 : decode cX4_compare 314 = .ok (.iload 5, 2) := by decide +kernel
theorem dX4_compare_316 : decode cX4_compare 316 = .ok (.iadd, 1) := by decide +kernel
theorem dX4_compare_317 : decode cX4_compare 317 = .ok (.iaload, 1) := by decide +kernel
theorem dX4_compare_318 : decode cX4_compare 318 = .ok (.istore 7, 2) := by decide +kernel
theorem dX4_compare_320 : decode cX4_compare 320 = .ok (.aload_n 0, 1) := by decide +kernel
theorem dX4_compare_321 : decode cX4_compare 321 = .ok (.dup, 1) := by decide +kernel
theorem dX4_compare_322 : decode cX4_compare 322 = .ok (.getfield 108, 3) := by decide +kernel
theorem dX4_compare_325 : decode cX4_compare 325 = .ok (.iload 6, 2) := by decide +kernel
theorem dX4_compare_327 : decode cX4_compare 327 = .ok (.iload 7, 2) := by decide +kernel
theorem dX4_compare_329 : decode cX4_compare 329 = .ok (.if_icmp .ne 7, 3) := by decide +kernel
theorem dX4_compare_332 : decode cX4_compare 332 = .ok (.iconst 1, 1) := by decide +kernel
theorem dX4_compare_333 : decode cX4_compare 333 = .ok (.goto 4, 3) := by decide +kernel
theorem dX4_compare_336 : decode cX4_compare 336 = .ok (.iconst 0, 1) := by decide +kernel
theorem dX4_compare_337 : decode cX4_compare 337 = .ok (.iadd, 1) := by decide +kernel
theorem dX4_compare_338 : decode cX4_compare 338 = .ok (.putfield 108, 3) := by decide +kernel
theorem dX4_compare_341 : decode cX4_compare 341 = .ok (.iload 4, 2) := by decide +kernel
theorem dX4_compare_343 : decode cX4_compare 343 = .ok (.iload 6, 2) := by decide +kernel
theorem dX4_compare_345 : decode cX4_compare 345 = .ok (.iload 7, 2) := by decide +kernel
theorem dX4_compare_347 : decode cX4_compare 347 = .ok (.if_icmp .gt 7, 3) := by decide +kernel
theorem dX4_compare_350 : decode cX4_compare 350 = .ok (.iconst 1, 1) := by decide +kernel
theorem dX4_compare_351 : decode cX4_compare 351 = .ok (.goto 4, 3) := by decide +kernel
theorem dX4_compare_354 : decode cX4_compare 354 = .ok (.iconst 0, 1) := by decide +kernel
theorem dX4_compare_355 : decode cX4_compare 355 = .ok (.iadd, 1) := by decide +kernel
theorem dX4_compare_356 : decode cX4_compare 356 = .ok (.istore 4, 2) := by decide +kernel
theorem dX4_compare_358 : decode cX4_compare 358 = .ok (.iload 5, 2) := by decide +kernel
theorem dX4_compare_360 : decode cX4_compare 360 = .ok (.iload 7, 2) := by decide +kernel
theorem dX4_compare_362 : decode cX4_compare 362 = .ok (.iload 6, 2) := by decide +kernel
theorem dX4_compare_364 : decode cX4_compare 364 = .ok (.if_icmp .gt 7, 3) := by decide +kernel
theorem dX4_compare_367 : decode cX4_compare 367 = .ok (.iconst 1, 1) := by decide +kernel
theorem dX4_compare_368 : decode cX4_compare 368 = .ok (.goto 4, 3) := by decide +kernel
theorem dX4_compare_371 : decode cX4_compare 371 = .ok (.iconst 0, 1) := by decide +kernel
theorem dX4_compare_372 : decode cX4_compare 372 = .ok (.iadd, 1) := by decide +kernel
theorem dX4_compare_373 : decode cX4_compare 373 = .ok (.istore 5, 2) := by decide +kernel
theorem dX4_compare_375 : decode cX4_compare 375 = .ok (.goto (-98), 3) := by decide +kernel
theorem dX4_compare_378 : decode cX4_compare 378 = .ok (.return_, 1) := by decide +kernel
theorem dX4_share_0 : decode cX4_share 0 = .ok (.iload_n 1, 1) := by decide +kernel
theorem dX4_share_1 : decode cX4_share 1 = .ok (.ifCond .ne 7, 3) := by decide +kernel
theorem dX4_share_4 : decode cX4_share 4 = .ok (.iconst 0, 1) := by decide +kernel
theorem dX4_share_5 : decode cX4_share 5 = .ok (.goto 10, 3) := by decide +kernel
theorem dX4_share_8 : decode cX4_share 8 = .ok (.sipush 10000, 3) := by decide +kernel
theorem dX4_share_11 : decode cX4_share 11 = .ok (.iload_n 0, 1) := by decide +kernel
theorem dX4_share_12 : decode cX4_share 12 = .ok (.imul, 1) := by decide +kernel
theorem dX4_share_13 : decode cX4_share 13 = .ok (.iload_n 1, 1) := by decide +kernel
theorem dX4_share_14 : decode cX4_share 14 = .ok (.idiv, 1) := by decide +kernel
theorem dX4_share_15 : decode cX4_share 15 = .ok (.ireturn, 1) := by decide +kernel
theorem dX4_shareUp_0 : decode cX4_shareUp 0 = .ok (.iload_n 1, 1) := by decide +kernel
theorem dX4_shareUp_1 : decode cX4_shareUp 1 = .ok (.ifCond .ne 7, 3) := by decide +kernel
theorem dX4_shareUp_4 : decode cX4_shareUp 4 = .ok (.iconst 0, 1) := by decide +kernel
theorem dX4_shareUp_5 : decode cX4_shareUp 5 = .ok (.goto 14, 3) := by decide +kernel
theorem dX4_shareUp_8 : decode cX4_shareUp 8 = .ok (.sipush 10000, 3) := by decide +kernel
theorem dX4_shareUp_11 : decode cX4_shareUp 11 = .ok (.iload_n 0, 1) := by decide +kernel
theorem dX4_shareUp_12 : decode cX4_shareUp 12 = .ok (.imul, 1) := by decide +kernel
theorem dX4_shareUp_13 : decode cX4_shareUp 13 = .ok (.iload_n 1, 1) := by decide +kernel
theorem dX4_shareUp_14 : decode cX4_shareUp 14 = .ok (.iadd, 1) := by decide +kernel
theorem dX4_shareUp_15 : decode cX4_shareUp 15 = .ok (.iconst 1, 1) := by decide +kernel
theorem dX4_shareUp_16 : decode cX4_shareUp 16 = .ok (.isub, 1) := by decide +kernel
theorem dX4_shareUp_17 : decode cX4_shareUp 17 = .ok (.iload_n 1, 1) := by decide +kernel
theorem dX4_shareUp_18 : decode cX4_shareUp 18 = .ok (.idiv, 1) := by decide +kernel
theorem dX4_shareUp_19 : decode cX4_shareUp 19 = .ok (.ireturn, 1) := by decide +kernel
theorem dX4_either_0 : decode cX4_either 0 = .ok (.aload_n 0, 1) := by decide +kernel
theorem dX4_either_1 : decode cX4_either 1 = .ok (.getfield 35, 3) := by decide +kernel
theorem dX4_either_4 : decode cX4_either 4 = .ok (.iconst 0, 1) := by decide +kernel
theorem dX4_either_5 : decode cX4_either 5 = .ok (.iaload, 1) := by decide +kernel
theorem dX4_either_6 : decode cX4_either 6 = .ok (.aload_n 0, 1) := by decide +kernel
theorem dX4_either_7 : decode cX4_either 7 = .ok (.getfield 35, 3) := by decide +kernel
theorem dX4_either_10 : decode cX4_either 10 = .ok (.iconst 1, 1) := by decide +kernel
theorem dX4_either_11 : decode cX4_either 11 = .ok (.iaload, 1) := by decide +kernel
theorem dX4_either_12 : decode cX4_either 12 = .ok (.iadd, 1) := by decide +kernel
theorem dX4_either_13 : decode cX4_either 13 = .ok (.aload_n 0, 1) := by decide +kernel
theorem dX4_either_14 : decode cX4_either 14 = .ok (.getfield 108, 3) := by decide +kernel
theorem dX4_either_17 : decode cX4_either 17 = .ok (.isub, 1) := by decide +kernel
theorem dX4_either_18 : decode cX4_either 18 = .ok (.ireturn, 1) := by decide +kernel
set_option maxRecDepth 20000 in
theorem ggX4_lower_X4_share : GoodIn wsX4_lower wsX4_share := goodIn_r _ [6] (by decide +kernel) (by decide +kernel)
set_option maxRecDepth 20000 in
theorem gX4_lower_X4_share : GoodIn wsX4_lower (va_wsS RX4 111 yX4_share wsX4_share) := goodIn_app (goodIn_of _ (by decide +kernel)) ggX4_lower_X4_share
theorem dX4_lower_0 : decode cX4_lower 0 = .ok (.aload_n 0, 1) := by decide +kernel
theorem dX4_lower_1 : decode cX4_lower 1 = .ok (.getfield 102, 3) := by decide +kernel
theorem dX4_lower_4 : decode cX4_lower 4 = .ok (.aload_n 0, 1) := by decide +kernel
theorem dX4_lower_5 : decode cX4_lower 5 = .ok (.getfield 35, 3) := by decide +kernel
theorem dX4_lower_8 : decode cX4_lower 8 = .ok (.iconst 0, 1) := by decide +kernel
theorem dX4_lower_9 : decode cX4_lower 9 = .ok (.iaload, 1) := by decide +kernel
theorem dX4_lower_10 : decode cX4_lower 10 = .ok (.aload_n 0, 1) := by decide +kernel
theorem dX4_lower_11 : decode cX4_lower 11 = .ok (.getfield 35, 3) := by decide +kernel
theorem dX4_lower_14 : decode cX4_lower 14 = .ok (.iconst 1, 1) := by decide +kernel
theorem dX4_lower_15 : decode cX4_lower 15 = .ok (.iaload, 1) := by decide +kernel
theorem dX4_lower_16 : decode cX4_lower 16 = .ok (.iadd, 1) := by decide +kernel
theorem dX4_lower_17 : decode cX4_lower 17 = .ok (.aload_n 0, 1) := by decide +kernel
theorem dX4_lower_18 : decode cX4_lower 18 = .ok (.getfield 102, 3) := by decide +kernel
theorem dX4_lower_21 : decode cX4_lower 21 = .ok (.isub, 1) := by decide +kernel
theorem dX4_lower_22 : decode cX4_lower 22 = .ok (.invokestatic 111, 3) := by decide +kernel
theorem dX4_lower_25 : decode cX4_lower 25 = .ok (.ireturn, 1) := by decide +kernel
set_option maxRecDepth 20000 in
theorem ggX4_upper_X4_shareUp : GoodIn wsX4_upper wsX4_shareUp := goodIn_r _ [7] (by decide +kernel) (by decide +kernel)
set_option maxRecDepth 20000 in
theorem gX4_upper_X4_shareUp : GoodIn wsX4_upper (va_wsS RX4 114 yX4_shareUp wsX4_shareUp) := goodIn_app (goodIn_of _ (by decide +kernel)) ggX4_upper_X4_shareUp
theorem dX4_upper_0 : decode cX4_upper 0 = .ok (.aload_n 0, 1) := by decide +kernel
theorem dX4_upper_1 : decode cX4_upper 1 = .ok (.getfield 102, 3) := by decide +kernel
theorem dX4_upper_4 : decode cX4_upper 4 = .ok (.aload_n 0, 1) := by decide +kernel
theorem dX4_upper_5 : decode cX4_upper 5 = .ok (.getfield 105, 3) := by decide +kernel
theorem dX4_upper_8 : decode cX4_upper 8 = .ok (.iadd, 1) := by decide +kernel
theorem dX4_upper_9 : decode cX4_upper 9 = .ok (.aload_n 0, 1) := by decide +kernel
theorem dX4_upper_10 : decode cX4_upper 10 = .ok (.getfield 35, 3) := by decide +kernel
theorem dX4_upper_13 : decode cX4_upper 13 = .ok (.iconst 0, 1) := by decide +kernel
theorem dX4_upper_14 : decode cX4_upper 14 = .ok (.iaload, 1) := by decide +kernel
theorem dX4_upper_15 : decode cX4_upper 15 = .ok (.aload_n 0, 1) := by decide +kernel
theorem dX4_upper_16 : decode cX4_upper 16 = .ok (.getfield 35, 3) := by decide +kernel
theorem dX4_upper_19 : decode cX4_upper 19 = .ok (.iconst 1, 1) := by decide +kernel
theorem dX4_upper_20 : decode cX4_upper 20 = .ok (.iaload, 1) := by decide +kernel
theorem dX4_upper_21 : decode cX4_upper 21 = .ok (.iadd, 1) := by decide +kernel
theorem dX4_upper_22 : decode cX4_upper 22 = .ok (.aload_n 0, 1) := by decide +kernel
theorem dX4_upper_23 : decode cX4_upper 23 = .ok (.getfield 102, 3) := by decide +kernel
theorem dX4_upper_26 : decode cX4_upper 26 = .ok (.isub, 1) := by decide +kernel
theorem dX4_upper_27 : decode cX4_upper 27 = .ok (.aload_n 0, 1) := by decide +kernel
theorem dX4_upper_28 : decode cX4_upper 28 = .ok (.getfield 105, 3) := by decide +kernel
theorem dX4_upper_31 : decode cX4_upper 31 = .ok (.isub, 1) := by decide +kernel
theorem dX4_upper_32 : decode cX4_upper 32 = .ok (.invokestatic 114, 3) := by decide +kernel
theorem dX4_upper_35 : decode cX4_upper 35 = .ok (.ireturn, 1) := by decide +kernel
theorem dX4_sampled_0 : decode cX4_sampled 0 = .ok (.aload_n 0, 1) := by decide +kernel
theorem dX4_sampled_1 : decode cX4_sampled 1 = .ok (.getfield 35, 3) := by decide +kernel
theorem dX4_sampled_4 : decode cX4_sampled 4 = .ok (.iload_n 1, 1) := by decide +kernel
theorem dX4_sampled_5 : decode cX4_sampled 5 = .ok (.iaload, 1) := by decide +kernel
theorem dX4_sampled_6 : decode cX4_sampled 6 = .ok (.aload_n 0, 1) := by decide +kernel
theorem dX4_sampled_7 : decode cX4_sampled 7 = .ok (.getfield 7, 3) := by decide +kernel
theorem dX4_sampled_10 : decode cX4_sampled 10 = .ok (.iconst 1, 1) := by decide +kernel
theorem dX4_sampled_11 : decode cX4_sampled 11 = .ok (.iaload, 1) := by decide +kernel
theorem dX4_sampled_12 : decode cX4_sampled 12 = .ok (.if_icmp .ge 12, 3) := by decide +kernel
theorem dX4_sampled_15 : decode cX4_sampled 15 = .ok (.aload_n 0, 1) := by decide +kernel
theorem dX4_sampled_16 : decode cX4_sampled 16 = .ok (.getfield 35, 3) := by decide +kernel
theorem dX4_sampled_19 : decode cX4_sampled 19 = .ok (.iload_n 1, 1) := by decide +kernel
theorem dX4_sampled_20 : decode cX4_sampled 20 = .ok (.iaload, 1) := by decide +kernel
theorem dX4_sampled_21 : decode cX4_sampled 21 = .ok (.goto 9, 3) := by decide +kernel
theorem dX4_sampled_24 : decode cX4_sampled 24 = .ok (.aload_n 0, 1) := by decide +kernel
theorem dX4_sampled_25 : decode cX4_sampled 25 = .ok (.getfield 7, 3) := by decide +kernel
theorem dX4_sampled_28 : decode cX4_sampled 28 = .ok (.iconst 1, 1) := by decide +kernel
theorem dX4_sampled_29 : decode cX4_sampled 29 = .ok (.iaload, 1) := by decide +kernel
theorem dX4_sampled_30 : decode cX4_sampled 30 = .ok (.ireturn, 1) := by decide +kernel
set_option maxRecDepth 20000 in
theorem ggX4_ofRow_X4_isRow : GoodIn wsX4_ofRow wsX4_isRow := goodIn_r _ [8, 1, 9, 10, 7, 11, 39, 40, 41, 42, 43, 44, 45, 46, 47, 48, 49, 50, 51, 52, 53] (by decide +kernel) (by decide +kernel)
set_option maxRecDepth 20000 in
theorem gX4_ofRow_X4_isRow : GoodIn wsX4_ofRow (wsV RX4 43 RX4 yX4_isRow wsX4_isRow) := goodIn_app (goodIn_of _ (by decide +kernel)) ggX4_ofRow_X4_isRow
set_option maxRecDepth 20000 in
theorem ggX4_ofRow_X4_find : GoodIn wsX4_ofRow wsX4_find := goodIn_r _ [15, 2, 1, 16, 17, 18, 7, 19, 20, 21, 22, 23, 24, 25, 26, 27, 3, 28, 29, 30, 31, 32, 33, 34, 39, 40, 41, 42, 43, 44, 45, 46, 47, 48, 49, 50, 51, 52, 53] (by decide +kernel) (by decide +kernel)
set_option maxRecDepth 20000 in
theorem gX4_ofRow_X4_find : GoodIn wsX4_ofRow (wsV RX4 96 RX4 yX4_find wsX4_find) := goodIn_app (goodIn_of _ (by decide +kernel)) ggX4_ofRow_X4_find
set_option maxRecDepth 20000 in
theorem ggX4_ofRow_X4_sampled : GoodIn wsX4_ofRow wsX4_sampled := goodIn_r _ [38, 2, 1, 39, 40, 41, 42, 43, 44, 45, 46, 47, 48, 49, 50, 51, 52, 53] (by decide +kernel) (by decide +kernel)
set_option maxRecDepth 20000 in
theorem gX4_ofRow_X4_sampled : GoodIn wsX4_ofRow (wsV RX4 117 RX4 yX4_sampled wsX4_sampled) := goodIn_app (goodIn_of _ (by decide +kernel)) ggX4_ofRow_X4_sampled
theorem dX4_ofRow_0 : decode cX4_ofRow 0 = .ok (.aload_n 0, 1) := by decide +kernel
theorem dX4_ofRow_1 : decode cX4_ofRow 1 = .ok (.iload_n 1, 1) := by decide +kernel
theorem dX4_ofRow_2 : decode cX4_ofRow 2 = .ok (.invokevirtual 43, 3) := by decide +kernel
theorem dX4_ofRow_5 : decode cX4_ofRow 5 = .ok (.ifCond .ne 5, 3) := by decide +kernel
theorem dX4_ofRow_8 : decode cX4_ofRow 8 = .ok (.iconst (-1), 1) := by decide +kernel
theorem dX4_ofRow_9 : decode cX4_ofRow 9 = .ok (.ireturn, 1) := by decide +kernel
theorem dX4_ofRow_10 : decode cX4_ofRow 10 = .ok (.aload_n 0, 1) := by decide +kernel
theorem dX4_ofRow_11 : decode cX4_ofRow 11 = .ok (.iconst 0, 1) := by decide +kernel
theorem dX4_ofRow_12 : decode cX4_ofRow 12 = .ok (.iload_n 1, 1) := by decide +kernel
theorem dX4_ofRow_13 : decode cX4_ofRow 13 = .ok (.invokevirtual 96, 3) := by decide +kernel
theorem dX4_ofRow_16 : decode cX4_ofRow 16 = .ok (.iload_n 2, 1) := by decide +kernel
theorem dX4_ofRow_17 : decode cX4_ofRow 17 = .ok (.tableswitch 80 0 3 #[31, 40, 47, 53], 31) := by decide +kernel
theorem dX4_ofRow_48 : decode cX4_ofRow 48 = .ok (.aload_n 0, 1) := by decide +kernel
theorem dX4_ofRow_49 : decode cX4_ofRow 49 = .ok (.getfield 7, 3) := by decide +kernel
theorem dX4_ofRow_52 : decode cX4_ofRow 52 = .ok (.iconst 5, 1) := by decide +kernel
theorem dX4_ofRow_53 : decode cX4_ofRow 53 = .ok (.iload_n 1, 1) := by decide +kernel
theorem dX4_ofRow_54 : decode cX4_ofRow 54 = .ok (.iadd, 1) := by decide +kernel
theorem dX4_ofRow_55 : decode cX4_ofRow 55 = .ok (.iaload, 1) := by decide +kernel
theorem dX4_ofRow_56 : decode cX4_ofRow 56 = .ok (.ireturn, 1) := by decide +kernel
theorem dX4_ofRow_57 : decode cX4_ofRow 57 = .ok (.aload_n 0, 1) := by decide +kernel
theorem dX4_ofRow_58 : decode cX4_ofRow 58 = .ok (.getfield 35, 3) := by decide +kernel
theorem dX4_ofRow_61 : decode cX4_ofRow 61 = .ok (.iconst 0, 1) := by decide +kernel
theorem dX4_ofRow_62 : decode cX4_ofRow 62 = .ok (.iaload, 1) := by decide +kernel
theorem dX4_ofRow_63 : decode cX4_ofRow 63 = .ok (.ireturn, 1) := by decide +kernel
theorem dX4_ofRow_64 : decode cX4_ofRow 64 = .ok (.aload_n 0, 1) := by decide +kernel
theorem dX4_ofRow_65 : decode cX4_ofRow 65 = .ok (.iconst 0, 1) := by decide +kernel
theorem dX4_ofRow_66 : decode cX4_ofRow 66 = .ok (.invokevirtual 117, 3) := by decide +kernel
theorem dX4_ofRow_69 : decode cX4_ofRow 69 = .ok (.ireturn, 1) := by decide +kernel
theorem dX4_ofRow_70 : decode cX4_ofRow 70 = .ok (.aload_n 0, 1) := by decide +kernel
theorem dX4_ofRow_71 : decode cX4_ofRow 71 = .ok (.getfield 35, 3) := by decide +kernel
theorem dX4_ofRow_74 : decode cX4_ofRow 74 = .ok (.iconst 0, 1) := by decide +kernel
theorem dX4_ofRow_75 : decode cX4_ofRow 75 = .ok (.iaload, 1) := by decide +kernel
theorem dX4_ofRow_76 : decode cX4_ofRow 76 = .ok (.ifCond .ne 8, 3) := by decide +kernel
theorem dX4_ofRow_79 : decode cX4_ofRow 79 = .ok (.bipush (-6), 2) := by decide +kernel
theorem dX4_ofRow_81 : decode cX4_ofRow 81 = .ok (.goto 15, 3) := by decide +kernel
theorem dX4_ofRow_84 : decode cX4_ofRow 84 = .ok (.aload_n 0, 1) := by decide +kernel
theorem dX4_ofRow_85 : decode cX4_ofRow 85 = .ok (.getfield 29, 3) := by decide +kernel
theorem dX4_ofRow_88 : decode cX4_ofRow 88 = .ok (.aload_n 0, 1) := by decide +kernel
theorem dX4_ofRow_89 : decode cX4_ofRow 89 = .ok (.iconst 0, 1) := by decide +kernel
theorem dX4_ofRow_90 : decode cX4_ofRow 90 = .ok (.invokevirtual 117, 3) := by decide +kernel
theorem dX4_ofRow_93 : decode cX4_ofRow 93 = .ok (.iconst 1, 1) := by decide +kernel
theorem dX4_ofRow_94 : decode cX4_ofRow 94 = .ok (.isub, 1) := by decide +kernel
theorem dX4_ofRow_95 : decode cX4_ofRow 95 = .ok (.iaload, 1) := by decide +kernel
theorem dX4_ofRow_96 : decode cX4_ofRow 96 = .ok (.ireturn, 1) := by decide +kernel
theorem dX4_ofRow_97 : decode cX4_ofRow 97 = .ok (.bipush (-2), 2) := by decide +kernel
theorem dX4_ofRow_99 : decode cX4_ofRow 99 = .ok (.ireturn, 1) := by decide +kernel
set_option maxRecDepth 20000 in
theorem ggX4_sign_X4_isPlace : GoodIn wsX4_sign wsX4_isPlace := goodIn_r _ [5, 6, 7, 8, 9, 4, 10, 11, 12, 13, 18, 19, 20, 21, 22, 23, 24, 25, 26, 27, 28, 29, 30, 31, 32] (by decide +kernel) (by decide +kernel)
set_option maxRecDepth 20000 in
theorem gX4_sign_X4_isPlace : GoodIn wsX4_sign (wsV RX4 76 RX4 yX4_isPlace wsX4_isPlace) := goodIn_app (goodIn_of _ (by decide +kernel)) ggX4_sign_X4_isPlace
set_option maxRecDepth 20000 in
theorem ggX4_sign_X4_at : GoodIn wsX4_sign wsX4_at := goodIn_r _ [17, 6, 18, 19, 20, 21, 22, 23, 24, 25, 26, 27, 28, 29, 30, 31, 32] (by decide +kernel) (by decide +kernel)
set_option maxRecDepth 20000 in
theorem gX4_sign_X4_at : GoodIn wsX4_sign (wsV RX4 80 RX4 yX4_at wsX4_at) := goodIn_app (goodIn_of _ (by decide +kernel)) ggX4_sign_X4_at
theorem dX4_sign_0 : decode cX4_sign 0 = .ok (.aload_n 0, 1) := by decide +kernel
theorem dX4_sign_1 : decode cX4_sign 1 = .ok (.iload_n 1, 1) := by decide +kernel
theorem dX4_sign_2 : decode cX4_sign 2 = .ok (.iload_n 2, 1) := by decide +kernel
theorem dX4_sign_3 : decode cX4_sign 3 = .ok (.invokevirtual 76, 3) := by decide +kernel
theorem dX4_sign_6 : decode cX4_sign 6 = .ok (.ifCond .eq 12, 3) := by decide +kernel
theorem dX4_sign_9 : decode cX4_sign 9 = .ok (.aload_n 0, 1) := by decide +kernel
theorem dX4_sign_10 : decode cX4_sign 10 = .ok (.iload_n 1, 1) := by decide +kernel
theorem dX4_sign_11 : decode cX4_sign 11 = .ok (.iload_n 2, 1) := by decide +kernel
theorem dX4_sign_12 : decode cX4_sign 12 = .ok (.invokevirtual 80, 3) := by decide +kernel
theorem dX4_sign_15 : decode cX4_sign 15 = .ok (.goto 4, 3) := by decide +kernel
theorem dX4_sign_18 : decode cX4_sign 18 = .ok (.iconst (-1), 1) := by decide +kernel
theorem dX4_sign_19 : decode cX4_sign 19 = .ok (.ireturn, 1) := by decide +kernel
set_option maxRecDepth 20000 in
theorem ggX4_sample_X4_isRow : GoodIn wsX4_sample wsX4_isRow := goodIn_r _ [8, 9, 10, 11, 7, 12, 39, 40, 41, 42, 43, 44, 45, 46, 47, 48, 49, 50, 51, 52, 53] (by decide +kernel) (by decide +kernel)
set_option maxRecDepth 20000 in
theorem gX4_sample_X4_isRow : GoodIn wsX4_sample (wsV RX4 43 RX4 yX4_isRow wsX4_isRow) := goodIn_app (goodIn_of _ (by decide +kernel)) ggX4_sample_X4_isRow
set_option maxRecDepth 20000 in
theorem ggX4_sample_X4_find : GoodIn wsX4_sample wsX4_find := goodIn_r _ [16, 17, 9, 18, 19, 20, 7, 21, 22, 23, 24, 25, 26, 27, 28, 29, 1, 3, 2, 30, 31, 32, 33, 34, 39, 40, 41, 42, 43, 44, 45, 46, 47, 48, 49, 50, 51, 52, 53] (by decide +kernel) (by decide +kernel)
set_option maxRecDepth 20000 in
theorem gX4_sample_X4_find : GoodIn wsX4_sample (wsV RX4 96 RX4 yX4_find wsX4_find) := goodIn_app (goodIn_of _ (by decide +kernel)) ggX4_sample_X4_find
set_option maxRecDepth 20000 in
theorem ggX4_sample_X4_sampled : GoodIn wsX4_sample wsX4_sampled := goodIn_r _ [38, 17, 9, 39, 40, 41, 42, 43, 44, 45, 46, 47, 48, 49, 50, 51, 52, 53] (by decide +kernel) (by decide +kernel)
set_option maxRecDepth 20000 in
theorem gX4_sample_X4_sampled : GoodIn wsX4_sample (wsV RX4 117 RX4 yX4_sampled wsX4_sampled) := goodIn_app (goodIn_of _ (by decide +kernel)) ggX4_sample_X4_sampled
set_option maxRecDepth 20000 in
theorem ggX4_sample_X4_in : GoodIn wsX4_sample wsX4_in := goodIn_r _ [12] (by decide +kernel) (by decide +kernel)
set_option maxRecDepth 20000 in
theorem gX4_sample_X4_in : GoodIn wsX4_sample (va_wsS RX4 39 yX4_in wsX4_in) := goodIn_app (goodIn_of _ (by decide +kernel)) ggX4_sample_X4_in
theorem dX4_sample_0 : decode cX4_sample 0 = .ok (.aload_n 0, 1) := by decide +kernel
theorem dX4_sample_1 : decode cX4_sample 1 = .ok (.iload_n 1, 1) := by decide +kernel
theorem dX4_sample_2 : decode cX4_sample 2 = .ok (.invokevirtual 43, 3) := by decide +kernel
theorem dX4_sample_5 : decode cX4_sample 5 = .ok (.ifCond .ne 5, 3) := by decide +kernel
theorem dX4_sample_8 : decode cX4_sample 8 = .ok (.iconst (-1), 1) := by decide +kernel
theorem dX4_sample_9 : decode cX4_sample 9 = .ok (.ireturn, 1) := by decide +kernel
theorem dX4_sample_10 : decode cX4_sample 10 = .ok (.aload_n 0, 1) := by decide +kernel
theorem dX4_sample_11 : decode cX4_sample 11 = .ok (.iconst 0, 1) := by decide +kernel
theorem dX4_sample_12 : decode cX4_sample 12 = .ok (.iload_n 1, 1) := by decide +kernel
theorem dX4_sample_13 : decode cX4_sample 13 = .ok (.invokevirtual 96, 3) := by decide +kernel
theorem dX4_sample_16 : decode cX4_sample 16 = .ok (.iload_n 2, 1) := by decide +kernel
theorem dX4_sample_17 : decode cX4_sample 17 = .ok (.iconst 0, 1) := by decide +kernel
theorem dX4_sample_18 : decode cX4_sample 18 = .ok (.aload_n 0, 1) := by decide +kernel
theorem dX4_sample_19 : decode cX4_sample 19 = .ok (.iconst 0, 1) := by decide +kernel
theorem dX4_sample_20 : decode cX4_sample 20 = .ok (.invokevirtual 117, 3) := by decide +kernel
theorem dX4_sample_23 : decode cX4_sample 23 = .ok (.iconst 1, 1) := by decide +kernel
theorem dX4_sample_24 : decode cX4_sample 24 = .ok (.isub, 1) := by decide +kernel
theorem dX4_sample_25 : decode cX4_sample 25 = .ok (.invokestatic 39, 3) := by decide +kernel
theorem dX4_sample_28 : decode cX4_sample 28 = .ok (.ifCond .ne 5, 3) := by decide +kernel
theorem dX4_sample_31 : decode cX4_sample 31 = .ok (.iconst (-1), 1) := by decide +kernel
theorem dX4_sample_32 : decode cX4_sample 32 = .ok (.ireturn, 1) := by decide +kernel
theorem dX4_sample_33 : decode cX4_sample 33 = .ok (.iload_n 3, 1) := by decide +kernel
theorem dX4_sample_34 : decode cX4_sample 34 = .ok (.tableswitch 47 0 2 #[26, 33, 40], 26) := by decide +kernel
theorem dX4_sample_60 : decode cX4_sample 60 = .ok (.aload_n 0, 1) := by decide +kernel
theorem dX4_sample_61 : decode cX4_sample 61 = .ok (.getfield 29, 3) := by decide +kernel
theorem dX4_sample_64 : decode cX4_sample 64 = .ok (.iload_n 2, 1) := by decide +kernel
theorem dX4_sample_65 : decode cX4_sample 65 = .ok (.iaload, 1) := by decide +kernel
theorem dX4_sample_66 : decode cX4_sample 66 = .ok (.ireturn, 1) := by decide +kernel
theorem dX4_sample_67 : decode cX4_sample 67 = .ok (.aload_n 0, 1) := by decide +kernel
theorem dX4_sample_68 : decode cX4_sample 68 = .ok (.getfield 26, 3) := by decide +kernel
theorem dX4_sample_71 : decode cX4_sample 71 = .ok (.iload_n 2, 1) := by decide +kernel
theorem dX4_sample_72 : decode cX4_sample 72 = .ok (.iaload, 1) := by decide +kernel
theorem dX4_sample_73 : decode cX4_sample 73 = .ok (.ireturn, 1) := by decide +kernel
theorem dX4_sample_74 : decode cX4_sample 74 = .ok (.aload_n 0, 1) := by decide +kernel
theorem dX4_sample_75 : decode cX4_sample 75 = .ok (.getfield 32, 3) := by decide +kernel
theorem dX4_sample_78 : decode cX4_sample 78 = .ok (.iload_n 2, 1) := by decide +kernel
theorem dX4_sample_79 : decode cX4_sample 79 = .ok (.iaload, 1) := by decide +kernel
theorem dX4_sample_80 : decode cX4_sample 80 = .ok (.ireturn, 1) := by decide +kernel
theorem dX4_sample_81 : decode cX4_sample 81 = .ok (.bipush (-2), 2) := by decide +kernel
theorem dX4_sample_83 : decode cX4_sample 83 = .ok (.ireturn, 1) := by decide +kernel
set_option maxRecDepth 20000 in
theorem ggX4_isAhead_X4_codeAt : GoodIn wsX4_isAhead wsX4_codeAt := goodIn_r _ [6, 1, 7, 8, 9, 5, 10, 11, 12, 13, 14, 15, 16, 17, 18, 19, 20, 21, 22, 23, 24, 25] (by decide +kernel) (by decide +kernel)
set_option maxRecDepth 20000 in
theorem gX4_isAhead_X4_codeAt : GoodIn wsX4_isAhead (wsV RX4 89 RX4 yX4_codeAt wsX4_codeAt) := goodIn_app (goodIn_of _ (by decide +kernel)) ggX4_isAhead_X4_codeAt
theorem dX4_isAhead_0 : decode cX4_isAhead 0 = .ok (.iconst 0, 1) := by decide +kernel
theorem dX4_isAhead_1 : decode cX4_isAhead 1 = .ok (.istore_n 3, 1) := by decide +kernel
theorem dX4_isAhead_2 : decode cX4_isAhead 2 = .ok (.iconst 0, 1) := by decide +kernel
theorem dX4_isAhead_3 : decode cX4_isAhead 3 = .ok (.istore 4, 2) := by decide +kernel
theorem dX4_isAhead_5 : decode cX4_isAhead 5 = .ok (.iload 4, 2) := by decide +kernel
theorem dX4_isAhead_7 : decode cX4_isAhead 7 = .ok (.iload_n 1, 1) := by decide +kernel
theorem dX4_isAhead_8 : decode cX4_isAhead 8 = .ok (.if_icmp .ge 65, 3) := by decide +kernel
theorem dX4_isAhead_11 : decode cX4_isAhead 11 = .ok (.iload_n 3, 1) := by decide +kernel
theorem dX4_isAhead_12 : decode cX4_isAhead 12 = .ok (.ifCond .ne 61, 3) := by decide +kernel
theorem dX4_isAhead_15 : decode cX4_isAhead 15 = .ok (.iconst 0, 1) := by decide +kernel
theorem dX4_isAhead_16 : decode cX4_isAhead 16 = .ok (.istore 5, 2) := by decide +kernel
theorem dX4_isAhead_18 : decode cX4_isAhead 18 = .ok (.iload 5, 2) := by decide +kernel
theorem dX4_isAhead_20 : decode cX4_isAhead 20 = .ok (.aload_n 0, 1) := by decide +kernel
theorem dX4_isAhead_21 : decode cX4_isAhead 21 = .ok (.getfield 7, 3) := by decide +kernel
theorem dX4_isAhead_24 : decode cX4_isAhead 24 = .ok (.iconst 0, 1) := by decide +kernel
theorem dX4_isAhead_25 : decode cX4_isAhead 25 = .ok (.iaload, 1) := by decide +kernel
theorem dX4_isAhead_26 : decode cX4_isAhead 26 = .ok (.iadd, 1) := by decide +kernel
theorem dX4_isAhead_27 : decode cX4_isAhead 27 = .ok (.aload_n 0, 1) := by decide +kernel
theorem dX4_isAhead_28 : decode cX4_isAhead 28 = .ok (.getfield 7, 3) := by decide +kernel
theorem dX4_isAhead_31 : decode cX4_isAhead 31 = .ok (.iconst 5, 1) := by decide +kernel
theorem dX4_isAhead_32 : decode cX4_isAhead 32 = .ok (.iload 4, 2) := by decide +kernel
theorem dX4_isAhead_34 : decode cX4_isAhead 34 = .ok (.iadd, 1) := by decide +kernel
theorem dX4_isAhead_35 : decode cX4_isAhead 35 = .ok (.iaload, 1) := by decide +kernel
theorem dX4_isAhead_36 : decode cX4_isAhead 36 = .ok (.if_icmp .gt 31, 3) := by decide +kernel
theorem dX4_isAhead_39 : decode cX4_isAhead 39 = .ok (.iload_n 3, 1) := by decide +kernel
theorem dX4_isAhead_40 : decode cX4_isAhead 40 = .ok (.ifCond .ne 27, 3) := by decide +kernel
theorem dX4_isAhead_43 : decode cX4_isAhead 43 = .ok (.aload_n 0, 1) := by decide +kernel
theorem dX4_isAhead_44 : decode cX4_isAhead 44 = .ok (.iload 4, 2) := by decide +kernel
theorem dX4_isAhead_46 : decode cX4_isAhead 46 = .ok (.iload 5, 2) := by decide +kernel
theorem dX4_isAhead_48 : decode cX4_isAhead 48 = .ok (.invokevirtual 89, 3) := by decide +kernel
theorem dX4_isAhead_51 : decode cX4_isAhead 51 = .ok (.iload_n 2, 1) := by decide +kernel
theorem dX4_isAhead_52 : decode cX4_isAhead 52 = .ok (.if_icmp .ne 7, 3) := by decide +kernel
theorem dX4_isAhead_55 : decode cX4_isAhead 55 = .ok (.iconst 1, 1) := by decide +kernel
theorem dX4_isAhead_56 : decode cX4_isAhead 56 = .ok (.goto 4, 3) := by decide +kernel
theorem dX4_isAhead_59 : decode cX4_isAhead 59 = .ok (.iconst 0, 1) := by decide +kernel
theorem dX4_isAhead_60 : decode cX4_isAhead 60 = .ok (.istore_n 3, 1) := by decide +kernel
theorem dX4_isAhead_61 : decode cX4_isAhead 61 = .ok (.iinc 5 1, 3) := by decide +kernel
theorem dX4_isAhead_64 : decode cX4_isAhead 64 = .ok (.goto (-46), 3) := by decide +kernel
theorem dX4_isAhead_67 : decode cX4_isAhead 67 = .ok (.iinc 4 1, 3) := by decide +kernel
theorem dX4_isAhead_70 : decode cX4_isAhead 70 = .ok (.goto (-65), 3) := by decide +kernel
theorem dX4_isAhead_73 : decode cX4_isAhead 73 = .ok (.iload_n 3, 1) := by decide +kernel
theorem dX4_isAhead_74 : decode cX4_isAhead 74 = .ok (.ireturn, 1) := by decide +kernel
set_option maxRecDepth 20000 in
theorem ggX4_different_X4_find : GoodIn wsX4_different wsX4_find := goodIn_r _ [8, 2, 1, 9, 10, 11, 7, 12, 13, 14, 15, 16, 17, 18, 19, 20, 21, 22, 3, 23, 24, 25, 26, 27, 32, 33, 34, 35, 36, 37, 38, 39, 40, 41, 42, 43, 44, 45, 46] (by decide +kernel) (by decide +kernel)
set_option maxRecDepth 20000 in
theorem gX4_different_X4_find : GoodIn wsX4_different (wsV RX4 96 RX4 yX4_find wsX4_find) := goodIn_app (goodIn_of _ (by decide +kernel)) ggX4_different_X4_find
set_option maxRecDepth 20000 in
theorem ggX4_different_X4_isAhead : GoodIn wsX4_different wsX4_isAhead := goodIn_r _ [31, 1, 9, 10, 11, 7, 12, 13, 14, 15, 16, 32, 33, 34, 35, 36, 37, 38, 39, 40, 41, 42, 43, 44, 45, 46] (by decide +kernel) (by decide +kernel)
set_option maxRecDepth 20000 in
theorem gX4_different_X4_isAhead : GoodIn wsX4_different (wsV RX4 120 RX4 yX4_isAhead wsX4_isAhead) := goodIn_app (goodIn_of _ (by decide +kernel)) ggX4_different_X4_isAhead
theorem dX4_different_0 : decode cX4_different 0 = .ok (.iconst 0, 1) := by decide +kernel
theorem dX4_different_1 : decode cX4_different 1 = .ok (.istore_n 1, 1) := by decide +kernel
theorem dX4_different_2 : decode cX4_different 2 = .ok (.iconst 0, 1) := by decide +kernel
theorem dX4_different_3 : decode cX4_different 3 = .ok (.istore_n 2, 1) := by decide +kernel
theorem dX4_different_4 : decode cX4_different 4 = .ok (.iload_n 2, 1) := by decide +kernel
theorem dX4_different_5 : decode cX4_different 5 = .ok (.aload_n 0, 1) := by decide +kernel
theorem dX4_different_6 : decode cX4_different 6 = .ok (.getfield 7, 3) := by decide +kernel
theorem dX4_different_9 : decode cX4_different 9 = .ok (.iconst 4, 1) := by decide +kernel
theorem dX4_different_10 : decode cX4_different 10 = .ok (.iaload, 1) := by decide +kernel
theorem dX4_different_11 : decode cX4_different 11 = .ok (.if_icmp .ge 55, 3) := by decide +kernel
theorem dX4_different_14 : decode cX4_different 14 = .ok (.aload_n 0, 1) := by decide +kernel
theorem dX4_different_15 : decode cX4_different 15 = .ok (.iconst 0, 1) := by decide +kernel
theorem dX4_different_16 : decode cX4_different 16 = .ok (.iload_n 2, 1) := by decide +kernel
theorem dX4_different_17 : decode cX4_different 17 = .ok (.invokevirtual 96, 3) := by decide +kernel
theorem dX4_different_20 : decode cX4_different 20 = .ok (.iconst 0, 1) := by decide +kernel
theorem dX4_different_21 : decode cX4_different 21 = .ok (.istore_n 3, 1) := by decide +kernel
theorem dX4_different_22 : decode cX4_different 22 = .ok (.iload_n 3, 1) := by decide +kernel
theorem dX4_different_23 : decode cX4_different 23 = .ok (.aload_n 0, 1) := by decide +kernel
theorem dX4_different_24 : decode cX4_different 24 = .ok (.getfield 35, 3) := by decide +kernel
theorem dX4_different_27 : decode cX4_different 27 = .ok (.iconst 0, 1) := by decide +kernel
theorem dX4_different_28 : decode cX4_different 28 = .ok (.iaload, 1) := by decide +kernel
theorem dX4_different_29 : decode cX4_different 29 = .ok (.if_icmp .ge 31, 3) := by decide +kernel
theorem dX4_different_32 : decode cX4_different 32 = .ok (.iload_n 1, 1) := by decide +kernel
theorem dX4_different_33 : decode cX4_different 33 = .ok (.aload_n 0, 1) := by decide +kernel
theorem dX4_different_34 : decode cX4_different 34 = .ok (.iload_n 2, 1) := by decide +kernel
theorem dX4_different_35 : decode cX4_different 35 = .ok (.aload_n 0, 1) := by decide +kernel
theorem dX4_different_36 : decode cX4_different 36 = .ok (.getfield 26, 3) := by decide +kernel
theorem dX4_different_39 : decode cX4_different 39 = .ok (.iload_n 3, 1) := by decide +kernel
theorem dX4_different_40 : decode cX4_different 40 = .ok (.iaload, 1) := by decide +kernel
theorem dX4_different_41 : decode cX4_different 41 = .ok (.invokevirtual 120, 3) := by decide +kernel
theorem dX4_different_44 : decode cX4_different 44 = .ok (.ifCond .eq 7, 3) := by decide +kernel
theorem dX4_different_47 : decode cX4_different 47 = .ok (.iconst 0, 1) := by decide +kernel
theorem dX4_different_48 : decode cX4_different 48 = .ok (.goto 4, 3) := by decide +kernel
theorem dX4_different_51 : decode cX4_different 51 = .ok (.iconst 1, 1) := by decide +kernel
theorem dX4_different_52 : decode cX4_different 52 = .ok (.iadd, 1) := by decide +kernel
theorem dX4_different_53 : decode cX4_different 53 = .ok (.istore_n 1, 1) := by decide +kernel
theorem dX4_different_54 : decode cX4_different 54 = .ok (.iinc 3 1, 3) := by decide +kernel
theorem dX4_different_57 : decode cX4_different 57 = .ok (.goto (-35), 3) := by decide +kernel
theorem dX4_different_60 : decode cX4_different 60 = .ok (.iinc 2 1, 3) := by decide +kernel
theorem dX4_different_63 : decode cX4_different 63 = .ok (.goto (-59), 3) := by decide +kernel
theorem dX4_different_66 : decode cX4_different 66 = .ok (.iload_n 1, 1) := by decide +kernel
theorem dX4_different_67 : decode cX4_different 67 = .ok (.ireturn, 1) := by decide +kernel
set_option maxRecDepth 20000 in
theorem ggX4_count_X4_different : GoodIn wsX4_count wsX4_different := goodIn_r _ [8, 1, 9, 10, 11, 12, 13, 7, 14, 15, 16, 17, 18, 19, 20, 21, 22, 23, 24, 25, 26, 27, 28, 29, 30, 31, 32, 33, 34, 35, 36, 37, 38, 39, 40, 41, 42, 43, 44, 45, 46, 47, 48, 49, 50, 51, 52] (by decide +kernel) (by decide +kernel)
set_option maxRecDepth 20000 in
theorem gX4_count_X4_different : GoodIn wsX4_count (wsV RX4 123 RX4 yX4_different wsX4_different) := goodIn_app (goodIn_of _ (by decide +kernel)) ggX4_count_X4_different
theorem dX4_count_0 : decode cX4_count 0 = .ok (.iload_n 1, 1) := by decide +kernel
theorem dX4_count_1 : decode cX4_count 1 = .ok (.tableswitch 78 0 7 #[47, 54, 54, 54, 54, 63, 68, 73], 47) := by decide +kernel
theorem dX4_count_48 : decode cX4_count 48 = .ok (.aload_n 0, 1) := by decide +kernel
theorem dX4_count_49 : decode cX4_count 49 = .ok (.getfield 7, 3) := by decide +kernel
theorem dX4_count_52 : decode cX4_count 52 = .ok (.iconst 4, 1) := by decide +kernel
theorem dX4_count_53 : decode cX4_count 53 = .ok (.iaload, 1) := by decide +kernel
theorem dX4_count_54 : decode cX4_count 54 = .ok (.ireturn, 1) := by decide +kernel
theorem dX4_count_55 : decode cX4_count 55 = .ok (.aload_n 0, 1) := by decide +kernel
theorem dX4_count_56 : decode cX4_count 56 = .ok (.getfield 7, 3) := by decide +kernel
theorem dX4_count_59 : decode cX4_count 59 = .ok (.iload_n 1, 1) := by decide +kernel
theorem dX4_count_60 : decode cX4_count 60 = .ok (.iconst 1, 1) := by decide +kernel
theorem dX4_count_61 : decode cX4_count 61 = .ok (.isub, 1) := by decide +kernel
theorem dX4_count_62 : decode cX4_count 62 = .ok (.iaload, 1) := by decide +kernel
theorem dX4_count_63 : decode cX4_count 63 = .ok (.ireturn, 1) := by decide +kernel
theorem dX4_count_64 : decode cX4_count 64 = .ok (.aload_n 0, 1) := by decide +kernel
theorem dX4_count_65 : decode cX4_count 65 = .ok (.invokevirtual 123, 3) := by decide +kernel
theorem dX4_count_68 : decode cX4_count 68 = .ok (.ireturn, 1) := by decide +kernel
theorem dX4_count_69 : decode cX4_count 69 = .ok (.aload_n 0, 1) := by decide +kernel
theorem dX4_count_70 : decode cX4_count 70 = .ok (.getfield 62, 3) := by decide +kernel
theorem dX4_count_73 : decode cX4_count 73 = .ok (.ireturn, 1) := by decide +kernel
theorem dX4_count_74 : decode cX4_count 74 = .ok (.aload_n 0, 1) := by decide +kernel
theorem dX4_count_75 : decode cX4_count 75 = .ok (.getfield 47, 3) := by decide +kernel
theorem dX4_count_78 : decode cX4_count 78 = .ok (.ireturn, 1) := by decide +kernel
theorem dX4_count_79 : decode cX4_count 79 = .ok (.bipush (-2), 2) := by decide +kernel
theorem dX4_count_81 : decode cX4_count 81 = .ok (.ireturn, 1) := by decide +kernel
set_option maxRecDepth 20000 in
theorem ggX4_told_X4_isRow : GoodIn wsX4_told wsX4_isRow := goodIn_r _ [8, 1, 9, 10, 7, 11, 57, 58, 59, 60, 61, 62, 63, 64, 65, 66, 67, 68, 69, 70, 71] (by decide +kernel) (by decide +kernel)
set_option maxRecDepth 20000 in
theorem gX4_told_X4_isRow : GoodIn wsX4_told (wsV RX4 43 RX4 yX4_isRow wsX4_isRow) := goodIn_app (goodIn_of _ (by decide +kernel)) ggX4_told_X4_isRow
set_option maxRecDepth 20000 in
theorem ggX4_told_X4_compare : GoodIn wsX4_told wsX4_compare := goodIn_r _ [15, 2, 3, 16, 17, 18, 19, 20, 21, 22, 7, 23, 1, 24, 25, 26, 27, 28, 29, 30, 31, 32, 33, 34, 35, 36, 37, 38, 39, 40, 41, 42, 57, 58, 59, 60, 61, 62, 63, 64, 65, 66, 67, 68, 69, 70, 71] (by decide +kernel) (by decide +kernel)
set_option maxRecDepth 20000 in
theorem gX4_told_X4_compare : GoodIn wsX4_told (wsV RX4 126 RX4 yX4_compare wsX4_compare) := goodIn_app (goodIn_of _ (by decide +kernel)) ggX4_told_X4_compare
set_option maxRecDepth 20000 in
theorem ggX4_told_X4_share : GoodIn wsX4_told wsX4_share := goodIn_r _ [45] (by decide +kernel) (by decide +kernel)
set_option maxRecDepth 20000 in
theorem gX4_told_X4_share : GoodIn wsX4_told (va_wsS RX4 111 yX4_share wsX4_share) := goodIn_app (goodIn_of _ (by decide +kernel)) ggX4_told_X4_share
set_option maxRecDepth 20000 in
theorem ggX4_told_X4_lower : GoodIn wsX4_told wsX4_lower := goodIn_r _ [49, 3, 16, 43, 44, 7, 45, 57, 58, 59, 60, 61, 62, 63, 64, 65, 66, 67, 68, 69, 70, 71] (by decide +kernel) (by decide +kernel)
set_option maxRecDepth 20000 in
theorem gX4_told_X4_lower : GoodIn wsX4_told (wsV RX4 130 RX4 yX4_lower wsX4_lower) := goodIn_app (goodIn_of _ (by decide +kernel)) ggX4_told_X4_lower
set_option maxRecDepth 20000 in
theorem ggX4_told_X4_upper : GoodIn wsX4_told wsX4_upper := goodIn_r _ [53, 3, 18, 16, 54, 55, 7, 56, 57, 58, 59, 60, 61, 62, 63, 64, 65, 66, 67, 68, 69, 70, 71] (by decide +kernel) (by decide +kernel)
set_option maxRecDepth 20000 in
theorem gX4_told_X4_upper : GoodIn wsX4_told (wsV RX4 133 RX4 yX4_upper wsX4_upper) := goodIn_app (goodIn_of _ (by decide +kernel)) ggX4_told_X4_upper
theorem dX4_told_0 : decode cX4_told 0 = .ok (.aload_n 0, 1) := by decide +kernel
theorem dX4_told_1 : decode cX4_told 1 = .ok (.iload_n 1, 1) := by decide +kernel
theorem dX4_told_2 : decode cX4_told 2 = .ok (.invokevirtual 43, 3) := by decide +kernel
theorem dX4_told_5 : decode cX4_told 5 = .ok (.ifCond .eq 11, 3) := by decide +kernel
theorem dX4_told_8 : decode cX4_told 8 = .ok (.aload_n 0, 1) := by decide +kernel
theorem dX4_told_9 : decode cX4_told 9 = .ok (.iload_n 2, 1) := by decide +kernel
theorem dX4_told_10 : decode cX4_told 10 = .ok (.invokevirtual 43, 3) := by decide +kernel
theorem dX4_told_13 : decode cX4_told 13 = .ok (.ifCond .ne 5, 3) := by decide +kernel
theorem dX4_told_16 : decode cX4_told 16 = .ok (.iconst (-1), 1) := by decide +kernel
theorem dX4_told_17 : decode cX4_told 17 = .ok (.ireturn, 1) := by decide +kernel
theorem dX4_told_18 : decode cX4_told 18 = .ok (.aload_n 0, 1) := by decide +kernel
theorem dX4_told_19 : decode cX4_told 19 = .ok (.iload_n 1, 1) := by decide +kernel
theorem dX4_told_20 : decode cX4_told 20 = .ok (.iload_n 2, 1) := by decide +kernel
theorem dX4_told_21 : decode cX4_told 21 = .ok (.aload_n 0, 1) := by decide +kernel
theorem dX4_told_22 : decode cX4_told 22 = .ok (.getfield 7, 3) := by decide +kernel
theorem dX4_told_25 : decode cX4_told 25 = .ok (.iconst 1, 1) := by decide +kernel
theorem dX4_told_26 : decode cX4_told 26 = .ok (.iaload, 1) := by decide +kernel
theorem dX4_told_27 : decode cX4_told 27 = .ok (.invokevirtual 126, 3) := by decide +kernel
theorem dX4_told_30 : decode cX4_told 30 = .ok (.iload_n 3, 1) := by decide +kernel
theorem dX4_told_31 : decode cX4_told 31 = .ok (.tableswitch 65 0 4 #[33, 38, 43, 55, 60], 33) := by decide +kernel
theorem dX4_told_64 : decode cX4_told 64 = .ok (.aload_n 0, 1) := by decide +kernel
theorem dX4_told_65 : decode cX4_told 65 = .ok (.getfield 99, 3) := by decide +kernel
theorem dX4_told_68 : decode cX4_told 68 = .ok (.ireturn, 1) := by decide +kernel
theorem dX4_told_69 : decode cX4_told 69 = .ok (.aload_n 0, 1) := by decide +kernel
theorem dX4_told_70 : decode cX4_told 70 = .ok (.getfield 102, 3) := by decide +kernel
theorem dX4_told_73 : decode cX4_told 73 = .ok (.ireturn, 1) := by decide +kernel
theorem dX4_told_74 : decode cX4_told 74 = .ok (.aload_n 0, 1) := by decide +kernel
theorem dX4_told_75 : decode cX4_told 75 = .ok (.getfield 102, 3) := by decide +kernel
theorem dX4_told_78 : decode cX4_told 78 = .ok (.aload_n 0, 1) := by decide +kernel
theorem dX4_told_79 : decode cX4_told 79 = .ok (.getfield 99, 3) := by decide +kernel
theorem dX4_told_82 : decode cX4_told 82 = .ok (.invokestatic 111, 3) := by decide +kernel
theorem dX4_told_85 : decode cX4_told 85 = .ok (.ireturn, 1) := by decide +kernel
theorem dX4_told_86 : decode cX4_told 86 = .ok (.aload_n 0, 1) := by decide +kernel
theorem dX4_told_87 : decode cX4_told 87 = .ok (.invokevirtual 130, 3) := by decide +kernel
theorem dX4_told_90 : decode cX4_told 90 = .ok (.ireturn, 1) := by decide +kernel
theorem dX4_told_91 : decode cX4_told 91 = .ok (.aload_n 0, 1) := by decide +kernel
theorem dX4_told_92 : decode cX4_told 92 = .ok (.invokevirtual 133, 3) := by decide +kernel
theorem dX4_told_95 : decode cX4_told 95 = .ok (.ireturn, 1) := by decide +kernel
theorem dX4_told_96 : decode cX4_told 96 = .ok (.bipush (-2), 2) := by decide +kernel
theorem dX4_told_98 : decode cX4_told 98 = .ok (.ireturn, 1) := by decide +kernel
set_option maxRecDepth 20000 in
theorem ggX4_exact_X4_isRow : GoodIn wsX4_exact wsX4_isRow := goodIn_r _ [7, 1, 8, 9, 6, 10, 50, 51, 52, 53, 54, 55, 56, 57, 58, 59, 60, 61, 62, 63, 64] (by decide +kernel) (by decide +kernel)
set_option maxRecDepth 20000 in
theorem gX4_exact_X4_isRow : GoodIn wsX4_exact (wsV RX4 43 RX4 yX4_isRow wsX4_isRow) := goodIn_app (goodIn_of _ (by decide +kernel)) ggX4_exact_X4_isRow
set_option maxRecDepth 20000 in
theorem ggX4_exact_X4_compare : GoodIn wsX4_exact wsX4_compare := goodIn_r _ [14, 15, 16, 17, 18, 19, 2, 20, 21, 22, 6, 23, 1, 24, 25, 26, 27, 28, 29, 30, 31, 32, 33, 34, 35, 36, 37, 38, 39, 40, 41, 42, 50, 51, 52, 53, 54, 55, 56, 57, 58, 59, 60, 61, 62, 63, 64] (by decide +kernel) (by decide +kernel)
set_option maxRecDepth 20000 in
theorem gX4_exact_X4_compare : GoodIn wsX4_exact (wsV RX4 126 RX4 yX4_compare wsX4_compare) := goodIn_app (goodIn_of _ (by decide +kernel)) ggX4_exact_X4_compare
set_option maxRecDepth 20000 in
theorem ggX4_exact_X4_either : GoodIn wsX4_exact wsX4_either := goodIn_r _ [46, 17, 2, 50, 51, 52, 53, 54, 55, 56, 57, 58, 59, 60, 61, 62, 63, 64] (by decide +kernel) (by decide +kernel)
set_option maxRecDepth 20000 in
theorem gX4_exact_X4_either : GoodIn wsX4_exact (wsV RX4 136 RX4 yX4_either wsX4_either) := goodIn_app (goodIn_of _ (by decide +kernel)) ggX4_exact_X4_either
set_option maxRecDepth 20000 in
theorem ggX4_exact_X4_share : GoodIn wsX4_exact wsX4_share := goodIn_r _ [49] (by decide +kernel) (by decide +kernel)
set_option maxRecDepth 20000 in
theorem gX4_exact_X4_share : GoodIn wsX4_exact (va_wsS RX4 111 yX4_share wsX4_share) := goodIn_app (goodIn_of _ (by decide +kernel)) ggX4_exact_X4_share
theorem dX4_exact_0 : decode cX4_exact 0 = .ok (.aload_n 0, 1) := by decide +kernel
theorem dX4_exact_1 : decode cX4_exact 1 = .ok (.iload_n 1, 1) := by decide +kernel
theorem dX4_exact_2 : decode cX4_exact 2 = .ok (.invokevirtual 43, 3) := by decide +kernel
theorem dX4_exact_5 : decode cX4_exact 5 = .ok (.ifCond .eq 11, 3) := by decide +kernel
theorem dX4_exact_8 : decode cX4_exact 8 = .ok (.aload_n 0, 1) := by decide +kernel
theorem dX4_exact_9 : decode cX4_exact 9 = .ok (.iload_n 2, 1) := by decide +kernel
theorem dX4_exact_10 : decode cX4_exact 10 = .ok (.invokevirtual 43, 3) := by decide +kernel
theorem dX4_exact_13 : decode cX4_exact 13 = .ok (.ifCond .ne 5, 3) := by decide +kernel
theorem dX4_exact_16 : decode cX4_exact 16 = .ok (.iconst (-1), 1) := by decide +kernel
theorem dX4_exact_17 : decode cX4_exact 17 = .ok (.ireturn, 1) := by decide +kernel
theorem dX4_exact_18 : decode cX4_exact 18 = .ok (.aload_n 0, 1) := by decide +kernel
theorem dX4_exact_19 : decode cX4_exact 19 = .ok (.iload_n 1, 1) := by decide +kernel
theorem dX4_exact_20 : decode cX4_exact 20 = .ok (.iload_n 2, 1) := by decide +kernel
theorem dX4_exact_21 : decode cX4_exact 21 = .ok (.aload_n 0, 1) := by decide +kernel
theorem dX4_exact_22 : decode cX4_exact 22 = .ok (.getfield 7, 3) := by decide +kernel
theorem dX4_exact_25 : decode cX4_exact 25 = .ok (.iconst 1, 1) := by decide +kernel
theorem dX4_exact_26 : decode cX4_exact 26 = .ok (.iaload, 1) := by decide +kernel
theorem dX4_exact_27 : decode cX4_exact 27 = .ok (.invokevirtual 126, 3) := by decide +kernel
theorem dX4_exact_30 : decode cX4_exact 30 = .ok (.iload_n 3, 1) := by decide +kernel
theorem dX4_exact_31 : decode cX4_exact 31 = .ok (.tableswitch 47 0 2 #[25, 30, 35], 25) := by decide +kernel
theorem dX4_exact_56 : decode cX4_exact 56 = .ok (.aload_n 0, 1) := by decide +kernel
theorem dX4_exact_57 : decode cX4_exact 57 = .ok (.invokevirtual 136, 3) := by decide +kernel
theorem dX4_exact_60 : decode cX4_exact 60 = .ok (.ireturn, 1) := by decide +kernel
theorem dX4_exact_61 : decode cX4_exact 61 = .ok (.aload_n 0, 1) := by decide +kernel
theorem dX4_exact_62 : decode cX4_exact 62 = .ok (.getfield 108, 3) := by decide +kernel
theorem dX4_exact_65 : decode cX4_exact 65 = .ok (.ireturn, 1) := by decide +kernel
theorem dX4_exact_66 : decode cX4_exact 66 = .ok (.aload_n 0, 1) := by decide +kernel
theorem dX4_exact_67 : decode cX4_exact 67 = .ok (.getfield 108, 3) := by decide +kernel
theorem dX4_exact_70 : decode cX4_exact 70 = .ok (.aload_n 0, 1) := by decide +kernel
theorem dX4_exact_71 : decode cX4_exact 71 = .ok (.invokevirtual 136, 3) := by decide +kernel
theorem dX4_exact_74 : decode cX4_exact 74 = .ok (.invokestatic 111, 3) := by decide +kernel
theorem dX4_exact_77 : decode cX4_exact 77 = .ok (.ireturn, 1) := by decide +kernel
theorem dX4_exact_78 : decode cX4_exact 78 = .ok (.bipush (-2), 2) := by decide +kernel
theorem dX4_exact_80 : decode cX4_exact 80 = .ok (.ireturn, 1) := by decide +kernel
set_option maxRecDepth 20000 in
theorem ggX4_inside_X4_isRow : GoodIn wsX4_inside wsX4_isRow := goodIn_r _ [10, 1, 11, 12, 9, 13, 49, 50, 51, 52, 53, 54, 55, 56, 57, 58, 59, 60, 61, 62, 63] (by decide +kernel) (by decide +kernel)
set_option maxRecDepth 20000 in
theorem gX4_inside_X4_isRow : GoodIn wsX4_inside (wsV RX4 43 RX4 yX4_isRow wsX4_isRow) := goodIn_app (goodIn_of _ (by decide +kernel)) ggX4_inside_X4_isRow
set_option maxRecDepth 20000 in
theorem ggX4_inside_X4_compare : GoodIn wsX4_inside wsX4_compare := goodIn_r _ [17, 18, 4, 3, 19, 5, 2, 20, 21, 22, 9, 23, 1, 24, 25, 26, 27, 28, 29, 30, 31, 32, 33, 34, 35, 36, 37, 38, 39, 40, 41, 42, 49, 50, 51, 52, 53, 54, 55, 56, 57, 58, 59, 60, 61, 62, 63] (by decide +kernel) (by decide +kernel)
set_option maxRecDepth 20000 in
theorem gX4_inside_X4_compare : GoodIn wsX4_inside (wsV RX4 126 RX4 yX4_compare wsX4_compare) := goodIn_app (goodIn_of _ (by decide +kernel)) ggX4_inside_X4_compare
set_option maxRecDepth 20000 in
theorem ggX4_inside_X4_share : GoodIn wsX4_inside wsX4_share := goodIn_r _ [45] (by decide +kernel) (by decide +kernel)
set_option maxRecDepth 20000 in
theorem gX4_inside_X4_share : GoodIn wsX4_inside (va_wsS RX4 111 yX4_share wsX4_share) := goodIn_app (goodIn_of _ (by decide +kernel)) ggX4_inside_X4_share
set_option maxRecDepth 20000 in
theorem ggX4_inside_X4_shareUp : GoodIn wsX4_inside wsX4_shareUp := goodIn_r _ [48] (by decide +kernel) (by decide +kernel)
set_option maxRecDepth 20000 in
theorem gX4_inside_X4_shareUp : GoodIn wsX4_inside (va_wsS RX4 114 yX4_shareUp wsX4_shareUp) := goodIn_app (goodIn_of _ (by decide +kernel)) ggX4_inside_X4_shareUp
theorem dX4_inside_0 : decode cX4_inside 0 = .ok (.aload_n 0, 1) := by decide +kernel
theorem dX4_inside_1 : decode cX4_inside 1 = .ok (.iload_n 1, 1) := by decide +kernel
theorem dX4_inside_2 : decode cX4_inside 2 = .ok (.invokevirtual 43, 3) := by decide +kernel
theorem dX4_inside_5 : decode cX4_inside 5 = .ok (.ifCond .eq 11, 3) := by decide +kernel
theorem dX4_inside_8 : decode cX4_inside 8 = .ok (.aload_n 0, 1) := by decide +kernel
theorem dX4_inside_9 : decode cX4_inside 9 = .ok (.iload_n 2, 1) := by decide +kernel
theorem dX4_inside_10 : decode cX4_inside 10 = .ok (.invokevirtual 43, 3) := by decide +kernel
theorem dX4_inside_13 : decode cX4_inside 13 = .ok (.ifCond .ne 5, 3) := by decide +kernel
theorem dX4_inside_16 : decode cX4_inside 16 = .ok (.iconst (-1), 1) := by decide +kernel
theorem dX4_inside_17 : decode cX4_inside 17 = .ok (.ireturn, 1) := by decide +kernel
theorem dX4_inside_18 : decode cX4_inside 18 = .ok (.aload_n 0, 1) := by decide +kernel
theorem dX4_inside_19 : decode cX4_inside 19 = .ok (.iload_n 1, 1) := by decide +kernel
theorem dX4_inside_20 : decode cX4_inside 20 = .ok (.iload_n 2, 1) := by decide +kernel
theorem dX4_inside_21 : decode cX4_inside 21 = .ok (.aload_n 0, 1) := by decide +kernel
theorem dX4_inside_22 : decode cX4_inside 22 = .ok (.getfield 7, 3) := by decide +kernel
theorem dX4_inside_25 : decode cX4_inside 25 = .ok (.iconst 1, 1) := by decide +kernel
theorem dX4_inside_26 : decode cX4_inside 26 = .ok (.iaload, 1) := by decide +kernel
theorem dX4_inside_27 : decode cX4_inside 27 = .ok (.invokevirtual 126, 3) := by decide +kernel
theorem dX4_inside_30 : decode cX4_inside 30 = .ok (.iload_n 3, 1) := by decide +kernel
theorem dX4_inside_31 : decode cX4_inside 31 = .ok (.tableswitch 72 0 2 #[25, 39, 53], 25) := by decide +kernel
theorem dX4_inside_56 : decode cX4_inside 56 = .ok (.aload_n 0, 1) := by decide +kernel
theorem dX4_inside_57 : decode cX4_inside 57 = .ok (.getfield 108, 3) := by decide +kernel
theorem dX4_inside_60 : decode cX4_inside 60 = .ok (.aload_n 0, 1) := by decide +kernel
theorem dX4_inside_61 : decode cX4_inside 61 = .ok (.getfield 35, 3) := by decide +kernel
theorem dX4_inside_64 : decode cX4_inside 64 = .ok (.iconst 0, 1) := by decide +kernel
theorem dX4_inside_65 : decode cX4_inside 65 = .ok (.iaload, 1) := by decide +kernel
theorem dX4_inside_66 : decode cX4_inside 66 = .ok (.invokestatic 111, 3) := by decide +kernel
theorem dX4_inside_69 : decode cX4_inside 69 = .ok (.ireturn, 1) := by decide +kernel
theorem dX4_inside_70 : decode cX4_inside 70 = .ok (.aload_n 0, 1) := by decide +kernel
theorem dX4_inside_71 : decode cX4_inside 71 = .ok (.getfield 102, 3) := by decide +kernel
theorem dX4_inside_74 : decode cX4_inside 74 = .ok (.aload_n 0, 1) := by decide +kernel
theorem dX4_inside_75 : decode cX4_inside 75 = .ok (.getfield 35, 3) := by decide +kernel
theorem dX4_inside_78 : decode cX4_inside 78 = .ok (.iconst 0, 1) := by decide +kernel
theorem dX4_inside_79 : decode cX4_inside 79 = .ok (.iaload, 1) := by decide +kernel
theorem dX4_inside_80 : decode cX4_inside 80 = .ok (.invokestatic 111, 3) := by decide +kernel
theorem dX4_inside_83 : decode cX4_inside 83 = .ok (.ireturn, 1) := by decide +kernel
theorem dX4_inside_84 : decode cX4_inside 84 = .ok (.aload_n 0, 1) := by decide +kernel
theorem dX4_inside_85 : decode cX4_inside 85 = .ok (.getfield 102, 3) := by decide +kernel
theorem dX4_inside_88 : decode cX4_inside 88 = .ok (.aload_n 0, 1) := by decide +kernel
theorem dX4_inside_89 : decode cX4_inside 89 = .ok (.getfield 105, 3) := by decide +kernel
theorem dX4_inside_92 : decode cX4_inside 92 = .ok (.iadd, 1) := by decide +kernel
theorem dX4_inside_93 : decode cX4_inside 93 = .ok (.aload_n 0, 1) := by decide +kernel
theorem dX4_inside_94 : decode cX4_inside 94 = .ok (.getfield 35, 3) := by decide +kernel
theorem dX4_inside_97 : decode cX4_inside 97 = .ok (.iconst 0, 1) := by decide +kernel
theorem dX4_inside_98 : decode cX4_inside 98 = .ok (.iaload, 1) := by decide +kernel
theorem dX4_inside_99 : decode cX4_inside 99 = .ok (.invokestatic 114, 3) := by decide +kernel
theorem dX4_inside_102 : decode cX4_inside 102 = .ok (.ireturn, 1) := by decide +kernel
theorem dX4_inside_103 : decode cX4_inside 103 = .ok (.bipush (-2), 2) := by decide +kernel
theorem dX4_inside_105 : decode cX4_inside 105 = .ok (.ireturn, 1) := by decide +kernel
set_option maxRecDepth 20000 in
theorem ggX4_nearest_X4_isRow : GoodIn wsX4_nearest wsX4_isRow := goodIn_r _ [9, 1, 10, 11, 8, 12, 50, 51, 52, 53, 54, 55, 56, 57, 58, 59, 60, 61, 62, 63, 64] (by decide +kernel) (by decide +kernel)
set_option maxRecDepth 20000 in
theorem gX4_nearest_X4_isRow : GoodIn wsX4_nearest (wsV RX4 43 RX4 yX4_isRow wsX4_isRow) := goodIn_app (goodIn_of _ (by decide +kernel)) ggX4_nearest_X4_isRow
set_option maxRecDepth 20000 in
theorem ggX4_nearest_X4_in : GoodIn wsX4_nearest wsX4_in := goodIn_r _ [12] (by decide +kernel) (by decide +kernel)
set_option maxRecDepth 20000 in
theorem gX4_nearest_X4_in : GoodIn wsX4_nearest (va_wsS RX4 39 yX4_in wsX4_in) := goodIn_app (goodIn_of _ (by decide +kernel)) ggX4_nearest_X4_in
set_option maxRecDepth 20000 in
theorem ggX4_nearest_X4_compare : GoodIn wsX4_nearest wsX4_compare := goodIn_r _ [16, 3, 2, 17, 18, 19, 4, 20, 21, 22, 8, 23, 1, 24, 25, 26, 27, 28, 29, 30, 31, 32, 33, 34, 35, 36, 37, 38, 39, 40, 41, 42, 50, 51, 52, 53, 54, 55, 56, 57, 58, 59, 60, 61, 62, 63, 64] (by decide +kernel) (by decide +kernel)
set_option maxRecDepth 20000 in
theorem gX4_nearest_X4_compare : GoodIn wsX4_nearest (wsV RX4 126 RX4 yX4_compare wsX4_compare) := goodIn_app (goodIn_of _ (by decide +kernel)) ggX4_nearest_X4_compare
set_option maxRecDepth 20000 in
theorem ggX4_nearest_X4_share : GoodIn wsX4_nearest wsX4_share := goodIn_r _ [45] (by decide +kernel) (by decide +kernel)
set_option maxRecDepth 20000 in
theorem gX4_nearest_X4_share : GoodIn wsX4_nearest (va_wsS RX4 111 yX4_share wsX4_share) := goodIn_app (goodIn_of _ (by decide +kernel)) ggX4_nearest_X4_share
set_option maxRecDepth 20000 in
theorem ggX4_nearest_X4_either : GoodIn wsX4_nearest wsX4_either := goodIn_r _ [49, 17, 4, 50, 51, 52, 53, 54, 55, 56, 57, 58, 59, 60, 61, 62, 63, 64] (by decide +kernel) (by decide +kernel)
set_option maxRecDepth 20000 in
theorem gX4_nearest_X4_either : GoodIn wsX4_nearest (wsV RX4 136 RX4 yX4_either wsX4_either) := goodIn_app (goodIn_of _ (by decide +kernel)) ggX4_nearest_X4_either
theorem dX4_nearest_0 : decode cX4_nearest 0 = .ok (.aload_n 0, 1) := by decide +kernel
theorem dX4_nearest_1 : decode cX4_nearest 1 = .ok (.iload_n 1, 1) := by decide +kernel
theorem dX4_nearest_2 : decode cX4_nearest 2 = .ok (.invokevirtual 43, 3) := by decide +kernel
theorem dX4_nearest_5 : decode cX4_nearest 5 = .ok (.ifCond .ne 5, 3) := by decide +kernel
theorem dX4_nearest_8 : decode cX4_nearest 8 = .ok (.iconst (-1), 1) := by decide +kernel
theorem dX4_nearest_9 : decode cX4_nearest 9 = .ok (.ireturn, 1) := by decide +kernel
theorem dX4_nearest_10 : decode cX4_nearest 10 = .ok (.iload_n 2, 1) := by decide +kernel
theorem dX4_nearest_11 : decode cX4_nearest 11 = .ok (.iconst 0, 1) := by decide +kernel
theorem dX4_nearest_12 : decode cX4_nearest 12 = .ok (.iconst 1, 1) := by decide +kernel
theorem dX4_nearest_13 : decode cX4_nearest 13 = .ok (.invokestatic 39, 3) := by decide +kernel
theorem dX4_nearest_16 : decode cX4_nearest 16 = .ok (.ifCond .ne 6, 3) := by decide +kernel
theorem dX4_nearest_19 : decode cX4_nearest 19 = .ok (.bipush (-2), 2) := by decide +kernel
theorem dX4_nearest_21 : decode cX4_nearest 21 = .ok (.ireturn, 1) := by decide +kernel
theorem dX4_nearest_22 : decode cX4_nearest 22 = .ok (.bipush (-6), 2) := by decide +kernel
theorem dX4_nearest_24 : decode cX4_nearest 24 = .ok (.istore_n 3, 1) := by decide +kernel
theorem dX4_nearest_25 : decode cX4_nearest 25 = .ok (.iconst (-1), 1) := by decide +kernel
theorem dX4_nearest_26 : decode cX4_nearest 26 = .ok (.istore 4, 2) := by decide +kernel
theorem dX4_nearest_28 : decode cX4_nearest 28 = .ok (.iconst 0, 1) := by decide +kernel
theorem dX4_nearest_29 : decode cX4_nearest 29 = .ok (.istore 5, 2) := by decide +kernel
theorem dX4_nearest_31 : decode cX4_nearest 31 = .ok (.iload 5, 2) := by decide +kernel
theorem dX4_nearest_33 : decode cX4_nearest 33 = .ok (.aload_n 0, 1) := by decide +kernel
theorem dX4_nearest_34 : decode cX4_nearest 34 = .ok (.getfield 7, 3) := by decide +kernel
theorem dX4_nearest_37 : decode cX4_nearest 37 = .ok (.iconst 4, 1) := by decide +kernel
theorem dX4_nearest_38 : decode cX4_nearest 38 = .ok (.iaload, 1) := by decide +kernel
theorem dX4_nearest_39 : decode cX4_nearest 39 = .ok (.if_icmp .ge 89, 3) := by decide +kernel
theorem dX4_nearest_42 : decode cX4_nearest 42 = .ok (.iload 5, 2) := by decide +kernel
theorem dX4_nearest_44 : decode cX4_nearest 44 = .ok (.iload_n 1, 1) := by decide +kernel
theorem dX4_nearest_45 : decode cX4_nearest 45 = .ok (.if_icmp .eq 77, 3) := by decide +kernel
theorem dX4_nearest_48 : decode cX4_nearest 48 = .ok (.aload_n 0, 1) := by decide +kernel
theorem dX4_nearest_49 : decode cX4_nearest 49 = .ok (.iload_n 1, 1) := by decide +kernel
theorem dX4_nearest_50 : decode cX4_nearest 50 = .ok (.iload 5, 2) := by decide +kernel
theorem dX4_nearest_52 : decode cX4_nearest 52 = .ok (.aload_n 0, 1) := by decide +kernel
theorem dX4_nearest_53 : decode cX4_nearest 53 = .ok (.getfield 7, 3) := by decide +kernel
theorem dX4_nearest_56 : decode cX4_nearest 56 = .ok (.iconst 1, 1) := by decide +kernel
theorem dX4_nearest_57 : decode cX4_nearest 57 = .ok (.iaload, 1) := by decide +kernel
theorem dX4_nearest_58 : decode cX4_nearest 58 = .ok (.invokevirtual 126, 3) := by decide +kernel
theorem dX4_nearest_61 : decode cX4_nearest 61 = .ok (.iload_n 2, 1) := by decide +kernel
theorem dX4_nearest_62 : decode cX4_nearest 62 = .ok (.ifCond .ne 17, 3) := by decide +kernel
theorem dX4_nearest_65 : decode cX4_nearest 65 = .ok (.aload_n 0, 1) := by decide +kernel
theorem dX4_nearest_66 : decode cX4_nearest 66 = .ok (.getfield 102, 3) := by decide +kernel
theorem dX4_nearest_69 : decode cX4_nearest 69 = .ok (.aload_n 0, 1) := by decide +kernel
theorem dX4_nearest_70 : decode cX4_nearest 70 = .ok (.getfield 99, 3) := by decide +kernel
theorem dX4_nearest_73 : decode cX4_nearest 73 = .ok (.invokestatic 111, 3) := by decide +kernel
theorem dX4_nearest_76 : decode cX4_nearest 76 = .ok (.goto 14, 3) := by decide +kernel
theorem dX4_nearest_79 : decode cX4_nearest 79 = .ok (.aload_n 0, 1) := by decide +kernel
theorem dX4_nearest_80 : decode cX4_nearest 80 = .ok (.getfield 108, 3) := by decide +kernel
theorem dX4_nearest_83 : decode cX4_nearest 83 = .ok (.aload_n 0, 1) := by decide +kernel
theorem dX4_nearest_84 : decode cX4_nearest 84 = .ok (.invokevirtual 136, 3) := by decide +kernel
theorem dX4_nearest_87 : decode cX4_nearest 87 = .ok (.invokestatic 111, 3) := by decide +kernel
theorem dX4_nearest_90 : decode cX4_nearest 90 = .ok (.istore 6, 2) := by decide +kernel
theorem dX4_nearest_92 : decode cX4_nearest 92 = .ok (.iload 6, 2) := by decide +kernel
theorem dX4_nearest_94 : decode cX4_nearest 94 = .ok (.iload 4, 2) := by decide +kernel
theorem dX4_nearest_96 : decode cX4_nearest 96 = .ok (.if_icmp .le 8, 3) := by decide +kernel
theorem dX4_nearest_99 : decode cX4_nearest 99 = .ok (.iload 5, 2) := by decide +kernel
theorem dX4_nearest_101 : decode cX4_nearest 101 = .ok (.goto 4, 3) := by decide +kernel
theorem dX4_nearest_104 : decode cX4_nearest 104 = .ok (.iload_n 3, 1) := by decide +kernel
theorem dX4_nearest_105 : decode cX4_nearest 105 = .ok (.istore_n 3, 1) := by decide +kernel
theorem dX4_nearest_106 : decode cX4_nearest 106 = .ok (.iload 6, 2) := by decide +kernel
theorem dX4_nearest_108 : decode cX4_nearest 108 = .ok (.iload 4, 2) := by decide +kernel
theorem dX4_nearest_110 : decode cX4_nearest 110 = .ok (.if_icmp .le 8, 3) := by decide +kernel
theorem dX4_nearest_113 : decode cX4_nearest 113 = .ok (.iload 6, 2) := by decide +kernel
theorem dX4_nearest_115 : decode cX4_nearest 115 = .ok (.goto 5, 3) := by decide +kernel
theorem dX4_nearest_118 : decode cX4_nearest 118 = .ok (.iload 4, 2) := by decide +kernel
theorem dX4_nearest_120 : decode cX4_nearest 120 = .ok (.istore 4, 2) := by decide +kernel
theorem dX4_nearest_122 : decode cX4_nearest 122 = .ok (.iinc 5 1, 3) := by decide +kernel
theorem dX4_nearest_125 : decode cX4_nearest 125 = .ok (.goto (-94), 3) := by decide +kernel
theorem dX4_nearest_128 : decode cX4_nearest 128 = .ok (.iload_n 3, 1) := by decide +kernel
theorem dX4_nearest_129 : decode cX4_nearest 129 = .ok (.ireturn, 1) := by decide +kernel
set_option maxRecDepth 20000 in
theorem ggX4_candidates_X4_isRow : GoodIn wsX4_candidates wsX4_isRow := goodIn_r _ [6, 1, 7, 8, 5, 9, 57, 58, 59, 60, 61, 62, 63, 64, 65, 66, 67, 68, 69, 70, 71] (by decide +kernel) (by decide +kernel)
set_option maxRecDepth 20000 in
theorem gX4_candidates_X4_isRow : GoodIn wsX4_candidates (wsV RX4 43 RX4 yX4_isRow wsX4_isRow) := goodIn_app (goodIn_of _ (by decide +kernel)) ggX4_candidates_X4_isRow
set_option maxRecDepth 20000 in
theorem ggX4_candidates_X4_compare : GoodIn wsX4_candidates wsX4_compare := goodIn_r _ [13, 14, 15, 16, 17, 18, 19, 20, 21, 22, 5, 23, 1, 24, 25, 26, 27, 28, 29, 30, 31, 32, 33, 34, 35, 36, 37, 38, 39, 40, 41, 42, 57, 58, 59, 60, 61, 62, 63, 64, 65, 66, 67, 68, 69, 70, 71] (by decide +kernel) (by decide +kernel)
set_option maxRecDepth 20000 in
theorem gX4_candidates_X4_compare : GoodIn wsX4_candidates (wsV RX4 126 RX4 yX4_compare wsX4_compare) := goodIn_app (goodIn_of _ (by decide +kernel)) ggX4_candidates_X4_compare
set_option maxRecDepth 20000 in
theorem ggX4_candidates_X4_lower : GoodIn wsX4_candidates wsX4_lower := goodIn_r _ [46, 15, 16, 47, 48, 5, 49, 57, 58, 59, 60, 61, 62, 63, 64, 65, 66, 67, 68, 69, 70, 71] (by decide +kernel) (by decide +kernel)
set_option maxRecDepth 20000 in
theorem gX4_candidates_X4_lower : GoodIn wsX4_candidates (wsV RX4 130 RX4 yX4_lower wsX4_lower) := goodIn_app (goodIn_of _ (by decide +kernel)) ggX4_candidates_X4_lower
set_option maxRecDepth 20000 in
theorem ggX4_candidates_X4_upper : GoodIn wsX4_candidates wsX4_upper := goodIn_r _ [53, 15, 18, 16, 54, 55, 5, 56, 57, 58, 59, 60, 61, 62, 63, 64, 65, 66, 67, 68, 69, 70, 71] (by decide +kernel) (by decide +kernel)
set_option maxRecDepth 20000 in
theorem gX4_candidates_X4_upper : GoodIn wsX4_candidates (wsV RX4 133 RX4 yX4_upper wsX4_upper) := goodIn_app (goodIn_of _ (by decide +kernel)) ggX4_candidates_X4_upper
theorem dX4_candidates_0 : decode cX4_candidates 0 = .ok (.aload_n 0, 1) := by decide +kernel
theorem dX4_candidates_1 : decode cX4_candidates 1 = .ok (.iload_n 1, 1) := by decide +kernel
theorem dX4_candidates_2 : decode cX4_candidates 2 = .ok (.invokevirtual 43, 3) := by decide +kernel
theorem dX4_candidates_5 : decode cX4_candidates 5 = .ok (.ifCond .ne 5, 3) := by decide +kernel
theorem dX4_candidates_8 : decode cX4_candidates 8 = .ok (.iconst (-1), 1) := by decide +kernel
theorem dX4_candidates_9 : decode cX4_candidates 9 = .ok (.ireturn, 1) := by decide +kernel
theorem dX4_candidates_10 : decode cX4_candidates 10 = .ok (.iconst 0, 1) := by decide +kernel
theorem dX4_candidates_11 : decode cX4_candidates 11 = .ok (.istore_n 2, 1) := by decide +kernel
theorem dX4_candidates_12 : decode cX4_candidates 12 = .ok (.iconst 0, 1) := by decide +kernel
theorem dX4_candidates_13 : decode cX4_candidates 13 = .ok (.istore_n 3, 1) := by decide +kernel
theorem dX4_candidates_14 : decode cX4_candidates 14 = .ok (.iload_n 3, 1) := by decide +kernel
theorem dX4_candidates_15 : decode cX4_candidates 15 = .ok (.aload_n 0, 1) := by decide +kernel
theorem dX4_candidates_16 : decode cX4_candidates 16 = .ok (.getfield 7, 3) := by decide +kernel
theorem dX4_candidates_19 : decode cX4_candidates 19 = .ok (.iconst 4, 1) := by decide +kernel
theorem dX4_candidates_20 : decode cX4_candidates 20 = .ok (.iaload, 1) := by decide +kernel
theorem dX4_candidates_21 : decode cX4_candidates 21 = .ok (.if_icmp .ge 43, 3) := by decide +kernel
theorem dX4_candidates_24 : decode cX4_candidates 24 = .ok (.iload_n 3, 1) := by decide +kernel
theorem dX4_candidates_25 : decode cX4_candidates 25 = .ok (.iload_n 1, 1) := by decide +kernel
theorem dX4_candidates_26 : decode cX4_candidates 26 = .ok (.if_icmp .eq 32, 3) := by decide +kernel
theorem dX4_candidates_29 : decode cX4_candidates 29 = .ok (.aload_n 0, 1) := by decide +kernel
theorem dX4_candidates_30 : decode cX4_candidates 30 = .ok (.iload_n 1, 1) := by decide +kernel
theorem dX4_candidates_31 : decode cX4_candidates 31 = .ok (.iload_n 3, 1) := by decide +kernel
theorem dX4_candidates_32 : decode cX4_candidates 32 = .ok (.aload_n 0, 1) := by decide +kernel
theorem dX4_candidates_33 : decode cX4_candidates 33 = .ok (.getfield 7, 3) := by decide +kernel
theorem dX4_candidates_36 : decode cX4_candidates 36 = .ok (.iconst 1, 1) := by decide +kernel
theorem dX4_candidates_37 : decode cX4_candidates 37 = .ok (.iaload, 1) := by decide +kernel
theorem dX4_candidates_38 : decode cX4_candidates 38 = .ok (.invokevirtual 126, 3) := by decide +kernel
theorem dX4_candidates_41 : decode cX4_candidates 41 = .ok (.aload_n 0, 1) := by decide +kernel
theorem dX4_candidates_42 : decode cX4_candidates 42 = .ok (.invokevirtual 130, 3) := by decide +kernel
theorem dX4_candidates_45 : decode cX4_candidates 45 = .ok (.iload_n 2, 1) := by decide +kernel
theorem dX4_candidates_46 : decode cX4_candidates 46 = .ok (.if_icmp .le 10, 3) := by decide +kernel
theorem dX4_candidates_49 : decode cX4_candidates 49 = .ok (.aload_n 0, 1) := by decide +kernel
theorem dX4_candidates_50 : decode cX4_candidates 50 = .ok (.invokevirtual 130, 3) := by decide +kernel
theorem dX4_candidates_53 : decode cX4_candidates 53 = .ok (.goto 4, 3) := by decide +kernel
theorem dX4_candidates_56 : decode cX4_candidates 56 = .ok (.iload_n 2, 1) := by decide +kernel
theorem dX4_candidates_57 : decode cX4_candidates 57 = .ok (.istore_n 2, 1) := by decide +kernel
theorem dX4_candidates_58 : decode cX4_candidates 58 = .ok (.iinc 3 1, 3) := by decide +kernel
theorem dX4_candidates_61 : decode cX4_candidates 61 = .ok (.goto (-47), 3) := by decide +kernel
theorem dX4_candidates_64 : decode cX4_candidates 64 = .ok (.iconst 0, 1) := by decide +kernel
theorem dX4_candidates_65 : decode cX4_candidates 65 = .ok (.istore_n 3, 1) := by decide +kernel
theorem dX4_candidates_66 : decode cX4_candidates 66 = .ok (.iconst 0, 1) := by decide +kernel
theorem dX4_candidates_67 : decode cX4_candidates 67 = .ok (.istore 4, 2) := by decide +kernel
theorem dX4_candidates_69 : decode cX4_candidates 69 = .ok (.iload 4, 2) := by decide +kernel
theorem dX4_candidates_71 : decode cX4_candidates 71 = .ok (.aload_n 0, 1) := by decide +kernel
theorem dX4_candidates_72 : decode cX4_candidates 72 = .ok (.getfield 7, 3) := by decide +kernel
theorem dX4_candidates_75 : decode cX4_candidates 75 = .ok (.iconst 4, 1) := by decide +kernel
theorem dX4_candidates_76 : decode cX4_candidates 76 = .ok (.iaload, 1) := by decide +kernel
theorem dX4_candidates_77 : decode cX4_candidates 77 = .ok (.if_icmp .ge 47, 3) := by decide +kernel
theorem dX4_candidates_80 : decode cX4_candidates 80 = .ok (.iload 4, 2) := by decide +kernel
theorem dX4_candidates_82 : decode cX4_candidates 82 = .ok (.iload_n 1, 1) := by decide +kernel
theorem dX4_candidates_83 : decode cX4_candidates 83 = .ok (.if_icmp .eq 35, 3) := by decide +kernel
theorem dX4_candidates_86 : decode cX4_candidates 86 = .ok (.aload_n 0, 1) := by decide +kernel
theorem dX4_candidates_87 : decode cX4_candidates 87 = .ok (.iload_n 1, 1) := by decide +kernel
theorem dX4_candidates_88 : decode cX4_candidates 88 = .ok (.iload 4, 2) := by decide +kernel
theorem dX4_candidates_90 : decode cX4_candidates 90 = .ok (.aload_n 0, 1) := by decide +kernel
