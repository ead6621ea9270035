theorem dX0_init_0 : decode cX0_init 0 = .ok (.aload_n 0, 1) := by decide +kernel
theorem dX0_init_1 : decode cX0_init 1 = .ok (.invokespecial 3, 3) := by decide +kernel
theorem dX0_init_4 : decode cX0_init 4 = .ok (.aload_n 0, 1) := by decide +kernel
theorem dX0_init_5 : decode cX0_init 5 = .ok (.bipush 33, 2) := by decide +kernel
theorem dX0_init_7 : decode cX0_init 7 = .ok (.newarray .int, 2) := by decide +kernel
theorem dX0_init_9 : decode cX0_init 9 = .ok (.putfield 9, 3) := by decide +kernel
theorem dX0_init_12 : decode cX0_init 12 = .ok (.aload_n 0, 1) := by decide +kernel
theorem dX0_init_13 : decode cX0_init 13 = .ok (.bipush 33, 2) := by decide +kernel
theorem dX0_init_15 : decode cX0_init 15 = .ok (.newarray .int, 2) := by decide +kernel
theorem dX0_init_17 : decode cX0_init 17 = .ok (.putfield 15, 3) := by decide +kernel
theorem dX0_init_20 : decode cX0_init 20 = .ok (.aload_n 0, 1) := by decide +kernel
theorem dX0_init_21 : decode cX0_init 21 = .ok (.bipush 33, 2) := by decide +kernel
theorem dX0_init_23 : decode cX0_init 23 = .ok (.newarray .int, 2) := by decide +kernel
theorem dX0_init_25 : decode cX0_init 25 = .ok (.putfield 18, 3) := by decide +kernel
theorem dX0_init_28 : decode cX0_init 28 = .ok (.aload_n 0, 1) := by decide +kernel
theorem dX0_init_29 : decode cX0_init 29 = .ok (.iconst 0, 1) := by decide +kernel
theorem dX0_init_30 : decode cX0_init 30 = .ok (.putfield 21, 3) := by decide +kernel
theorem dX0_init_33 : decode cX0_init 33 = .ok (.aload_n 0, 1) := by decide +kernel
theorem dX0_init_34 : decode cX0_init 34 = .ok (.iconst 0, 1) := by decide +kernel
theorem dX0_init_35 : decode cX0_init 35 = .ok (.putfield 25, 3) := by decide +kernel
theorem dX0_init_38 : decode cX0_init 38 = .ok (.aload_n 0, 1) := by decide +kernel
theorem dX0_init_39 : decode cX0_init 39 = .ok (.iconst 0, 1) := by decide +kernel
theorem dX0_init_40 : decode cX0_init 40 = .ok (.putfield 28, 3) := by decide +kernel
theorem dX0_init_43 : decode cX0_init 43 = .ok (.aload_n 0, 1) := by decide +kernel
theorem dX0_init_44 : decode cX0_init 44 = .ok (.iconst 0, 1) := by decide +kernel
theorem dX0_init_45 : decode cX0_init 45 = .ok (.putfield 31, 3) := by decide +kernel
theorem dX0_init_48 : decode cX0_init 48 = .ok (.return_, 1) := by decide +kernel
set_option maxRecDepth 20000 in
theorem ggX0_measure_X2_valueAt : GoodIn wsX0_measure wsX2_valueAt := goodIn_r _ [14, 15, 16, 17, 18, 19, 20, 21] (by decide +kernel) (by decide +kernel)
set_option maxRecDepth 20000 in
theorem gX0_measure_X2_valueAt : GoodIn wsX0_measure (wsV RX0 39 RX2 yX2_valueAt wsX2_valueAt) := goodIn_app (goodIn_of _ (by decide +kernel)) ggX0_measure_X2_valueAt
theorem dX0_measure_0 : decode cX0_measure 0 = .ok (.aload_n 0, 1) := by decide +kernel
theorem dX0_measure_1 : decode cX0_measure 1 = .ok (.aload_n 1, 1) := by decide +kernel
theorem dX0_measure_2 : decode cX0_measure 2 = .ok (.getfield 34, 3) := by decide +kernel
theorem dX0_measure_5 : decode cX0_measure 5 = .ok (.putfield 21, 3) := by decide +kernel
theorem dX0_measure_8 : decode cX0_measure 8 = .ok (.aload_n 0, 1) := by decide +kernel
theorem dX0_measure_9 : decode cX0_measure 9 = .ok (.aload_n 2, 1) := by decide +kernel
theorem dX0_measure_10 : decode cX0_measure 10 = .ok (.getfield 34, 3) := by decide +kernel
theorem dX0_measure_13 : decode cX0_measure 13 = .ok (.putfield 25, 3) := by decide +kernel
theorem dX0_measure_16 : decode cX0_measure 16 = .ok (.aload_n 0, 1) := by decide +kernel
theorem dX0_measure_17 : decode cX0_measure 17 = .ok (.iconst 0, 1) := by decide +kernel
theorem dX0_measure_18 : decode cX0_measure 18 = .ok (.putfield 28, 3) := by decide +kernel
theorem dX0_measure_21 : decode cX0_measure 21 = .ok (.aload_n 0, 1) := by decide +kernel
theorem dX0_measure_22 : decode cX0_measure 22 = .ok (.iconst 0, 1) := by decide +kernel
theorem dX0_measure_23 : decode cX0_measure 23 = .ok (.putfield 31, 3) := by decide +kernel
theorem dX0_measure_26 : decode cX0_measure 26 = .ok (.iconst 0, 1) := by decide +kernel
theorem dX0_measure_27 : decode cX0_measure 27 = .ok (.istore_n 3, 1) := by decide +kernel
theorem dX0_measure_28 : decode cX0_measure 28 = .ok (.iconst 0, 1) := by decide +kernel
theorem dX0_measure_29 : decode cX0_measure 29 = .ok (.istore 4, 2) := by decide +kernel
theorem dX0_measure_31 : decode cX0_measure 31 = .ok (.iconst 0, 1) := by decide +kernel
theorem dX0_measure_32 : decode cX0_measure 32 = .ok (.istore 5, 2) := by decide +kernel
theorem dX0_measure_34 : decode cX0_measure 34 = .ok (.iload 5, 2) := by decide +kernel
theorem dX0_measure_36 : decode cX0_measure 36 = .ok (.aload_n 0, 1) := by decide +kernel
theorem dX0_measure_37 : decode cX0_measure 37 = .ok (.getfield 21, 3) := by decide +kernel
theorem dX0_measure_40 : decode cX0_measure 40 = .ok (.aload_n 0, 1) := by decide +kernel
theorem dX0_measure_41 : decode cX0_measure 41 = .ok (.getfield 25, 3) := by decide +kernel
theorem dX0_measure_44 : decode cX0_measure 44 = .ok (.iadd, 1) := by decide +kernel
theorem dX0_measure_45 : decode cX0_measure 45 = .ok (.if_icmp .ge 147, 3) := by decide +kernel
theorem dX0_measure_48 : decode cX0_measure 48 = .ok (.aload_n 1, 1) := by decide +kernel
theorem dX0_measure_49 : decode cX0_measure 49 = .ok (.iload_n 3, 1) := by decide +kernel
theorem dX0_measure_50 : decode cX0_measure 50 = .ok (.invokevirtual 39, 3) := by decide +kernel
theorem dX0_measure_53 : decode cX0_measure 53 = .ok (.istore 6, 2) := by decide +kernel
theorem dX0_measure_55 : decode cX0_measure 55 = .ok (.aload_n 2, 1) := by decide +kernel
theorem dX0_measure_56 : decode cX0_measure 56 = .ok (.iload 4, 2) := by decide +kernel
theorem dX0_measure_58 : decode cX0_measure 58 = .ok (.invokevirtual 39, 3) := by decide +kernel
theorem dX0_measure_61 : decode cX0_measure 61 = .ok (.istore 7, 2) := by decide +kernel
theorem dX0_measure_63 : decode cX0_measure 63 = .ok (.iload 6, 2) := by decide +kernel
theorem dX0_measure_65 : decode cX0_measure 65 = .ok (.ldc 43, 2) := by decide +kernel
theorem dX0_measure_67 : decode cX0_measure 67 = .ok (.if_icmp .ne 13, 3) := by decide +kernel
theorem dX0_measure_70 : decode cX0_measure 70 = .ok (.iload 7, 2) := by decide +kernel
theorem dX0_measure_72 : decode cX0_measure 72 = .ok (.ldc 43, 2) := by decide +kernel
theorem dX0_measure_74 : decode cX0_measure 74 = .ok (.if_icmp .ne 6, 3) := by decide +kernel
theorem dX0_measure_77 : decode cX0_measure 77 = .ok (.goto 115, 3) := by decide +kernel
theorem dX0_measure_80 : decode cX0_measure 80 = .ok (.iload_n 3, 1) := by decide +kernel
theorem dX0_measure_81 : decode cX0_measure 81 = .ok (.iload 6, 2) := by decide +kernel
theorem dX0_measure_83 : decode cX0_measure 83 = .ok (.iload 7, 2) := by decide +kernel
theorem dX0_measure_85 : decode cX0_measure 85 = .ok (.if_icmp .gt 7, 3) := by decide +kernel
theorem dX0_measure_88 : decode cX0_measure 88 = .ok (.iconst 1, 1) := by decide +kernel
theorem dX0_measure_89 : decode cX0_measure 89 = .ok (.goto 4, 3) := by decide +kernel
theorem dX0_measure_92 : decode cX0_measure 92 = .ok (.iconst 0, 1) := by decide +kernel
theorem dX0_measure_93 : decode cX0_measure 93 = .ok (.iadd, 1) := by decide +kernel
theorem dX0_measure_94 : decode cX0_measure 94 = .ok (.istore_n 3, 1) := by decide +kernel
theorem dX0_measure_95 : decode cX0_measure 95 = .ok (.iload 4, 2) := by decide +kernel
theorem dX0_measure_97 : decode cX0_measure 97 = .ok (.iload 7, 2) := by decide +kernel
theorem dX0_measure_99 : decode cX0_measure 99 = .ok (.iload 6, 2) := by decide +kernel
theorem dX0_measure_101 : decode cX0_measure 101 = .ok (.if_icmp .gt 7, 3) := by decide +kernel
theorem dX0_measure_104 : decode cX0_measure 104 = .ok (.iconst 1, 1) := by decide +kernel
theorem dX0_measure_105 : decode cX0_measure 105 = .ok (.goto 4, 3) := by decide +kernel
theorem dX0_measure_108 : decode cX0_measure 108 = .ok (.iconst 0, 1) := by decide +kernel
theorem dX0_measure_109 : decode cX0_measure 109 = .ok (.iadd, 1) := by decide +kernel
theorem dX0_measure_110 : decode cX0_measure 110 = .ok (.istore 4, 2) := by decide +kernel
theorem dX0_measure_112 : decode cX0_measure 112 = .ok (.aload_n 0, 1) := by decide +kernel
theorem dX0_measure_113 : decode cX0_measure 113 = .ok (.dup, 1) := by decide +kernel
theorem dX0_measure_114 : decode cX0_measure 114 = .ok (.getfield 31, 3) := by decide +kernel
theorem dX0_measure_117 : decode cX0_measure 117 = .ok (.iload 6, 2) := by decide +kernel
theorem dX0_measure_119 : decode cX0_measure 119 = .ok (.iload 7, 2) := by decide +kernel
theorem dX0_measure_121 : decode cX0_measure 121 = .ok (.if_icmp .ne 7, 3) := by decide +kernel
theorem dX0_measure_124 : decode cX0_measure 124 = .ok (.iconst 1, 1) := by decide +kernel
theorem dX0_measure_125 : decode cX0_measure 125 = .ok (.goto 4, 3) := by decide +kernel
theorem dX0_measure_128 : decode cX0_measure 128 = .ok (.iconst 0, 1) := by decide +kernel
theorem dX0_measure_129 : decode cX0_measure 129 = .ok (.iadd, 1) := by decide +kernel
theorem dX0_measure_130 : decode cX0_measure 130 = .ok (.putfield 31, 3) := by decide +kernel
theorem dX0_measure_133 : decode cX0_measure 133 = .ok (.aload_n 0, 1) := by decide +kernel
theorem dX0_measure_134 : decode cX0_measure 134 = .ok (.dup, 1) := by decide +kernel
theorem dX0_measure_135 : decode cX0_measure 135 = .ok (.getfield 28, 3) := by decide +kernel
theorem dX0_measure_138 : decode cX0_measure 138 = .ok (.iconst 1, 1) := by decide +kernel
theorem dX0_measure_139 : decode cX0_measure 139 = .ok (.iadd, 1) := by decide +kernel
theorem dX0_measure_140 : decode cX0_measure 140 = .ok (.putfield 28, 3) := by decide +kernel
theorem dX0_measure_143 : decode cX0_measure 143 = .ok (.aload_n 0, 1) := by decide +kernel
theorem dX0_measure_144 : decode cX0_measure 144 = .ok (.getfield 28, 3) := by decide +kernel
theorem dX0_measure_147 : decode cX0_measure 147 = .ok (.bipush 32, 2) := by decide +kernel
theorem dX0_measure_149 : decode cX0_measure 149 = .ok (.if_icmp .gt 37, 3) := by decide +kernel
theorem dX0_measure_152 : decode cX0_measure 152 = .ok (.aload_n 0, 1) := by decide +kernel
theorem dX0_measure_153 : decode cX0_measure 153 = .ok (.getfield 15, 3) := by decide +kernel
theorem dX0_measure_156 : decode cX0_measure 156 = .ok (.aload_n 0, 1) := by decide +kernel
theorem dX0_measure_157 : decode cX0_measure 157 = .ok (.getfield 28, 3) := by decide +kernel
theorem dX0_measure_160 : decode cX0_measure 160 = .ok (.iload_n 3, 1) := by decide +kernel
theorem dX0_measure_161 : decode cX0_measure 161 = .ok (.iastore, 1) := by decide +kernel
theorem dX0_measure_162 : decode cX0_measure 162 = .ok (.aload_n 0, 1) := by decide +kernel
theorem dX0_measure_163 : decode cX0_measure 163 = .ok (.getfield 18, 3) := by decide +kernel
theorem dX0_measure_166 : decode cX0_measure 166 = .ok (.aload_n 0, 1) := by decide +kernel
theorem dX0_measure_167 : decode cX0_measure 167 = .ok (.getfield 28, 3) := by decide +kernel
theorem dX0_measure_170 : decode cX0_measure 170 = .ok (.iload 4, 2) := by decide +kernel
theorem dX0_measure_172 : decode cX0_measure 172 = .ok (.iastore, 1) := by decide +kernel
theorem dX0_measure_173 : decode cX0_measure 173 = .ok (.aload_n 0, 1) := by decide +kernel
theorem dX0_measure_174 : decode cX0_measure 174 = .ok (.getfield 9, 3) := by decide +kernel
theorem dX0_measure_177 : decode cX0_measure 177 = .ok (.aload_n 0, 1) := by decide +kernel
theorem dX0_measure_178 : decode cX0_measure 178 = .ok (.getfield 28, 3) := by decide +kernel
theorem dX0_measure_181 : decode cX0_measure 181 = .ok (.aload_n 0, 1) := by decide +kernel
theorem dX0_measure_182 : decode cX0_measure 182 = .ok (.getfield 31, 3) := by decide +kernel
theorem dX0_measure_185 : decode cX0_measure 185 = .ok (.iastore, 1) := by decide +kernel
theorem dX0_measure_186 : decode cX0_measure 186 = .ok (.iinc 5 1, 3) := by decide +kernel
theorem dX0_measure_189 : decode cX0_measure 189 = .ok (.goto (-155), 3) := by decide +kernel
theorem dX0_measure_192 : decode cX0_measure 192 = .ok (.return_, 1) := by decide +kernel
theorem dX0_commonWords_0 : decode cX0_commonWords 0 = .ok (.aload_n 0, 1) := by decide +kernel
theorem dX0_commonWords_1 : decode cX0_commonWords 1 = .ok (.getfield 28, 3) := by decide +kernel
theorem dX0_commonWords_4 : decode cX0_commonWords 4 = .ok (.iconst 0, 1) := by decide +kernel
theorem dX0_commonWords_5 : decode cX0_commonWords 5 = .ok (.iload_n 1, 1) := by decide +kernel
theorem dX0_commonWords_6 : decode cX0_commonWords 6 = .ok (.bipush 32, 2) := by decide +kernel
theorem dX0_commonWords_8 : decode cX0_commonWords 8 = .ok (.invokestatic 44, 3) := by decide +kernel
theorem dX0_commonWords_11 : decode cX0_commonWords 11 = .ok (.invokestatic 50, 3) := by decide +kernel
theorem dX0_commonWords_14 : decode cX0_commonWords 14 = .ok (.invokestatic 44, 3) := by decide +kernel
theorem dX0_commonWords_17 : decode cX0_commonWords 17 = .ok (.ireturn, 1) := by decide +kernel
set_option maxRecDepth 20000 in
theorem ggX0_leastCommon_X0_commonWords : GoodIn wsX0_leastCommon wsX0_commonWords := goodIn_r _ [6, 7, 8, 9, 10, 11, 12, 13, 14, 15, 16, 17, 18, 19, 20, 21] (by decide +kernel) (by decide +kernel)
set_option maxRecDepth 20000 in
theorem gX0_leastCommon_X0_commonWords : GoodIn wsX0_leastCommon (wsV RX0 53 RX0 yX0_commonWords wsX0_commonWords) := goodIn_app (goodIn_of _ (by decide +kernel)) ggX0_leastCommon_X0_commonWords
theorem dX0_leastCommon_0 : decode cX0_leastCommon 0 = .ok (.aload_n 0, 1) := by decide +kernel
theorem dX0_leastCommon_1 : decode cX0_leastCommon 1 = .ok (.getfield 9, 3) := by decide +kernel
theorem dX0_leastCommon_4 : decode cX0_leastCommon 4 = .ok (.aload_n 0, 1) := by decide +kernel
theorem dX0_leastCommon_5 : decode cX0_leastCommon 5 = .ok (.iload_n 1, 1) := by decide +kernel
theorem dX0_leastCommon_6 : decode cX0_leastCommon 6 = .ok (.invokevirtual 53, 3) := by decide +kernel
theorem dX0_leastCommon_9 : decode cX0_leastCommon 9 = .ok (.iaload, 1) := by decide +kernel
theorem dX0_leastCommon_10 : decode cX0_leastCommon 10 = .ok (.ireturn, 1) := by decide +kernel
set_option maxRecDepth 20000 in
theorem ggX0_mostCommon_X0_commonWords : GoodIn wsX0_mostCommon wsX0_commonWords := goodIn_r _ [14, 15, 6, 7, 8, 9, 16, 17, 18, 19, 20, 21, 22, 23, 24, 25] (by decide +kernel) (by decide +kernel)
set_option maxRecDepth 20000 in
theorem gX0_mostCommon_X0_commonWords : GoodIn wsX0_mostCommon (wsV RX0 53 RX0 yX0_commonWords wsX0_commonWords) := goodIn_app (goodIn_of _ (by decide +kernel)) ggX0_mostCommon_X0_commonWords
theorem dX0_mostCommon_0 : decode cX0_mostCommon 0 = .ok (.aload_n 0, 1) := by decide +kernel
theorem dX0_mostCommon_1 : decode cX0_mostCommon 1 = .ok (.iload_n 1, 1) := by decide +kernel
theorem dX0_mostCommon_2 : decode cX0_mostCommon 2 = .ok (.invokevirtual 53, 3) := by decide +kernel
theorem dX0_mostCommon_5 : decode cX0_mostCommon 5 = .ok (.istore_n 2, 1) := by decide +kernel
theorem dX0_mostCommon_6 : decode cX0_mostCommon 6 = .ok (.aload_n 0, 1) := by decide +kernel
theorem dX0_mostCommon_7 : decode cX0_mostCommon 7 = .ok (.getfield 21, 3) := by decide +kernel
theorem dX0_mostCommon_10 : decode cX0_mostCommon 10 = .ok (.aload_n 0, 1) := by decide +kernel
theorem dX0_mostCommon_11 : decode cX0_mostCommon 11 = .ok (.getfield 15, 3) := by decide +kernel
theorem dX0_mostCommon_14 : decode cX0_mostCommon 14 = .ok (.iload_n 2, 1) := by decide +kernel
theorem dX0_mostCommon_15 : decode cX0_mostCommon 15 = .ok (.iaload, 1) := by decide +kernel
theorem dX0_mostCommon_16 : decode cX0_mostCommon 16 = .ok (.isub, 1) := by decide +kernel
theorem dX0_mostCommon_17 : decode cX0_mostCommon 17 = .ok (.istore_n 3, 1) := by decide +kernel
theorem dX0_mostCommon_18 : decode cX0_mostCommon 18 = .ok (.aload_n 0, 1) := by decide +kernel
theorem dX0_mostCommon_19 : decode cX0_mostCommon 19 = .ok (.getfield 25, 3) := by decide +kernel
theorem dX0_mostCommon_22 : decode cX0_mostCommon 22 = .ok (.aload_n 0, 1) := by decide +kernel
theorem dX0_mostCommon_23 : decode cX0_mostCommon 23 = .ok (.getfield 18, 3) := by decide +kernel
theorem dX0_mostCommon_26 : decode cX0_mostCommon 26 = .ok (.iload_n 2, 1) := by decide +kernel
theorem dX0_mostCommon_27 : decode cX0_mostCommon 27 = .ok (.iaload, 1) := by decide +kernel
theorem dX0_mostCommon_28 : decode cX0_mostCommon 28 = .ok (.isub, 1) := by decide +kernel
theorem dX0_mostCommon_29 : decode cX0_mostCommon 29 = .ok (.istore 4, 2) := by decide +kernel
theorem dX0_mostCommon_31 : decode cX0_mostCommon 31 = .ok (.aload_n 0, 1) := by decide +kernel
theorem dX0_mostCommon_32 : decode cX0_mostCommon 32 = .ok (.getfield 9, 3) := by decide +kernel
theorem dX0_mostCommon_35 : decode cX0_mostCommon 35 = .ok (.iload_n 2, 1) := by decide +kernel
theorem dX0_mostCommon_36 : decode cX0_mostCommon 36 = .ok (.iaload, 1) := by decide +kernel
theorem dX0_mostCommon_37 : decode cX0_mostCommon 37 = .ok (.iload_n 3, 1) := by decide +kernel
theorem dX0_mostCommon_38 : decode cX0_mostCommon 38 = .ok (.iload 4, 2) := by decide +kernel
theorem dX0_mostCommon_40 : decode cX0_mostCommon 40 = .ok (.invokestatic 44, 3) := by decide +kernel
theorem dX0_mostCommon_43 : decode cX0_mostCommon 43 = .ok (.iadd, 1) := by decide +kernel
theorem dX0_mostCommon_44 : decode cX0_mostCommon 44 = .ok (.ireturn, 1) := by decide +kernel
set_option maxRecDepth 20000 in
theorem ggX0_toldShare_X0_leastCommon : GoodIn wsX0_toldShare wsX0_leastCommon := goodIn_r _ [5, 6, 7, 8, 9, 4, 10, 11, 12, 13, 14, 15, 16, 17, 18, 22, 23, 24, 25, 26, 27, 28] (by decide +kernel) (by decide +kernel)
set_option maxRecDepth 20000 in
theorem gX0_toldShare_X0_leastCommon : GoodIn wsX0_toldShare (wsV RX0 56 RX0 yX0_leastCommon wsX0_leastCommon) := goodIn_app (goodIn_of _ (by decide +kernel)) ggX0_toldShare_X0_leastCommon
set_option maxRecDepth 20000 in
theorem ggX0_toldShare_X0_commonWords : GoodIn wsX0_toldShare wsX0_commonWords := goodIn_r _ [10, 11, 12, 13, 14, 15, 16, 17, 18, 22, 23, 24, 25, 26, 27, 28] (by decide +kernel) (by decide +kernel)
set_option maxRecDepth 20000 in
theorem gX0_toldShare_X0_commonWords : GoodIn wsX0_toldShare (wsV RX0 53 RX0 yX0_commonWords wsX0_commonWords) := goodIn_app (goodIn_of _ (by decide +kernel)) ggX0_toldShare_X0_commonWords
set_option maxRecDepth 20000 in
theorem ggX0_toldShare_X3_shareDown : GoodIn wsX0_toldShare wsX3_shareDown := goodIn_r _ [21] (by decide +kernel) (by decide +kernel)
set_option maxRecDepth 20000 in
theorem gX0_toldShare_X3_shareDown_n59 : GoodIn wsX0_toldShare (wsX3_shareDown) := ggX0_toldShare_X3_shareDown
theorem dX0_toldShare_0 : decode cX0_toldShare 0 = .ok (.aload_n 0, 1) := by decide +kernel
theorem dX0_toldShare_1 : decode cX0_toldShare 1 = .ok (.iload_n 1, 1) := by decide +kernel
theorem dX0_toldShare_2 : decode cX0_toldShare 2 = .ok (.invokevirtual 56, 3) := by decide +kernel
theorem dX0_toldShare_5 : decode cX0_toldShare 5 = .ok (.aload_n 0, 1) := by decide +kernel
theorem dX0_toldShare_6 : decode cX0_toldShare 6 = .ok (.iload_n 1, 1) := by decide +kernel
theorem dX0_toldShare_7 : decode cX0_toldShare 7 = .ok (.invokevirtual 53, 3) := by decide +kernel
theorem dX0_toldShare_10 : decode cX0_toldShare 10 = .ok (.invokestatic 59, 3) := by decide +kernel
theorem dX0_toldShare_13 : decode cX0_toldShare 13 = .ok (.ireturn, 1) := by decide +kernel
set_option maxRecDepth 20000 in
theorem ggX0_trueShare_X3_shareDown : GoodIn wsX0_trueShare wsX3_shareDown := goodIn_r _ [5] (by decide +kernel) (by decide +kernel)
set_option maxRecDepth 20000 in
theorem gX0_trueShare_X3_shareDown_n59 : GoodIn wsX0_trueShare (wsX3_shareDown) := ggX0_trueShare_X3_shareDown
theorem dX0_trueShare_0 : decode cX0_trueShare 0 = .ok (.aload_n 0, 1) := by decide +kernel
theorem dX0_trueShare_1 : decode cX0_trueShare 1 = .ok (.getfield 31, 3) := by decide +kernel
theorem dX0_trueShare_4 : decode cX0_trueShare 4 = .ok (.aload_n 0, 1) := by decide +kernel
theorem dX0_trueShare_5 : decode cX0_trueShare 5 = .ok (.getfield 28, 3) := by decide +kernel
theorem dX0_trueShare_8 : decode cX0_trueShare 8 = .ok (.invokestatic 59, 3) := by decide +kernel
theorem dX0_trueShare_11 : decode cX0_trueShare 11 = .ok (.ireturn, 1) := by decide +kernel
set_option maxRecDepth 20000 in
theorem ggX0_lowerBound_X0_leastCommon : GoodIn wsX0_lowerBound wsX0_leastCommon := goodIn_r _ [7, 8, 9, 10, 11, 6, 12, 13, 14, 15, 16, 17, 18, 19, 20, 24, 25, 26, 27, 28, 29, 30] (by decide +kernel) (by decide +kernel)
set_option maxRecDepth 20000 in
theorem gX0_lowerBound_X0_leastCommon : GoodIn wsX0_lowerBound (wsV RX0 56 RX0 yX0_leastCommon wsX0_leastCommon) := goodIn_app (goodIn_of _ (by decide +kernel)) ggX0_lowerBound_X0_leastCommon
set_option maxRecDepth 20000 in
theorem ggX0_lowerBound_X3_shareDown : GoodIn wsX0_lowerBound wsX3_shareDown := goodIn_r _ [23] (by decide +kernel) (by decide +kernel)
set_option maxRecDepth 20000 in
theorem gX0_lowerBound_X3_shareDown_n59 : GoodIn wsX0_lowerBound (wsX3_shareDown) := ggX0_lowerBound_X3_shareDown
theorem dX0_lowerBound_0 : decode cX0_lowerBound 0 = .ok (.aload_n 0, 1) := by decide +kernel
theorem dX0_lowerBound_1 : decode cX0_lowerBound 1 = .ok (.iload_n 1, 1) := by decide +kernel
theorem dX0_lowerBound_2 : decode cX0_lowerBound 2 = .ok (.invokevirtual 56, 3) := by decide +kernel
theorem dX0_lowerBound_5 : decode cX0_lowerBound 5 = .ok (.istore_n 2, 1) := by decide +kernel
theorem dX0_lowerBound_6 : decode cX0_lowerBound 6 = .ok (.iload_n 2, 1) := by decide +kernel
theorem dX0_lowerBound_7 : decode cX0_lowerBound 7 = .ok (.aload_n 0, 1) := by decide +kernel
theorem dX0_lowerBound_8 : decode cX0_lowerBound 8 = .ok (.getfield 21, 3) := by decide +kernel
theorem dX0_lowerBound_11 : decode cX0_lowerBound 11 = .ok (.aload_n 0, 1) := by decide +kernel
theorem dX0_lowerBound_12 : decode cX0_lowerBound 12 = .ok (.getfield 25, 3) := by decide +kernel
theorem dX0_lowerBound_15 : decode cX0_lowerBound 15 = .ok (.iadd, 1) := by decide +kernel
theorem dX0_lowerBound_16 : decode cX0_lowerBound 16 = .ok (.iload_n 2, 1) := by decide +kernel
theorem dX0_lowerBound_17 : decode cX0_lowerBound 17 = .ok (.isub, 1) := by decide +kernel
theorem dX0_lowerBound_18 : decode cX0_lowerBound 18 = .ok (.invokestatic 59, 3) := by decide +kernel
theorem dX0_lowerBound_21 : decode cX0_lowerBound 21 = .ok (.ireturn, 1) := by decide +kernel
set_option maxRecDepth 20000 in
theorem ggX0_upperBound_X0_mostCommon : GoodIn wsX0_upperBound wsX0_mostCommon := goodIn_r _ [7, 1, 8, 2, 9, 10, 11, 12, 13, 14, 15, 16, 17, 6, 18, 19, 20, 21, 22, 26, 27, 28, 29, 30, 31, 32] (by decide +kernel) (by decide +kernel)
set_option maxRecDepth 20000 in
theorem gX0_upperBound_X0_mostCommon : GoodIn wsX0_upperBound (wsV RX0 62 RX0 yX0_mostCommon wsX0_mostCommon) := goodIn_app (goodIn_of _ (by decide +kernel)) ggX0_upperBound_X0_mostCommon
set_option maxRecDepth 20000 in
theorem ggX0_upperBound_X3_shareUp : GoodIn wsX0_upperBound wsX3_shareUp := goodIn_r _ [25] (by decide +kernel) (by decide +kernel)
set_option maxRecDepth 20000 in
theorem gX0_upperBound_X3_shareUp_n65 : GoodIn wsX0_upperBound (wsX3_shareUp) := ggX0_upperBound_X3_shareUp
theorem dX0_upperBound_0 : decode cX0_upperBound 0 = .ok (.aload_n 0, 1) := by decide +kernel
theorem dX0_upperBound_1 : decode cX0_upperBound 1 = .ok (.iload_n 1, 1) := by decide +kernel
theorem dX0_upperBound_2 : decode cX0_upperBound 2 = .ok (.invokevirtual 62, 3) := by decide +kernel
theorem dX0_upperBound_5 : decode cX0_upperBound 5 = .ok (.istore_n 2, 1) := by decide +kernel
theorem dX0_upperBound_6 : decode cX0_upperBound 6 = .ok (.iload_n 2, 1) := by decide +kernel
theorem dX0_upperBound_7 : decode cX0_upperBound 7 = .ok (.aload_n 0, 1) := by decide +kernel
theorem dX0_upperBound_8 : decode cX0_upperBound 8 = .ok (.getfield 21, 3) := by decide +kernel
theorem dX0_upperBound_11 : decode cX0_upperBound 11 = .ok (.aload_n 0, 1) := by decide +kernel
theorem dX0_upperBound_12 : decode cX0_upperBound 12 = .ok (.getfield 25, 3) := by decide +kernel
theorem dX0_upperBound_15 : decode cX0_upperBound 15 = .ok (.iadd, 1) := by decide +kernel
theorem dX0_upperBound_16 : decode cX0_upperBound 16 = .ok (.iload_n 2, 1) := by decide +kernel
theorem dX0_upperBound_17 : decode cX0_upperBound 17 = .ok (.isub, 1) := by decide +kernel
theorem dX0_upperBound_18 : decode cX0_upperBound 18 = .ok (.invokestatic 65, 3) := by decide +kernel
theorem dX0_upperBound_21 : decode cX0_upperBound 21 = .ok (.ireturn, 1) := by decide +kernel
set_option maxRecDepth 20000 in
theorem ggX0_errorOfTold_X0_toldShare : GoodIn wsX0_errorOfTold wsX0_toldShare := goodIn_r _ [9, 10, 11, 12, 8, 13, 14, 15, 16, 17, 18, 19, 20, 21, 3, 22, 23, 24, 25, 26, 27, 28, 34, 35, 36, 37, 38, 39, 40] (by decide +kernel) (by decide +kernel)
set_option maxRecDepth 20000 in
theorem gX0_errorOfTold_X0_toldShare : GoodIn wsX0_errorOfTold (wsV RX0 68 RX0 yX0_toldShare wsX0_toldShare) := goodIn_app (goodIn_of _ (by decide +kernel)) ggX0_errorOfTold_X0_toldShare
set_option maxRecDepth 20000 in
theorem ggX0_errorOfTold_X0_trueShare : GoodIn wsX0_errorOfTold wsX0_trueShare := goodIn_r _ [32, 33, 19, 26, 27, 28, 34, 35, 36, 37, 38, 39, 40] (by decide +kernel) (by decide +kernel)
set_option maxRecDepth 20000 in
theorem gX0_errorOfTold_X0_trueShare : GoodIn wsX0_errorOfTold (wsV RX0 71 RX0 yX0_trueShare wsX0_trueShare) := goodIn_app (goodIn_of _ (by decide +kernel)) ggX0_errorOfTold_X0_trueShare
theorem dX0_errorOfTold_0 : decode cX0_errorOfTold 0 = .ok (.aload_n 0, 1) := by decide +kernel
theorem dX0_errorOfTold_1 : decode cX0_errorOfTold 1 = .ok (.iload_n 1, 1) := by decide +kernel
theorem dX0_errorOfTold_2 : decode cX0_errorOfTold 2 = .ok (.invokevirtual 68, 3) := by decide +kernel
theorem dX0_errorOfTold_5 : decode cX0_errorOfTold 5 = .ok (.aload_n 0, 1) := by decide +kernel
theorem dX0_errorOfTold_6 : decode cX0_errorOfTold 6 = .ok (.invokevirtual 71, 3) := by decide +kernel
theorem dX0_errorOfTold_9 : decode cX0_errorOfTold 9 = .ok (.isub, 1) := by decide +kernel
theorem dX0_errorOfTold_10 : decode cX0_errorOfTold 10 = .ok (.invokestatic 75, 3) := by decide +kernel
theorem dX0_errorOfTold_13 : decode cX0_errorOfTold 13 = .ok (.ireturn, 1) := by decide +kernel
theorem dX1_init_0 : decode cX1_init 0 = .ok (.aload_n 0, 1) := by decide +kernel
theorem dX1_init_1 : decode cX1_init 1 = .ok (.invokespecial 3, 3) := by decide +kernel
theorem dX1_init_4 : decode cX1_init 4 = .ok (.aload_n 0, 1) := by decide +kernel
theorem dX1_init_5 : decode cX1_init 5 = .ok (.iconst 4, 1) := by decide +kernel
theorem dX1_init_6 : decode cX1_init 6 = .ok (.newarray .int, 2) := by decide +kernel
theorem dX1_init_8 : decode cX1_init 8 = .ok (.putfield 9, 3) := by decide +kernel
theorem dX1_init_11 : decode cX1_init 11 = .ok (.aload_n 0, 1) := by decide +kernel
theorem dX1_init_12 : decode cX1_init 12 = .ok (.bipush 10, 2) := by decide +kernel
theorem dX1_init_14 : decode cX1_init 14 = .ok (.newarray .int, 2) := by decide +kernel
theorem dX1_init_16 : decode cX1_init 16 = .ok (.putfield 15, 3) := by decide +kernel
theorem dX1_init_19 : decode cX1_init 19 = .ok (.aload_n 0, 1) := by decide +kernel
theorem dX1_init_20 : decode cX1_init 20 = .ok (.sipush 640, 3) := by decide +kernel
theorem dX1_init_23 : decode cX1_init 23 = .ok (.newarray .int, 2) := by decide +kernel
theorem dX1_init_25 : decode cX1_init 25 = .ok (.putfield 18, 3) := by decide +kernel
theorem dX1_init_28 : decode cX1_init 28 = .ok (.aload_n 0, 1) := by decide +kernel
theorem dX1_init_29 : decode cX1_init 29 = .ok (.iconst 0, 1) := by decide +kernel
theorem dX1_init_30 : decode cX1_init 30 = .ok (.putfield 21, 3) := by decide +kernel
theorem dX1_init_33 : decode cX1_init 33 = .ok (.getstatic 25, 3) := by decide +kernel
theorem dX1_init_36 : decode cX1_init 36 = .ok (.iconst 0, 1) := by decide +kernel
theorem dX1_init_37 : decode cX1_init 37 = .ok (.aload_n 0, 1) := by decide +kernel
theorem dX1_init_38 : decode cX1_init 38 = .ok (.getfield 9, 3) := by decide +kernel
theorem dX1_init_41 : decode cX1_init 41 = .ok (.iconst 0, 1) := by decide +kernel
theorem dX1_init_42 : decode cX1_init 42 = .ok (.iconst 4, 1) := by decide +kernel
theorem dX1_init_43 : decode cX1_init 43 = .ok (.invokestatic 28, 3) := by decide +kernel
theorem dX1_init_46 : decode cX1_init 46 = .ok (.return_, 1) := by decide +kernel
theorem dX1_copyFrom_0 : decode cX1_copyFrom 0 = .ok (.aload_n 1, 1) := by decide +kernel
theorem dX1_copyFrom_1 : decode cX1_copyFrom 1 = .ok (.getfield 9, 3) := by decide +kernel
theorem dX1_copyFrom_4 : decode cX1_copyFrom 4 = .ok (.iconst 0, 1) := by decide +kernel
theorem dX1_copyFrom_5 : decode cX1_copyFrom 5 = .ok (.aload_n 0, 1) := by decide +kernel
theorem dX1_copyFrom_6 : decode cX1_copyFrom 6 = .ok (.getfield 9, 3) := by decide +kernel
theorem dX1_copyFrom_9 : decode cX1_copyFrom 9 = .ok (.iconst 0, 1) := by decide +kernel
theorem dX1_copyFrom_10 : decode cX1_copyFrom 10 = .ok (.iconst 4, 1) := by decide +kernel
theorem dX1_copyFrom_11 : decode cX1_copyFrom 11 = .ok (.invokestatic 28, 3) := by decide +kernel
theorem dX1_copyFrom_14 : decode cX1_copyFrom 14 = .ok (.aload_n 1, 1) := by decide +kernel
theorem dX1_copyFrom_15 : decode cX1_copyFrom 15 = .ok (.getfield 15, 3) := by decide +kernel
theorem dX1_copyFrom_18 : decode cX1_copyFrom 18 = .ok (.iconst 0, 1) := by decide +kernel
theorem dX1_copyFrom_19 : decode cX1_copyFrom 19 = .ok (.aload_n 0, 1) := by decide +kernel
theorem dX1_copyFrom_20 : decode cX1_copyFrom 20 = .ok (.getfield 15, 3) := by decide +kernel
theorem dX1_copyFrom_23 : decode cX1_copyFrom 23 = .ok (.iconst 0, 1) := by decide +kernel
theorem dX1_copyFrom_24 : decode cX1_copyFrom 24 = .ok (.bipush 10, 2) := by decide +kernel
theorem dX1_copyFrom_26 : decode cX1_copyFrom 26 = .ok (.invokestatic 28, 3) := by decide +kernel
theorem dX1_copyFrom_29 : decode cX1_copyFrom 29 = .ok (.aload_n 1, 1) := by decide +kernel
theorem dX1_copyFrom_30 : decode cX1_copyFrom 30 = .ok (.getfield 18, 3) := by decide +kernel
theorem dX1_copyFrom_33 : decode cX1_copyFrom 33 = .ok (.iconst 0, 1) := by decide +kernel
theorem dX1_copyFrom_34 : decode cX1_copyFrom 34 = .ok (.aload_n 0, 1) := by decide +kernel
theorem dX1_copyFrom_35 : decode cX1_copyFrom 35 = .ok (.getfield 18, 3) := by decide +kernel
theorem dX1_copyFrom_38 : decode cX1_copyFrom 38 = .ok (.iconst 0, 1) := by decide +kernel
theorem dX1_copyFrom_39 : decode cX1_copyFrom 39 = .ok (.sipush 640, 3) := by decide +kernel
theorem dX1_copyFrom_42 : decode cX1_copyFrom 42 = .ok (.invokestatic 28, 3) := by decide +kernel
theorem dX1_copyFrom_45 : decode cX1_copyFrom 45 = .ok (.aload_n 0, 1) := by decide +kernel
theorem dX1_copyFrom_46 : decode cX1_copyFrom 46 = .ok (.aload_n 1, 1) := by decide +kernel
theorem dX1_copyFrom_47 : decode cX1_copyFrom 47 = .ok (.getfield 21, 3) := by decide +kernel
theorem dX1_copyFrom_50 : decode cX1_copyFrom 50 = .ok (.putfield 21, 3) := by decide +kernel
theorem dX1_copyFrom_53 : decode cX1_copyFrom 53 = .ok (.return_, 1) := by decide +kernel
theorem dX2_init_0 : decode cX2_init 0 = .ok (.aload_n 0, 1) := by decide +kernel
theorem dX2_init_1 : decode cX2_init 1 = .ok (.invokespecial 3, 3) := by decide +kernel
theorem dX2_init_4 : decode cX2_init 4 = .ok (.aload_n 0, 1) := by decide +kernel
theorem dX2_init_5 : decode cX2_init 5 = .ok (.bipush 64, 2) := by decide +kernel
theorem dX2_init_7 : decode cX2_init 7 = .ok (.newarray .int, 2) := by decide +kernel
theorem dX2_init_9 : decode cX2_init 9 = .ok (.putfield 9, 3) := by decide +kernel
theorem dX2_init_12 : decode cX2_init 12 = .ok (.aload_n 0, 1) := by decide +kernel
theorem dX2_init_13 : decode cX2_init 13 = .ok (.bipush 64, 2) := by decide +kernel
theorem dX2_init_15 : decode cX2_init 15 = .ok (.newarray .int, 2) := by decide +kernel
theorem dX2_init_17 : decode cX2_init 17 = .ok (.putfield 15, 3) := by decide +kernel
theorem dX2_init_20 : decode cX2_init 20 = .ok (.aload_n 0, 1) := by decide +kernel
theorem dX2_init_21 : decode cX2_init 21 = .ok (.bipush 64, 2) := by decide +kernel
theorem dX2_init_23 : decode cX2_init 23 = .ok (.newarray .int, 2) := by decide +kernel
theorem dX2_init_25 : decode cX2_init 25 = .ok (.putfield 18, 3) := by decide +kernel
theorem dX2_init_28 : decode cX2_init 28 = .ok (.aload_n 0, 1) := by decide +kernel
theorem dX2_init_29 : decode cX2_init 29 = .ok (.iconst 0, 1) := by decide +kernel
theorem dX2_init_30 : decode cX2_init 30 = .ok (.putfield 21, 3) := by decide +kernel
theorem dX2_init_33 : decode cX2_init 33 = .ok (.return_, 1) := by decide +kernel
set_option maxRecDepth 20000 in
theorem ggX2_gather_X2_codeAt : GoodIn wsX2_gather wsX2_codeAt := goodIn_r _ [9] (by decide +kernel) (by decide +kernel)
set_option maxRecDepth 20000 in
theorem gX2_gather_X2_codeAt : GoodIn wsX2_gather (va_wsS RX2 36 yX2_codeAt wsX2_codeAt) := goodIn_app (goodIn_of _ (by decide +kernel)) ggX2_gather_X2_codeAt
set_option maxRecDepth 20000 in
theorem ggX2_gather_X2_enter : GoodIn wsX2_gather wsX2_enter := goodIn_r _ [13, 1, 14, 15, 16, 17, 18, 19, 20, 21, 22, 23, 8, 24, 25, 26, 27, 28, 29] (by decide +kernel) (by decide +kernel)
set_option maxRecDepth 20000 in
theorem gX2_gather_X2_enter : GoodIn wsX2_gather (wsV RX2 42 RX2 yX2_enter wsX2_enter) := goodIn_app (goodIn_of _ (by decide +kernel)) ggX2_gather_X2_enter
theorem dX2_gather_0 : decode cX2_gather 0 = .ok (.aload_n 0, 1) := by decide +kernel
theorem dX2_gather_1 : decode cX2_gather 1 = .ok (.iconst 0, 1) := by decide +kernel
theorem dX2_gather_2 : decode cX2_gather 2 = .ok (.putfield 21, 3) := by decide +kernel
theorem dX2_gather_5 : decode cX2_gather 5 = .ok (.iload_n 2, 1) := by decide +kernel
theorem dX2_gather_6 : decode cX2_gather 6 = .ok (.bipush 64, 2) := by decide +kernel
theorem dX2_gather_8 : decode cX2_gather 8 = .ok (.imul, 1) := by decide +kernel
theorem dX2_gather_9 : decode cX2_gather 9 = .ok (.istore_n 3, 1) := by decide +kernel
theorem dX2_gather_10 : decode cX2_gather 10 = .ok (.aload_n 1, 1) := by decide +kernel
theorem dX2_gather_11 : decode cX2_gather 11 = .ok (.getfield 25, 3) := by decide +kernel
theorem dX2_gather_14 : decode cX2_gather 14 = .ok (.iconst 0, 1) := by decide +kernel
theorem dX2_gather_15 : decode cX2_gather 15 = .ok (.iaload, 1) := by decide +kernel
theorem dX2_gather_16 : decode cX2_gather 16 = .ok (.istore 4, 2) := by decide +kernel
theorem dX2_gather_18 : decode cX2_gather 18 = .ok (.aload_n 1, 1) := by decide +kernel
theorem dX2_gather_19 : decode cX2_gather 19 = .ok (.getfield 30, 3) := by decide +kernel
theorem dX2_gather_22 : decode cX2_gather 22 = .ok (.iload_n 2, 1) := by decide +kernel
theorem dX2_gather_23 : decode cX2_gather 23 = .ok (.iaload, 1) := by decide +kernel
theorem dX2_gather_24 : decode cX2_gather 24 = .ok (.iload 4, 2) := by decide +kernel
theorem dX2_gather_26 : decode cX2_gather 26 = .ok (.isub, 1) := by decide +kernel
theorem dX2_gather_27 : decode cX2_gather 27 = .ok (.istore 5, 2) := by decide +kernel
theorem dX2_gather_29 : decode cX2_gather 29 = .ok (.iconst 0, 1) := by decide +kernel
theorem dX2_gather_30 : decode cX2_gather 30 = .ok (.istore 6, 2) := by decide +kernel
theorem dX2_gather_32 : decode cX2_gather 32 = .ok (.iload 6, 2) := by decide +kernel
theorem dX2_gather_34 : decode cX2_gather 34 = .ok (.iload 5, 2) := by decide +kernel
theorem dX2_gather_36 : decode cX2_gather 36 = .ok (.if_icmp .gt 58, 3) := by decide +kernel
theorem dX2_gather_39 : decode cX2_gather 39 = .ok (.aload_n 1, 1) := by decide +kernel
theorem dX2_gather_40 : decode cX2_gather 40 = .ok (.getfield 33, 3) := by decide +kernel
theorem dX2_gather_43 : decode cX2_gather 43 = .ok (.iload_n 3, 1) := by decide +kernel
theorem dX2_gather_44 : decode cX2_gather 44 = .ok (.iload 6, 2) := by decide +kernel
theorem dX2_gather_46 : decode cX2_gather 46 = .ok (.iadd, 1) := by decide +kernel
theorem dX2_gather_47 : decode cX2_gather 47 = .ok (.iload 4, 2) := by decide +kernel
theorem dX2_gather_49 : decode cX2_gather 49 = .ok (.invokestatic 36, 3) := by decide +kernel
theorem dX2_gather_52 : decode cX2_gather 52 = .ok (.istore 7, 2) := by decide +kernel
theorem dX2_gather_54 : decode cX2_gather 54 = .ok (.iload 7, 2) := by decide +kernel
theorem dX2_gather_56 : decode cX2_gather 56 = .ok (.i2l, 1) := by decide +kernel
theorem dX2_gather_57 : decode cX2_gather 57 = .ok (.aload_n 1, 1) := by decide +kernel
theorem dX2_gather_58 : decode cX2_gather 58 = .ok (.getfield 25, 3) := by decide +kernel
theorem dX2_gather_61 : decode cX2_gather 61 = .ok (.iconst 2, 1) := by decide +kernel
theorem dX2_gather_62 : decode cX2_gather 62 = .ok (.iaload, 1) := by decide +kernel
theorem dX2_gather_63 : decode cX2_gather 63 = .ok (.i2l, 1) := by decide +kernel
theorem dX2_gather_64 : decode cX2_gather 64 = .ok (.lmul, 1) := by decide +kernel
theorem dX2_gather_65 : decode cX2_gather 65 = .ok (.aload_n 1, 1) := by decide +kernel
theorem dX2_gather_66 : decode cX2_gather 66 = .ok (.getfield 25, 3) := by decide +kernel
theorem dX2_gather_69 : decode cX2_gather 69 = .ok (.iconst 3, 1) := by decide +kernel
theorem dX2_gather_70 : decode cX2_gather 70 = .ok (.iaload, 1) := by decide +kernel
theorem dX2_gather_71 : decode cX2_gather 71 = .ok (.i2l, 1) := by decide +kernel
theorem dX2_gather_72 : decode cX2_gather 72 = .ok (.ladd, 1) := by decide +kernel
theorem dX2_gather_73 : decode cX2_gather 73 = .ok (.lstore 8, 2) := by decide +kernel
theorem dX2_gather_75 : decode cX2_gather 75 = .ok (.aload_n 0, 1) := by decide +kernel
theorem dX2_gather_76 : decode cX2_gather 76 = .ok (.iload 7, 2) := by decide +kernel
theorem dX2_gather_78 : decode cX2_gather 78 = .ok (.lload 8, 2) := by decide +kernel
theorem dX2_gather_80 : decode cX2_gather 80 = .ok (.ldc2_w 40, 3) := by decide +kernel
theorem dX2_gather_83 : decode cX2_gather 83 = .ok (.lrem, 1) := by decide +kernel
theorem dX2_gather_84 : decode cX2_gather 84 = .ok (.l2i, 1) := by decide +kernel
theorem dX2_gather_85 : decode cX2_gather 85 = .ok (.invokevirtual 42, 3) := by decide +kernel
theorem dX2_gather_88 : decode cX2_gather 88 = .ok (.iinc 6 1, 3) := by decide +kernel
theorem dX2_gather_91 : decode cX2_gather 91 = .ok (.goto (-59), 3) := by decide +kernel
theorem dX2_gather_94 : decode cX2_gather 94 = .ok (.return_, 1) := by decide +kernel
theorem dX2_valueAt_0 : decode cX2_valueAt 0 = .ok (.iload_n 1, 1) := by decide +kernel
theorem dX2_valueAt_1 : decode cX2_valueAt 1 = .ok (.ifCond .lt 20, 3) := by decide +kernel
theorem dX2_valueAt_4 : decode cX2_valueAt 4 = .ok (.iload_n 1, 1) := by decide +kernel
theorem dX2_valueAt_5 : decode cX2_valueAt 5 = .ok (.aload_n 0, 1) := by decide +kernel
theorem dX2_valueAt_6 : decode cX2_valueAt 6 = .ok (.getfield 21, 3) := by decide +kernel
theorem dX2_valueAt_9 : decode cX2_valueAt 9 = .ok (.if_icmp .ge 12, 3) := by decide +kernel
theorem dX2_valueAt_12 : decode cX2_valueAt 12 = .ok (.aload_n 0, 1) := by decide +kernel
theorem dX2_valueAt_13 : decode cX2_valueAt 13 = .ok (.getfield 9, 3) := by decide +kernel
theorem dX2_valueAt_16 : decode cX2_valueAt 16 = .ok (.iload_n 1, 1) := by decide +kernel
theorem dX2_valueAt_17 : decode cX2_valueAt 17 = .ok (.iaload, 1) := by decide +kernel
theorem dX2_valueAt_18 : decode cX2_valueAt 18 = .ok (.goto 5, 3) := by decide +kernel
theorem dX2_valueAt_21 : decode cX2_valueAt 21 = .ok (.ldc 46, 2) := by decide +kernel
theorem dX2_valueAt_23 : decode cX2_valueAt 23 = .ok (.ireturn, 1) := by decide +kernel
theorem dX2_codeAt_0 : decode cX2_codeAt 0 = .ok (.iconst 0, 1) := by decide +kernel
theorem dX2_codeAt_1 : decode cX2_codeAt 1 = .ok (.istore_n 3, 1) := by decide +kernel
theorem dX2_codeAt_2 : decode cX2_codeAt 2 = .ok (.iconst 0, 1) := by decide +kernel
theorem dX2_codeAt_3 : decode cX2_codeAt 3 = .ok (.istore 4, 2) := by decide +kernel
theorem dX2_codeAt_5 : decode cX2_codeAt 5 = .ok (.iload 4, 2) := by decide +kernel
theorem dX2_codeAt_7 : decode cX2_codeAt 7 = .ok (.iload_n 2, 1) := by decide +kernel
theorem dX2_codeAt_8 : decode cX2_codeAt 8 = .ok (.if_icmp .ge 21, 3) := by decide +kernel
theorem dX2_codeAt_11 : decode cX2_codeAt 11 = .ok (.iload_n 3, 1) := by decide +kernel
theorem dX2_codeAt_12 : decode cX2_codeAt 12 = .ok (.bipush 27, 2) := by decide +kernel
theorem dX2_codeAt_14 : decode cX2_codeAt 14 = .ok (.imul, 1) := by decide +kernel
theorem dX2_codeAt_15 : decode cX2_codeAt 15 = .ok (.aload_n 0, 1) := by decide +kernel
theorem dX2_codeAt_16 : decode cX2_codeAt 16 = .ok (.iload_n 1, 1) := by decide +kernel
theorem dX2_codeAt_17 : decode cX2_codeAt 17 = .ok (.iload 4, 2) := by decide +kernel
theorem dX2_codeAt_19 : decode cX2_codeAt 19 = .ok (.iadd, 1) := by decide +kernel
theorem dX2_codeAt_20 : decode cX2_codeAt 20 = .ok (.iaload, 1) := by decide +kernel
theorem dX2_codeAt_21 : decode cX2_codeAt 21 = .ok (.iadd, 1) := by decide +kernel
theorem dX2_codeAt_22 : decode cX2_codeAt 22 = .ok (.istore_n 3, 1) := by decide +kernel
theorem dX2_codeAt_23 : decode cX2_codeAt 23 = .ok (.iinc 4 1, 3) := by decide +kernel
theorem dX2_codeAt_26 : decode cX2_codeAt 26 = .ok (.goto (-21), 3) := by decide +kernel
theorem dX2_codeAt_29 : decode cX2_codeAt 29 = .ok (.iload_n 3, 1) := by decide +kernel
theorem dX2_codeAt_30 : decode cX2_codeAt 30 = .ok (.ireturn, 1) := by decide +kernel
set_option maxRecDepth 20000 in
theorem ggX2_enter_X2_valueAt : GoodIn wsX2_enter wsX2_valueAt := goodIn_r _ [13, 1, 2, 14, 15, 16, 17, 18] (by decide +kernel) (by decide +kernel)
set_option maxRecDepth 20000 in
theorem gX2_enter_X2_valueAt : GoodIn wsX2_enter (wsV RX2 47 RX2 yX2_valueAt wsX2_valueAt) := goodIn_app (goodIn_of _ (by decide +kernel)) ggX2_enter_X2_valueAt
theorem dX2_enter_0 : decode cX2_enter 0 = .ok (.iconst 0, 1) := by decide +kernel
theorem dX2_enter_1 : decode cX2_enter 1 = .ok (.istore_n 3, 1) := by decide +kernel
theorem dX2_enter_2 : decode cX2_enter 2 = .ok (.iload_n 3, 1) := by decide +kernel
theorem dX2_enter_3 : decode cX2_enter 3 = .ok (.aload_n 0, 1) := by decide +kernel
theorem dX2_enter_4 : decode cX2_enter 4 = .ok (.getfield 21, 3) := by decide +kernel
theorem dX2_enter_7 : decode cX2_enter 7 = .ok (.if_icmp .ge 19, 3) := by decide +kernel
theorem dX2_enter_10 : decode cX2_enter 10 = .ok (.aload_n 0, 1) := by decide +kernel
theorem dX2_enter_11 : decode cX2_enter 11 = .ok (.getfield 9, 3) := by decide +kernel
theorem dX2_enter_14 : decode cX2_enter 14 = .ok (.iload_n 3, 1) := by decide +kernel
theorem dX2_enter_15 : decode cX2_enter 15 = .ok (.iaload, 1) := by decide +kernel
theorem dX2_enter_16 : decode cX2_enter 16 = .ok (.iload_n 2, 1) := by decide +kernel
theorem dX2_enter_17 : decode cX2_enter 17 = .ok (.if_icmp .ge 9, 3) := by decide +kernel
theorem dX2_enter_20 : decode cX2_enter 20 = .ok (.iinc 3 1, 3) := by decide +kernel
theorem dX2_enter_23 : decode cX2_enter 23 = .ok (.goto (-21), 3) := by decide +kernel
theorem dX2_enter_26 : decode cX2_enter 26 = .ok (.aload_n 0, 1) := by decide +kernel
theorem dX2_enter_27 : decode cX2_enter 27 = .ok (.iload_n 3, 1) := by decide +kernel
theorem dX2_enter_28 : decode cX2_enter 28 = .ok (.invokevirtual 47, 3) := by decide +kernel
theorem dX2_enter_31 : decode cX2_enter 31 = .ok (.iload_n 2, 1) := by decide +kernel
theorem dX2_enter_32 : decode cX2_enter 32 = .ok (.if_icmp .ne 14, 3) := by decide +kernel
theorem dX2_enter_35 : decode cX2_enter 35 = .ok (.aload_n 0, 1) := by decide +kernel
theorem dX2_enter_36 : decode cX2_enter 36 = .ok (.getfield 18, 3) := by decide +kernel
theorem dX2_enter_39 : decode cX2_enter 39 = .ok (.iload_n 3, 1) := by decide +kernel
theorem dX2_enter_40 : decode cX2_enter 40 = .ok (.dup2, 1) := by decide +kernel
theorem dX2_enter_41 : decode cX2_enter 41 = .ok (.iaload, 1) := by decide +kernel
theorem dX2_enter_42 : decode cX2_enter 42 = .ok (.iconst 1, 1) := by decide +kernel
theorem dX2_enter_43 : decode cX2_enter 43 = .ok (.iadd, 1) := by decide +kernel
theorem dX2_enter_44 : decode cX2_enter 44 = .ok (.iastore, 1) := by decide +kernel
theorem dX2_enter_45 : decode cX2_enter 45 = .ok (.return_, 1) := by decide +kernel
theorem dX2_enter_46 : decode cX2_enter 46 = .ok (.aload_n 0, 1) := by decide +kernel
theorem dX2_enter_47 : decode cX2_enter 47 = .ok (.getfield 21, 3) := by decide +kernel
theorem dX2_enter_50 : decode cX2_enter 50 = .ok (.bipush 64, 2) := by decide +kernel
theorem dX2_enter_52 : decode cX2_enter 52 = .ok (.if_icmp .lt 4, 3) := by decide +kernel
theorem dX2_enter_55 : decode cX2_enter 55 = .ok (.return_, 1) := by decide +kernel
theorem dX2_enter_56 : decode cX2_enter 56 = .ok (.aload_n 0, 1) := by decide +kernel
theorem dX2_enter_57 : decode cX2_enter 57 = .ok (.getfield 9, 3) := by decide +kernel
theorem dX2_enter_60 : decode cX2_enter 60 = .ok (.iload_n 3, 1) := by decide +kernel
theorem dX2_enter_61 : decode cX2_enter 61 = .ok (.aload_n 0, 1) := by decide +kernel
theorem dX2_enter_62 : decode cX2_enter 62 = .ok (.getfield 9, 3) := by decide +kernel
theorem dX2_enter_65 : decode cX2_enter 65 = .ok (.iload_n 3, 1) := by decide +kernel
theorem dX2_enter_66 : decode cX2_enter 66 = .ok (.iconst 1, 1) := by decide +kernel
theorem dX2_enter_67 : decode cX2_enter 67 = .ok (.iadd, 1) := by decide +kernel
theorem dX2_enter_68 : decode cX2_enter 68 = .ok (.aload_n 0, 1) := by decide +kernel
theorem dX2_enter_69 : decode cX2_enter 69 = .ok (.getfield 21, 3) := by decide +kernel
theorem dX2_enter_72 : decode cX2_enter 72 = .ok (.iload_n 3, 1) := by decide +kernel
theorem dX2_enter_73 : decode cX2_enter 73 = .ok (.isub, 1) := by decide +kernel
theorem dX2_enter_74 : decode cX2_enter 74 = .ok (.invokestatic 51, 3) := by decide +kernel
theorem dX2_enter_77 : decode cX2_enter 77 = .ok (.aload_n 0, 1) := by decide +kernel
theorem dX2_enter_78 : decode cX2_enter 78 = .ok (.getfield 15, 3) := by decide +kernel
theorem dX2_enter_81 : decode cX2_enter 81 = .ok (.iload_n 3, 1) := by decide +kernel
theorem dX2_enter_82 : decode cX2_enter 82 = .ok (.aload_n 0, 1) := by decide +kernel
theorem dX2_enter_83 : decode cX2_enter 83 = .ok (.getfield 15, 3) := by decide +kernel
theorem dX2_enter_86 : decode cX2_enter 86 = .ok (.iload_n 3, 1) := by decide +kernel
theorem dX2_enter_87 : decode cX2_enter 87 = .ok (.iconst 1, 1) := by decide +kernel
theorem dX2_enter_88 : decode cX2_enter 88 = .ok (.iadd, 1) := by decide +kernel
theorem dX2_enter_89 : decode cX2_enter 89 = .ok (.aload_n 0, 1) := by decide +kernel
theorem dX2_enter_90 : decode cX2_enter 90 = .ok (.getfield 21, 3) := by decide +kernel
theorem dX2_enter_93 : decode cX2_enter 93 = .ok (.iload_n 3, 1) := by decide +kernel
theorem dX2_enter_94 : decode cX2_enter 94 = .ok (.isub, 1) := by decide +kernel
theorem dX2_enter_95 : decode cX2_enter 95 = .ok (.invokestatic 51, 3) := by decide +kernel
theorem dX2_enter_98 : decode cX2_enter 98 = .ok (.aload_n 0, 1) := by decide +kernel
theorem dX2_enter_99 : decode cX2_enter 99 = .ok (.getfield 18, 3) := by decide +kernel
theorem dX2_enter_102 : decode cX2_enter 102 = .ok (.iload_n 3, 1) := by decide +kernel
theorem dX2_enter_103 : decode cX2_enter 103 = .ok (.aload_n 0, 1) := by decide +kernel
theorem dX2_enter_104 : decode cX2_enter 104 = .ok (.getfield 18, 3) := by decide +kernel
theorem dX2_enter_107 : decode cX2_enter 107 = .ok (.iload_n 3, 1) := by decide +kernel
theorem dX2_enter_108 : decode cX2_enter 108 = .ok (.iconst 1, 1) := by decide +kernel
theorem dX2_enter_109 : decode cX2_enter 109 = .ok (.iadd, 1) := by decide +kernel
theorem dX2_enter_110 : decode cX2_enter 110 = .ok (.aload_n 0, 1) := by decide +kernel
theorem dX2_enter_111 : decode cX2_enter 111 = .ok (.getfield 21, 3) := by decide +kernel
theorem dX2_enter_114 : decode cX2_enter 114 = .ok (.iload_n 3, 1) := by decide +kernel
theorem dX2_enter_115 : decode cX2_enter 115 = .ok (.isub, 1) := by decide +kernel
theorem dX2_enter_116 : decode cX2_enter 116 = .ok (.invokestatic 51, 3) := by decide +kernel
theorem dX2_enter_119 : decode cX2_enter 119 = .ok (.aload_n 0, 1) := by decide +kernel
theorem dX2_enter_120 : decode cX2_enter 120 = .ok (.getfield 9, 3) := by decide +kernel
theorem dX2_enter_123 : decode cX2_enter 123 = .ok (.iload_n 3, 1) := by decide +kernel
theorem dX2_enter_124 : decode cX2_enter 124 = .ok (.iload_n 2, 1) := by decide +kernel
theorem dX2_enter_125 : decode cX2_enter 125 = .ok (.iastore, 1) := by decide +kernel
theorem dX2_enter_126 : decode cX2_enter 126 = .ok (.aload_n 0, 1) := by decide +kernel
theorem dX2_enter_127 : decode cX2_enter 127 = .ok (.getfield 15, 3) := by decide +kernel
theorem dX2_enter_130 : decode cX2_enter 130 = .ok (.iload_n 3, 1) := by decide +kernel
theorem dX2_enter_131 : decode cX2_enter 131 = .ok (.iload_n 1, 1) := by decide +kernel
theorem dX2_enter_132 : decode cX2_enter 132 = .ok (.iastore, 1) := by decide +kernel
theorem dX2_enter_133 : decode cX2_enter 133 = .ok (.aload_n 0, 1) := by decide +kernel
theorem dX2_enter_134 : decode cX2_enter 134 = .ok (.getfield 18, 3) := by decide +kernel
theorem dX2_enter_137 : decode cX2_enter 137 = .ok (.iload_n 3, 1) := by decide +kernel
theorem dX2_enter_138 : decode cX2_enter 138 = .ok (.iconst 1, 1) := by decide +kernel
theorem dX2_enter_139 : decode cX2_enter 139 = .ok (.iastore, 1) := by decide +kernel
theorem dX2_enter_140 : decode cX2_enter 140 = .ok (.aload_n 0, 1) := by decide +kernel
theorem dX2_enter_141 : decode cX2_enter 141 = .ok (.dup, 1) := by decide +kernel
theorem dX2_enter_142 : decode cX2_enter 142 = .ok (.getfield 21, 3) := by decide +kernel
theorem dX2_enter_145 : decode cX2_enter 145 = .ok (.iconst 1, 1) := by decide +kernel
theorem dX2_enter_146 : decode cX2_enter 146 = .ok (.iadd, 1) := by decide +kernel
theorem dX2_enter_147 : decode cX2_enter 147 = .ok (.putfield 21, 3) := by decide +kernel
theorem dX2_enter_150 : decode cX2_enter 150 = .ok (.return_, 1) := by decide +kernel
set_option maxRecDepth 20000 in
theorem ggX3_init_X1_init : GoodIn wsX3_init wsX1_init := goodIn_r _ [28, 29, 2, 3, 13, 30, 31, 32, 33, 34, 35, 36, 37, 57, 58, 59, 60] (by decide +kernel) (by decide +kernel)
set_option maxRecDepth 20000 in
theorem gX3_init_X1_init : GoodIn wsX3_init (wsX1_init) := ggX3_init_X1_init
set_option maxRecDepth 20000 in
theorem ggX3_init_X0_init : GoodIn wsX3_init wsX0_init := goodIn_r _ [40, 41, 2, 3, 13, 42, 43, 44, 45, 46, 47, 48, 72, 73, 74, 75, 76, 77, 78] (by decide +kernel) (by decide +kernel)
set_option maxRecDepth 20000 in
theorem gX3_init_X0_init : GoodIn wsX3_init (wsX0_init) := ggX3_init_X0_init
set_option maxRecDepth 20000 in
theorem ggX3_init_X2_init : GoodIn wsX3_init wsX2_init := goodIn_r _ [51, 52, 2, 3, 13, 53, 54, 55, 56, 79, 80, 81, 82] (by decide +kernel) (by decide +kernel)
set_option maxRecDepth 20000 in
theorem gX3_init_X2_init : GoodIn wsX3_init (wsX2_init) := ggX3_init_X2_init
theorem dX3_init_0 : decode cX3_init 0 = .ok (.aload_n 0, 1) := by decide +kernel
theorem dX3_init_1 : decode cX3_init 1 = .ok (.invokespecial 1, 3) := by decide +kernel
theorem dX3_init_4 : decode cX3_init 4 = .ok (.aload_n 0, 1) := by decide +kernel
theorem dX3_init_5 : decode cX3_init 5 = .ok (.new 7, 3) := by decide +kernel
theorem dX3_init_8 : decode cX3_init 8 = .ok (.dup, 1) := by decide +kernel
theorem dX3_init_9 : decode cX3_init 9 = .ok (.invokespecial 9, 3) := by decide +kernel
theorem dX3_init_12 : decode cX3_init 12 = .ok (.putfield 10, 3) := by decide +kernel
theorem dX3_init_15 : decode cX3_init 15 = .ok (.aload_n 0, 1) := by decide +kernel
theorem dX3_init_16 : decode cX3_init 16 = .ok (.bipush 6, 2) := by decide +kernel
theorem dX3_init_18 : decode cX3_init 18 = .ok (.anewarray 7, 3) := by decide +kernel
theorem dX3_init_21 : decode cX3_init 21 = .ok (.putfield 16, 3) := by decide +kernel
theorem dX3_init_24 : decode cX3_init 24 = .ok (.aload_n 0, 1) := by decide +kernel
theorem dX3_init_25 : decode cX3_init 25 = .ok (.iconst 0, 1) := by decide +kernel
theorem dX3_init_26 : decode cX3_init 26 = .ok (.putfield 20, 3) := by decide +kernel
theorem dX3_init_29 : decode cX3_init 29 = .ok (.aload_n 0, 1) := by decide +kernel
theorem dX3_init_30 : decode cX3_init 30 = .ok (.iconst 2, 1) := by decide +kernel
theorem dX3_init_31 : decode cX3_init 31 = .ok (.anewarray 7, 3) := by decide +kernel
theorem dX3_init_34 : decode cX3_init 34 = .ok (.putfield 24, 3) := by decide +kernel
theorem dX3_init_37 : decode cX3_init 37 = .ok (.aload_n 0, 1) := by decide +kernel
theorem dX3_init_38 : decode cX3_init 38 = .ok (.iconst 2, 1) := by decide +kernel
theorem dX3_init_39 : decode cX3_init 39 = .ok (.newarray .boolean, 2) := by decide +kernel
theorem dX3_init_41 : decode cX3_init 41 = .ok (.putfield 27, 3) := by decide +kernel
theorem dX3_init_44 : decode cX3_init 44 = .ok (.aload_n 0, 1) := by decide +kernel
theorem dX3_init_45 : decode cX3_init 45 = .ok (.bipush 64, 2) := by decide +kernel
theorem dX3_init_47 : decode cX3_init 47 = .ok (.newarray .int, 2) := by decide +kernel
theorem dX3_init_49 : decode cX3_init 49 = .ok (.putfield 31, 3) := by decide +kernel
theorem dX3_init_52 : decode cX3_init 52 = .ok (.aload_n 0, 1) := by decide +kernel
theorem dX3_init_53 : decode cX3_init 53 = .ok (.iconst 0, 1) := by decide +kernel
theorem dX3_init_54 : decode cX3_init 54 = .ok (.putfield 35, 3) := by decide +kernel
theorem dX3_init_57 : decode cX3_init 57 = .ok (.aload_n 0, 1) := by decide +kernel
theorem dX3_init_58 : decode cX3_init 58 = .ok (.bipush 10, 2) := by decide +kernel
theorem dX3_init_60 : decode cX3_init 60 = .ok (.anewarray 38, 3) := by decide +kernel
theorem dX3_init_63 : decode cX3_init 63 = .ok (.putfield 40, 3) := by decide +kernel
theorem dX3_init_66 : decode cX3_init 66 = .ok (.aload_n 0, 1) := by decide +kernel
theorem dX3_init_67 : decode cX3_init 67 = .ok (.bipush 10, 2) := by decide +kernel
theorem dX3_init_69 : decode cX3_init 69 = .ok (.newarray .boolean, 2) := by decide +kernel
theorem dX3_init_71 : decode cX3_init 71 = .ok (.putfield 44, 3) := by decide +kernel
theorem dX3_init_74 : decode cX3_init 74 = .ok (.aload_n 0, 1) := by decide +kernel
theorem dX3_init_75 : decode cX3_init 75 = .ok (.new 47, 3) := by decide +kernel
theorem dX3_init_78 : decode cX3_init 78 = .ok (.dup, 1) := by decide +kernel
theorem dX3_init_79 : decode cX3_init 79 = .ok (.invokespecial 49, 3) := by decide +kernel
theorem dX3_init_82 : decode cX3_init 82 = .ok (.putfield 50, 3) := by decide +kernel
theorem dX3_init_85 : decode cX3_init 85 = .ok (.aload_n 0, 1) := by decide +kernel
theorem dX3_init_86 : decode cX3_init 86 = .ok (.bipush 10, 2) := by decide +kernel
theorem dX3_init_88 : decode cX3_init 88 = .ok (.newarray .int, 2) := by decide +kernel
theorem dX3_init_90 : decode cX3_init 90 = .ok (.putfield 54, 3) := by decide +kernel
theorem dX3_init_93 : decode cX3_init 93 = .ok (.iconst 0, 1) := by decide +kernel
theorem dX3_init_94 : decode cX3_init 94 = .ok (.istore_n 1, 1) := by decide +kernel
theorem dX3_init_95 : decode cX3_init 95 = .ok (.iload_n 1, 1) := by decide +kernel
theorem dX3_init_96 : decode cX3_init 96 = .ok (.bipush 6, 2) := by decide +kernel
theorem dX3_init_98 : decode cX3_init 98 = .ok (.if_icmp .ge 22, 3) := by decide +kernel
theorem dX3_init_101 : decode cX3_init 101 = .ok (.aload_n 0, 1) := by decide +kernel
theorem dX3_init_102 : decode cX3_init 102 = .ok (.getfield 16, 3) := by decide +kernel
theorem dX3_init_105 : decode cX3_init 105 = .ok (.iload_n 1, 1) := by decide +kernel
theorem dX3_init_106 : decode cX3_init 106 = .ok (.new 7, 3) := by decide +kernel
theorem dX3_init_109 : decode cX3_init 109 = .ok (.dup, 1) := by decide +kernel
theorem dX3_init_110 : decode cX3_init 110 = .ok (.invokespecial 9, 3) := by decide +kernel
theorem dX3_init_113 : decode cX3_init 113 = .ok (.aastore, 1) := by decide +kernel
theorem dX3_init_114 : decode cX3_init 114 = .ok (.iinc 1 1, 3) := by decide +kernel
theorem dX3_init_117 : decode cX3_init 117 = .ok (.goto (-22), 3) := by decide +kernel
theorem dX3_init_120 : decode cX3_init 120 = .ok (.iconst 0, 1) := by decide +kernel
theorem dX3_init_121 : decode cX3_init 121 = .ok (.istore_n 1, 1) := by decide +kernel
theorem dX3_init_122 : decode cX3_init 122 = .ok (.iload_n 1, 1) := by decide +kernel
theorem dX3_init_123 : decode cX3_init 123 = .ok (.iconst 2, 1) := by decide +kernel
theorem dX3_init_124 : decode cX3_init 124 = .ok (.if_icmp .ge 22, 3) := by decide +kernel
theorem dX3_init_127 : decode cX3_init 127 = .ok (.aload_n 0, 1) := by decide +kernel
theorem dX3_init_128 : decode cX3_init 128 = .ok (.getfield 24, 3) := by decide +kernel
theorem dX3_init_131 : decode cX3_init 131 = .ok (.iload_n 1, 1) := by decide +kernel
theorem dX3_init_132 : decode cX3_init 132 = .ok (.new 7, 3) := by decide +kernel
theorem dX3_init_135 : decode cX3_init 135 = .ok (.dup, 1) := by decide +kernel
theorem dX3_init_136 : decode cX3_init 136 = .ok (.invokespecial 9, 3) := by decide +kernel
theorem dX3_init_139 : decode cX3_init 139 = .ok (.aastore, 1) := by decide +kernel
theorem dX3_init_140 : decode cX3_init 140 = .ok (.iinc 1 1, 3) := by decide +kernel
theorem dX3_init_143 : decode cX3_init 143 = .ok (.goto (-21), 3) := by decide +kernel
theorem dX3_init_146 : decode cX3_init 146 = .ok (.iconst 0, 1) := by decide +kernel
theorem dX3_init_147 : decode cX3_init 147 = .ok (.istore_n 1, 1) := by decide +kernel
theorem dX3_init_148 : decode cX3_init 148 = .ok (.iload_n 1, 1) := by decide +kernel
theorem dX3_init_149 : decode cX3_init 149 = .ok (.bipush 10, 2) := by decide +kernel
theorem dX3_init_151 : decode cX3_init 151 = .ok (.if_icmp .ge 22, 3) := by decide +kernel
theorem dX3_init_154 : decode cX3_init 154 = .ok (.aload_n 0, 1) := by decide +kernel
theorem dX3_init_155 : decode cX3_init 155 = .ok (.getfield 40, 3) := by decide +kernel
theorem dX3_init_158 : decode cX3_init 158 = .ok (.iload_n 1, 1) := by decide +kernel
theorem dX3_init_159 : decode cX3_init 159 = .ok (.new 38, 3) := by decide +kernel
theorem dX3_init_162 : decode cX3_init 162 = .ok (.dup, 1) := by decide +kernel
theorem dX3_init_163 : decode cX3_init 163 = .ok (.invokespecial 57, 3) := by decide +kernel
theorem dX3_init_166 : decode cX3_init 166 = .ok (.aastore, 1) := by decide +kernel
theorem dX3_init_167 : decode cX3_init 167 = .ok (.iinc 1 1, 3) := by decide +kernel
theorem dX3_init_170 : decode cX3_init 170 = .ok (.goto (-22), 3) := by decide +kernel
theorem dX3_init_173 : decode cX3_init 173 = .ok (.return_, 1) := by decide +kernel
set_option maxRecDepth 20000 in
theorem ggX3_set_X3_beginChange : GoodIn wsX3_set wsX3_beginChange := goodIn_r _ [9, 10, 11, 3, 12, 13, 14, 8, 15, 16, 17, 18, 19, 20, 21, 22, 23, 24, 25, 26, 27, 28, 29, 30, 31, 32, 33, 34, 35, 36, 37, 38, 39, 40, 41, 42, 43, 44, 45, 46, 47, 48] (by decide +kernel) (by decide +kernel)
set_option maxRecDepth 20000 in
theorem gX3_set_X3_beginChange : GoodIn wsX3_set (wsV RX3 64 RX3 yX3_beginChange wsX3_beginChange) := goodIn_app (goodIn_of _ (by decide +kernel)) ggX3_set_X3_beginChange
theorem dX3_set_0 : decode cX3_set 0 = .ok (.iload_n 1, 1) := by decide +kernel
theorem dX3_set_1 : decode cX3_set 1 = .ok (.ifCond .lt 8, 3) := by decide +kernel
theorem dX3_set_4 : decode cX3_set 4 = .ok (.iload_n 1, 1) := by decide +kernel
theorem dX3_set_5 : decode cX3_set 5 = .ok (.iconst 4, 1) := by decide +kernel
theorem dX3_set_6 : decode cX3_set 6 = .ok (.if_icmp .lt 6, 3) := by decide +kernel
theorem dX3_set_9 : decode cX3_set 9 = .ok (.bipush (-2), 2) := by decide +kernel
theorem dX3_set_11 : decode cX3_set 11 = .ok (.ireturn, 1) := by decide +kernel
theorem dX3_set_12 : decode cX3_set 12 = .ok (.iload_n 2, 1) := by decide +kernel
theorem dX3_set_13 : decode cX3_set 13 = .ok (.getstatic 58, 3) := by decide +kernel
theorem dX3_set_16 : decode cX3_set 16 = .ok (.iload_n 1, 1) := by decide +kernel
theorem dX3_set_17 : decode cX3_set 17 = .ok (.iaload, 1) := by decide +kernel
theorem dX3_set_18 : decode cX3_set 18 = .ok (.if_icmp .lt 12, 3) := by decide +kernel
theorem dX3_set_21 : decode cX3_set 21 = .ok (.iload_n 2, 1) := by decide +kernel
theorem dX3_set_22 : decode cX3_set 22 = .ok (.getstatic 61, 3) := by decide +kernel
theorem dX3_set_25 : decode cX3_set 25 = .ok (.iload_n 1, 1) := by decide +kernel
theorem dX3_set_26 : decode cX3_set 26 = .ok (.iaload, 1) := by decide +kernel
theorem dX3_set_27 : decode cX3_set 27 = .ok (.if_icmp .le 6, 3) := by decide +kernel
theorem dX3_set_30 : decode cX3_set 30 = .ok (.bipush (-2), 2) := by decide +kernel
theorem dX3_set_32 : decode cX3_set 32 = .ok (.ireturn, 1) := by decide +kernel
theorem dX3_set_33 : decode cX3_set 33 = .ok (.aload_n 0, 1) := by decide +kernel
theorem dX3_set_34 : decode cX3_set 34 = .ok (.invokevirtual 64, 3) := by decide +kernel
theorem dX3_set_37 : decode cX3_set 37 = .ok (.aload_n 0, 1) := by decide +kernel
theorem dX3_set_38 : decode cX3_set 38 = .ok (.getfield 10, 3) := by decide +kernel
theorem dX3_set_41 : decode cX3_set 41 = .ok (.getfield 67, 3) := by decide +kernel
theorem dX3_set_44 : decode cX3_set 44 = .ok (.iload_n 1, 1) := by decide +kernel
theorem dX3_set_45 : decode cX3_set 45 = .ok (.iaload, 1) := by decide +kernel
theorem dX3_set_46 : decode cX3_set 46 = .ok (.istore_n 3, 1) := by decide +kernel
theorem dX3_set_47 : decode cX3_set 47 = .ok (.aload_n 0, 1) := by decide +kernel
theorem dX3_set_48 : decode cX3_set 48 = .ok (.getfield 10, 3) := by decide +kernel
theorem dX3_set_51 : decode cX3_set 51 = .ok (.getfield 67, 3) := by decide +kernel
theorem dX3_set_54 : decode cX3_set 54 = .ok (.iload_n 1, 1) := by decide +kernel
theorem dX3_set_55 : decode cX3_set 55 = .ok (.iload_n 2, 1) := by decide +kernel
theorem dX3_set_56 : decode cX3_set 56 = .ok (.iastore, 1) := by decide +kernel
theorem dX3_set_57 : decode cX3_set 57 = .ok (.iload_n 3, 1) := by decide +kernel
theorem dX3_set_58 : decode cX3_set 58 = .ok (.ireturn, 1) := by decide +kernel
set_option maxRecDepth 20000 in
theorem ggX3_add_X3_padFault : GoodIn wsX3_add wsX3_padFault := goodIn_r _ [8, 9, 10, 11, 12, 7, 13, 47, 48, 49, 50, 51, 52, 53, 54, 55, 56, 57] (by decide +kernel) (by decide +kernel)
set_option maxRecDepth 20000 in
theorem gX3_add_X3_padFault : GoodIn wsX3_add (wsV RX3 70 RX3 yX3_padFault wsX3_padFault) := goodIn_app (goodIn_of _ (by decide +kernel)) ggX3_add_X3_padFault
set_option maxRecDepth 20000 in
theorem ggX3_add_X3_beginChange : GoodIn wsX3_add wsX3_beginChange := goodIn_r _ [17, 18, 19, 1, 20, 21, 22, 7, 23, 24, 25, 26, 27, 28, 29, 30, 31, 32, 33, 34, 35, 36, 37, 38, 39, 40, 41, 47, 48, 49, 50, 51, 52, 53, 54, 55, 56, 57, 58, 59, 60, 61] (by decide +kernel) (by decide +kernel)
set_option maxRecDepth 20000 in
theorem gX3_add_X3_beginChange : GoodIn wsX3_add (wsV RX3 64 RX3 yX3_beginChange wsX3_beginChange) := goodIn_app (goodIn_of _ (by decide +kernel)) ggX3_add_X3_beginChange
set_option maxRecDepth 20000 in
theorem ggX3_add_X3_movePadTo : GoodIn wsX3_add wsX3_movePadTo := goodIn_r _ [45, 1, 3, 9, 46, 10, 11, 12, 7, 13, 47, 48, 49, 50, 51, 52, 53, 54, 55, 56, 57, 58, 59, 60, 61] (by decide +kernel) (by decide +kernel)
set_option maxRecDepth 20000 in
theorem gX3_add_X3_movePadTo : GoodIn wsX3_add (wsV RX3 80 RX3 yX3_movePadTo wsX3_movePadTo) := goodIn_app (goodIn_of _ (by decide +kernel)) ggX3_add_X3_movePadTo
theorem dX3_add_0 : decode cX3_add 0 = .ok (.aload_n 0, 1) := by decide +kernel
theorem dX3_add_1 : decode cX3_add 1 = .ok (.invokevirtual 70, 3) := by decide +kernel
theorem dX3_add_4 : decode cX3_add 4 = .ok (.bipush (-6), 2) := by decide +kernel
theorem dX3_add_6 : decode cX3_add 6 = .ok (.if_icmp .eq 6, 3) := by decide +kernel
theorem dX3_add_9 : decode cX3_add 9 = .ok (.bipush (-3), 2) := by decide +kernel
theorem dX3_add_11 : decode cX3_add 11 = .ok (.ireturn, 1) := by decide +kernel
theorem dX3_add_12 : decode cX3_add 12 = .ok (.aload_n 0, 1) := by decide +kernel
theorem dX3_add_13 : decode cX3_add 13 = .ok (.getfield 10, 3) := by decide +kernel
theorem dX3_add_16 : decode cX3_add 16 = .ok (.getfield 74, 3) := by decide +kernel
theorem dX3_add_19 : decode cX3_add 19 = .ok (.bipush 10, 2) := by decide +kernel
theorem dX3_add_21 : decode cX3_add 21 = .ok (.if_icmp .lt 6, 3) := by decide +kernel
theorem dX3_add_24 : decode cX3_add 24 = .ok (.bipush (-4), 2) := by decide +kernel
theorem dX3_add_26 : decode cX3_add 26 = .ok (.ireturn, 1) := by decide +kernel
theorem dX3_add_27 : decode cX3_add 27 = .ok (.aload_n 0, 1) := by decide +kernel
theorem dX3_add_28 : decode cX3_add 28 = .ok (.invokevirtual 64, 3) := by decide +kernel
theorem dX3_add_31 : decode cX3_add 31 = .ok (.aload_n 0, 1) := by decide +kernel
theorem dX3_add_32 : decode cX3_add 32 = .ok (.getfield 10, 3) := by decide +kernel
theorem dX3_add_35 : decode cX3_add 35 = .ok (.getfield 74, 3) := by decide +kernel
theorem dX3_add_38 : decode cX3_add 38 = .ok (.istore_n 1, 1) := by decide +kernel
theorem dX3_add_39 : decode cX3_add 39 = .ok (.aload_n 0, 1) := by decide +kernel
theorem dX3_add_40 : decode cX3_add 40 = .ok (.getfield 10, 3) := by decide +kernel
theorem dX3_add_43 : decode cX3_add 43 = .ok (.dup, 1) := by decide +kernel
theorem dX3_add_44 : decode cX3_add 44 = .ok (.getfield 74, 3) := by decide +kernel
theorem dX3_add_47 : decode cX3_add 47 = .ok (.iconst 1, 1) := by decide +kernel
theorem dX3_add_48 : decode cX3_add 48 = .ok (.iadd, 1) := by decide +kernel
theorem dX3_add_49 : decode cX3_add 49 = .ok (.putfield 74, 3) := by decide +kernel
theorem dX3_add_52 : decode cX3_add 52 = .ok (.aload_n 0, 1) := by decide +kernel
theorem dX3_add_53 : decode cX3_add 53 = .ok (.getfield 10, 3) := by decide +kernel
theorem dX3_add_56 : decode cX3_add 56 = .ok (.getfield 77, 3) := by decide +kernel
theorem dX3_add_59 : decode cX3_add 59 = .ok (.iload_n 1, 1) := by decide +kernel
theorem dX3_add_60 : decode cX3_add 60 = .ok (.iconst 0, 1) := by decide +kernel
theorem dX3_add_61 : decode cX3_add 61 = .ok (.iastore, 1) := by decide +kernel
theorem dX3_add_62 : decode cX3_add 62 = .ok (.aload_n 0, 1) := by decide +kernel
theorem dX3_add_63 : decode cX3_add 63 = .ok (.iload_n 1, 1) := by decide +kernel
theorem dX3_add_64 : decode cX3_add 64 = .ok (.invokevirtual 80, 3) := by decide +kernel
theorem dX3_add_67 : decode cX3_add 67 = .ok (.iload_n 1, 1) := by decide +kernel
theorem dX3_add_68 : decode cX3_add 68 = .ok (.ireturn, 1) := by decide +kernel
set_option maxRecDepth 20000 in
theorem ggX3_append_X3_noRow : GoodIn wsX3_append wsX3_noRow := goodIn_r _ [8, 1, 9, 51, 52, 53, 54, 55, 56, 57, 58, 59, 60, 61, 62, 63, 64, 65] (by decide +kernel) (by decide +kernel)
set_option maxRecDepth 20000 in
theorem gX3_append_X3_noRow : GoodIn wsX3_append (wsV RX3 84 RX3 yX3_noRow wsX3_noRow) := goodIn_app (goodIn_of _ (by decide +kernel)) ggX3_append_X3_noRow
set_option maxRecDepth 20000 in
theorem ggX3_append_X3_padFault : GoodIn wsX3_append wsX3_padFault := goodIn_r _ [13, 3, 14, 15, 16, 7, 17, 51, 52, 53, 54, 55, 56, 57, 58, 59, 60, 61] (by decide +kernel) (by decide +kernel)
set_option maxRecDepth 20000 in
theorem gX3_append_X3_padFault : GoodIn wsX3_append (wsV RX3 70 RX3 yX3_padFault wsX3_padFault) := goodIn_app (goodIn_of _ (by decide +kernel)) ggX3_append_X3_padFault
set_option maxRecDepth 20000 in
theorem ggX3_append_X3_beginChange : GoodIn wsX3_append wsX3_beginChange := goodIn_r _ [21, 22, 23, 1, 24, 25, 26, 7, 27, 28, 29, 30, 31, 32, 33, 34, 35, 36, 37, 38, 39, 40, 41, 42, 43, 44, 45, 51, 52, 53, 54, 55, 56, 57, 58, 59, 60, 61, 62, 63, 64, 65] (by decide +kernel) (by decide +kernel)
set_option maxRecDepth 20000 in
theorem gX3_append_X3_beginChange : GoodIn wsX3_append (wsV RX3 64 RX3 yX3_beginChange wsX3_beginChange) := goodIn_app (goodIn_of _ (by decide +kernel)) ggX3_append_X3_beginChange
set_option maxRecDepth 20000 in
theorem ggX3_append_X3_movePadTo : GoodIn wsX3_append wsX3_movePadTo := goodIn_r _ [49, 1, 2, 3, 50, 14, 15, 16, 7, 17, 51, 52, 53, 54, 55, 56, 57, 58, 59, 60, 61, 62, 63, 64, 65] (by decide +kernel) (by decide +kernel)
set_option maxRecDepth 20000 in
theorem gX3_append_X3_movePadTo : GoodIn wsX3_append (wsV RX3 80 RX3 yX3_movePadTo wsX3_movePadTo) := goodIn_app (goodIn_of _ (by decide +kernel)) ggX3_append_X3_movePadTo
theorem dX3_append_0 : decode cX3_append 0 = .ok (.aload_n 0, 1) := by decide +kernel
theorem dX3_append_1 : decode cX3_append 1 = .ok (.iload_n 1, 1) := by decide +kernel
theorem dX3_append_2 : decode cX3_append 2 = .ok (.invokevirtual 84, 3) := by decide +kernel
theorem dX3_append_5 : decode cX3_append 5 = .ok (.ifCond .eq 5, 3) := by decide +kernel
theorem dX3_append_8 : decode cX3_append 8 = .ok (.iconst (-1), 1) := by decide +kernel
theorem dX3_append_9 : decode cX3_append 9 = .ok (.ireturn, 1) := by decide +kernel
theorem dX3_append_10 : decode cX3_append 10 = .ok (.aload_n 0, 1) := by decide +kernel
theorem dX3_append_11 : decode cX3_append 11 = .ok (.invokevirtual 70, 3) := by decide +kernel
theorem dX3_append_14 : decode cX3_append 14 = .ok (.bipush (-6), 2) := by decide +kernel
theorem dX3_append_16 : decode cX3_append 16 = .ok (.if_icmp .eq 6, 3) := by decide +kernel
theorem dX3_append_19 : decode cX3_append 19 = .ok (.bipush (-3), 2) := by decide +kernel
theorem dX3_append_21 : decode cX3_append 21 = .ok (.ireturn, 1) := by decide +kernel
theorem dX3_append_22 : decode cX3_append 22 = .ok (.aload_n 0, 1) := by decide +kernel
theorem dX3_append_23 : decode cX3_append 23 = .ok (.getfield 10, 3) := by decide +kernel
theorem dX3_append_26 : decode cX3_append 26 = .ok (.getfield 77, 3) := by decide +kernel
theorem dX3_append_29 : decode cX3_append 29 = .ok (.iload_n 1, 1) := by decide +kernel
theorem dX3_append_30 : decode cX3_append 30 = .ok (.iaload, 1) := by decide +kernel
theorem dX3_append_31 : decode cX3_append 31 = .ok (.aload_n 0, 1) := by decide +kernel
theorem dX3_append_32 : decode cX3_append 32 = .ok (.getfield 35, 3) := by decide +kernel
theorem dX3_append_35 : decode cX3_append 35 = .ok (.iadd, 1) := by decide +kernel
theorem dX3_append_36 : decode cX3_append 36 = .ok (.bipush 64, 2) := by decide +kernel
theorem dX3_append_38 : decode cX3_append 38 = .ok (.if_icmp .le 6, 3) := by decide +kernel
theorem dX3_append_41 : decode cX3_append 41 = .ok (.bipush (-4), 2) := by decide +kernel
theorem dX3_append_43 : decode cX3_append 43 = .ok (.ireturn, 1) := by decide +kernel
theorem dX3_append_44 : decode cX3_append 44 = .ok (.aload_n 0, 1) := by decide +kernel
theorem dX3_append_45 : decode cX3_append 45 = .ok (.invokevirtual 64, 3) := by decide +kernel
theorem dX3_append_48 : decode cX3_append 48 = .ok (.aload_n 0, 1) := by decide +kernel
theorem dX3_append_49 : decode cX3_append 49 = .ok (.iload_n 1, 1) := by decide +kernel
theorem dX3_append_50 : decode cX3_append 50 = .ok (.invokevirtual 80, 3) := by decide +kernel
theorem dX3_append_53 : decode cX3_append 53 = .ok (.aload_n 0, 1) := by decide +kernel
theorem dX3_append_54 : decode cX3_append 54 = .ok (.getfield 10, 3) := by decide +kernel
theorem dX3_append_57 : decode cX3_append 57 = .ok (.getfield 77, 3) := by decide +kernel
theorem dX3_append_60 : decode cX3_append 60 = .ok (.iload_n 1, 1) := by decide +kernel
theorem dX3_append_61 : decode cX3_append 61 = .ok (.iaload, 1) := by decide +kernel
theorem dX3_append_62 : decode cX3_append 62 = .ok (.ireturn, 1) := by decide +kernel
set_option maxRecDepth 20000 in
theorem ggX3_change_X3_noPlace : GoodIn wsX3_change wsX3_noPlace := goodIn_r _ [7, 1, 8, 9, 10, 11, 6, 12, 13, 42, 43, 44, 45, 46, 47, 48, 49, 50, 51, 52, 53, 54, 55, 56] (by decide +kernel) (by decide +kernel)
set_option maxRecDepth 20000 in
theorem gX3_change_X3_noPlace : GoodIn wsX3_change (wsV RX3 88 RX3 yX3_noPlace wsX3_noPlace) := goodIn_app (goodIn_of _ (by decide +kernel)) ggX3_change_X3_noPlace
set_option maxRecDepth 20000 in
theorem ggX3_change_X3_beginChange : GoodIn wsX3_change wsX3_beginChange := goodIn_r _ [17, 18, 19, 1, 20, 21, 22, 6, 23, 24, 25, 26, 27, 28, 29, 30, 31, 32, 33, 34, 35, 36, 37, 38, 39, 40, 41, 42, 43, 44, 45, 46, 47, 48, 49, 50, 51, 52, 53, 54, 55, 56] (by decide +kernel) (by decide +kernel)
set_option maxRecDepth 20000 in
theorem gX3_change_X3_beginChange : GoodIn wsX3_change (wsV RX3 64 RX3 yX3_beginChange wsX3_beginChange) := goodIn_app (goodIn_of _ (by decide +kernel)) ggX3_change_X3_beginChange
theorem dX3_change_0 : decode cX3_change 0 = .ok (.aload_n 0, 1) := by decide +kernel
theorem dX3_change_1 : decode cX3_change 1 = .ok (.iload_n 1, 1) := by decide +kernel
theorem dX3_change_2 : decode cX3_change 2 = .ok (.iload_n 2, 1) := by decide +kernel
theorem dX3_change_3 : decode cX3_change 3 = .ok (.invokevirtual 88, 3) := by decide +kernel
theorem dX3_change_6 : decode cX3_change 6 = .ok (.ifCond .eq 5, 3) := by decide +kernel
theorem dX3_change_9 : decode cX3_change 9 = .ok (.iconst (-1), 1) := by decide +kernel
theorem dX3_change_10 : decode cX3_change 10 = .ok (.ireturn, 1) := by decide +kernel
theorem dX3_change_11 : decode cX3_change 11 = .ok (.iload_n 3, 1) := by decide +kernel
theorem dX3_change_12 : decode cX3_change 12 = .ok (.ifCond .lt 9, 3) := by decide +kernel
theorem dX3_change_15 : decode cX3_change 15 = .ok (.iload_n 3, 1) := by decide +kernel
theorem dX3_change_16 : decode cX3_change 16 = .ok (.bipush 26, 2) := by decide +kernel
theorem dX3_change_18 : decode cX3_change 18 = .ok (.if_icmp .le 6, 3) := by decide +kernel
theorem dX3_change_21 : decode cX3_change 21 = .ok (.bipush (-2), 2) := by decide +kernel
theorem dX3_change_23 : decode cX3_change 23 = .ok (.ireturn, 1) := by decide +kernel
theorem dX3_change_24 : decode cX3_change 24 = .ok (.aload_n 0, 1) := by decide +kernel
theorem dX3_change_25 : decode cX3_change 25 = .ok (.invokevirtual 64, 3) := by decide +kernel
theorem dX3_change_28 : decode cX3_change 28 = .ok (.iload_n 1, 1) := by decide +kernel
theorem dX3_change_29 : decode cX3_change 29 = .ok (.bipush 64, 2) := by decide +kernel
theorem dX3_change_31 : decode cX3_change 31 = .ok (.imul, 1) := by decide +kernel
theorem dX3_change_32 : decode cX3_change 32 = .ok (.iload_n 2, 1) := by decide +kernel
theorem dX3_change_33 : decode cX3_change 33 = .ok (.iadd, 1) := by decide +kernel
theorem dX3_change_34 : decode cX3_change 34 = .ok (.istore 4, 2) := by decide +kernel
theorem dX3_change_36 : decode cX3_change 36 = .ok (.aload_n 0, 1) := by decide +kernel
theorem dX3_change_37 : decode cX3_change 37 = .ok (.getfield 10, 3) := by decide +kernel
theorem dX3_change_40 : decode cX3_change 40 = .ok (.getfield 92, 3) := by decide +kernel
theorem dX3_change_43 : decode cX3_change 43 = .ok (.iload 4, 2) := by decide +kernel
theorem dX3_change_45 : decode cX3_change 45 = .ok (.iaload, 1) := by decide +kernel
theorem dX3_change_46 : decode cX3_change 46 = .ok (.istore 5, 2) := by decide +kernel
theorem dX3_change_48 : decode cX3_change 48 = .ok (.aload_n 0, 1) := by decide +kernel
theorem dX3_change_49 : decode cX3_change 49 = .ok (.getfield 10, 3) := by decide +kernel
theorem dX3_change_52 : decode cX3_change 52 = .ok (.getfield 92, 3) := by decide +kernel
theorem dX3_change_55 : decode cX3_change 55 = .ok (.iload 4, 2) := by decide +kernel
theorem dX3_change_57 : decode cX3_change 57 = .ok (.iload_n 3, 1) := by decide +kernel
theorem dX3_change_58 : decode cX3_change 58 = .ok (.iastore, 1) := by decide +kernel
theorem dX3_change_59 : decode cX3_change 59 = .ok (.iload 5, 2) := by decide +kernel
theorem dX3_change_61 : decode cX3_change 61 = .ok (.ireturn, 1) := by decide +kernel
set_option maxRecDepth 20000 in
theorem ggX3_remove_X3_noRow : GoodIn wsX3_remove wsX3_noRow := goodIn_r _ [13, 1, 2, 39, 40, 41, 42, 43, 44, 45, 46, 47, 48, 49, 50, 51, 52, 53] (by decide +kernel) (by decide +kernel)
set_option maxRecDepth 20000 in
theorem gX3_remove_X3_noRow : GoodIn wsX3_remove (wsV RX3 84 RX3 yX3_noRow wsX3_noRow) := goodIn_app (goodIn_of _ (by decide +kernel)) ggX3_remove_X3_noRow
set_option maxRecDepth 20000 in
theorem ggX3_remove_X3_beginChange : GoodIn wsX3_remove wsX3_beginChange := goodIn_r _ [17, 18, 19, 1, 20, 21, 22, 12, 23, 24, 25, 26, 27, 28, 29, 30, 5, 6, 7, 31, 32, 33, 34, 35, 36, 37, 38, 39, 40, 41, 42, 43, 44, 45, 46, 47, 48, 49, 50, 51, 52, 53] (by decide +kernel) (by decide +kernel)
set_option maxRecDepth 20000 in
theorem gX3_remove_X3_beginChange : GoodIn wsX3_remove (wsV RX3 64 RX3 yX3_beginChange wsX3_beginChange) := goodIn_app (goodIn_of _ (by decide +kernel)) ggX3_remove_X3_beginChange
theorem dX3_remove_0 : decode cX3_remove 0 = .ok (.aload_n 0, 1) := by decide +kernel
theorem dX3_remove_1 : decode cX3_remove 1 = .ok (.iload_n 1, 1) := by decide +kernel
theorem dX3_remove_2 : decode cX3_remove 2 = .ok (.invokevirtual 84, 3) := by decide +kernel
theorem dX3_remove_5 : decode cX3_remove 5 = .ok (.ifCond .eq 5, 3) := by decide +kernel
theorem dX3_remove_8 : decode cX3_remove 8 = .ok (.iconst (-1), 1) := by decide +kernel
theorem dX3_remove_9 : decode cX3_remove 9 = .ok (.ireturn, 1) := by decide +kernel
theorem dX3_remove_10 : decode cX3_remove 10 = .ok (.aload_n 0, 1) := by decide +kernel
theorem dX3_remove_11 : decode cX3_remove 11 = .ok (.invokevirtual 64, 3) := by decide +kernel
theorem dX3_remove_14 : decode cX3_remove 14 = .ok (.aload_n 0, 1) := by decide +kernel
theorem dX3_remove_15 : decode cX3_remove 15 = .ok (.getfield 10, 3) := by decide +kernel
theorem dX3_remove_18 : decode cX3_remove 18 = .ok (.getfield 74, 3) := by decide +kernel
theorem dX3_remove_21 : decode cX3_remove 21 = .ok (.iconst 1, 1) := by decide +kernel
theorem dX3_remove_22 : decode cX3_remove 22 = .ok (.isub, 1) := by decide +kernel
theorem dX3_remove_23 : decode cX3_remove 23 = .ok (.iload_n 1, 1) := by decide +kernel
theorem dX3_remove_24 : decode cX3_remove 24 = .ok (.isub, 1) := by decide +kernel
theorem dX3_remove_25 : decode cX3_remove 25 = .ok (.istore_n 2, 1) := by decide +kernel
theorem dX3_remove_26 : decode cX3_remove 26 = .ok (.aload_n 0, 1) := by decide +kernel
theorem dX3_remove_27 : decode cX3_remove 27 = .ok (.getfield 10, 3) := by decide +kernel
theorem dX3_remove_30 : decode cX3_remove 30 = .ok (.getfield 77, 3) := by decide +kernel
theorem dX3_remove_33 : decode cX3_remove 33 = .ok (.iload_n 1, 1) := by decide +kernel
theorem dX3_remove_34 : decode cX3_remove 34 = .ok (.iconst 1, 1) := by decide +kernel
theorem dX3_remove_35 : decode cX3_remove 35 = .ok (.iadd, 1) := by decide +kernel
theorem dX3_remove_36 : decode cX3_remove 36 = .ok (.aload_n 0, 1) := by decide +kernel
theorem dX3_remove_37 : decode cX3_remove 37 = .ok (.getfield 10, 3) := by decide +kernel
theorem dX3_remove_40 : decode cX3_remove 40 = .ok (.getfield 77, 3) := by decide +kernel
theorem dX3_remove_43 : decode cX3_remove 43 = .ok (.iload_n 1, 1) := by decide +kernel
theorem dX3_remove_44 : decode cX3_remove 44 = .ok (.iload_n 2, 1) := by decide +kernel
theorem dX3_remove_45 : decode cX3_remove 45 = .ok (.invokestatic 95, 3) := by decide +kernel
theorem dX3_remove_48 : decode cX3_remove 48 = .ok (.aload_n 0, 1) := by decide +kernel
theorem dX3_remove_49 : decode cX3_remove 49 = .ok (.getfield 10, 3) := by decide +kernel
theorem dX3_remove_52 : decode cX3_remove 52 = .ok (.getfield 92, 3) := by decide +kernel
theorem dX3_remove_55 : decode cX3_remove 55 = .ok (.iload_n 1, 1) := by decide +kernel
theorem dX3_remove_56 : decode cX3_remove 56 = .ok (.iconst 1, 1) := by decide +kernel
theorem dX3_remove_57 : decode cX3_remove 57 = .ok (.iadd, 1) := by decide +kernel
theorem dX3_remove_58 : decode cX3_remove 58 = .ok (.bipush 64, 2) := by decide +kernel
theorem dX3_remove_60 : decode cX3_remove 60 = .ok (.imul, 1) := by decide +kernel
theorem dX3_remove_61 : decode cX3_remove 61 = .ok (.aload_n 0, 1) := by decide +kernel
theorem dX3_remove_62 : decode cX3_remove 62 = .ok (.getfield 10, 3) := by decide +kernel
theorem dX3_remove_65 : decode cX3_remove 65 = .ok (.getfield 92, 3) := by decide +kernel
theorem dX3_remove_68 : decode cX3_remove 68 = .ok (.iload_n 1, 1) := by decide +kernel
theorem dX3_remove_69 : decode cX3_remove 69 = .ok (.bipush 64, 2) := by decide +kernel
theorem dX3_remove_71 : decode cX3_remove 71 = .ok (.imul, 1) := by decide +kernel
theorem dX3_remove_72 : decode cX3_remove 72 = .ok (.iload_n 2, 1) := by decide +kernel
theorem dX3_remove_73 : decode cX3_remove 73 = .ok (.bipush 64, 2) := by decide +kernel
theorem dX3_remove_75 : decode cX3_remove 75 = .ok (.imul, 1) := by decide +kernel
theorem dX3_remove_76 : decode cX3_remove 76 = .ok (.invokestatic 95, 3) := by decide +kernel
theorem dX3_remove_79 : decode cX3_remove 79 = .ok (.aload_n 0, 1) := by decide +kernel
theorem dX3_remove_80 : decode cX3_remove 80 = .ok (.getfield 10, 3) := by decide +kernel
theorem dX3_remove_83 : decode cX3_remove 83 = .ok (.dup, 1) := by decide +kernel
theorem dX3_remove_84 : decode cX3_remove 84 = .ok (.getfield 74, 3) := by decide +kernel
theorem dX3_remove_87 : decode cX3_remove 87 = .ok (.iconst 1, 1) := by decide +kernel
theorem dX3_remove_88 : decode cX3_remove 88 = .ok (.isub, 1) := by decide +kernel
theorem dX3_remove_89 : decode cX3_remove 89 = .ok (.putfield 74, 3) := by decide +kernel
theorem dX3_remove_92 : decode cX3_remove 92 = .ok (.aload_n 0, 1) := by decide +kernel
theorem dX3_remove_93 : decode cX3_remove 93 = .ok (.getfield 10, 3) := by decide +kernel
theorem dX3_remove_96 : decode cX3_remove 96 = .ok (.getfield 74, 3) := by decide +kernel
theorem dX3_remove_99 : decode cX3_remove 99 = .ok (.ireturn, 1) := by decide +kernel
set_option maxRecDepth 20000 in
theorem ggX3_ofRow_X3_noRow : GoodIn wsX3_ofRow wsX3_noRow := goodIn_r _ [8, 1, 9, 59, 60, 61, 62, 63, 64, 65, 66, 67, 68, 69, 70, 71, 72, 73] (by decide +kernel) (by decide +kernel)
set_option maxRecDepth 20000 in
theorem gX3_ofRow_X3_noRow : GoodIn wsX3_ofRow (wsV RX3 84 RX3 yX3_noRow wsX3_noRow) := goodIn_app (goodIn_of _ (by decide +kernel)) ggX3_ofRow_X3_noRow
set_option maxRecDepth 20000 in
theorem ggX3_ofRow_X3_wordsOf : GoodIn wsX3_ofRow wsX3_wordsOf := goodIn_r _ [13, 14, 15, 1, 16, 17, 18, 19, 20, 21, 22, 23, 24, 25, 26, 27, 28, 29, 30, 31, 32, 33, 34, 35, 36, 37, 38, 39, 40, 41, 42, 43, 44, 59, 60, 61, 62, 63, 64, 65, 66, 67, 68, 69, 74, 75, 76, 77, 70, 71, 72, 73] (by decide +kernel) (by decide +kernel)
set_option maxRecDepth 20000 in
theorem gX3_ofRow_X3_wordsOf : GoodIn wsX3_ofRow (wsV RX3 101 RX3 yX3_wordsOf wsX3_wordsOf) := goodIn_app (goodIn_of _ (by decide +kernel)) ggX3_ofRow_X3_wordsOf
set_option maxRecDepth 20000 in
theorem ggX3_ofRow_X3_sampleSize : GoodIn wsX3_ofRow wsX3_sampleSize := goodIn_r _ [48, 3, 1, 49, 50, 51, 52, 53, 10, 11, 12, 7, 13, 14, 15, 16, 17, 18, 19, 20, 21, 22, 23, 24, 25, 26, 27, 28, 29, 30, 31, 32, 33, 34, 35, 36, 37, 38, 39, 40, 41, 42, 43, 44, 74, 75, 76, 77, 59, 60, 61, 62, 63, 64, 65, 66, 67, 68, 69, 70, 71, 72, 73] (by decide +kernel) (by decide +kernel)
set_option maxRecDepth 20000 in
theorem gX3_ofRow_X3_sampleSize : GoodIn wsX3_ofRow (wsV RX3 108 RX3 yX3_sampleSize wsX3_sampleSize) := goodIn_app (goodIn_of _ (by decide +kernel)) ggX3_ofRow_X3_sampleSize
set_option maxRecDepth 20000 in
theorem ggX3_ofRow_X3_greatestOfSample : GoodIn wsX3_ofRow wsX3_greatestOfSample := goodIn_r _ [57, 45, 46, 47, 7, 48, 3, 1, 49, 50, 51, 52, 53, 10, 11, 12, 13, 14, 15, 16, 17, 18, 19, 20, 21, 22, 23, 24, 25, 26, 27, 28, 29, 30, 31, 32, 33, 34, 35, 36, 37, 38, 39, 40, 41, 42, 43, 44, 58, 74, 75, 76, 77, 59, 60, 61, 62, 63, 64, 65, 66, 67, 68, 69, 70, 71, 72, 73] (by decide +kernel) (by decide +kernel)
set_option maxRecDepth 20000 in
theorem gX3_ofRow_X3_greatestOfSample : GoodIn wsX3_ofRow (wsV RX3 112 RX3 yX3_greatestOfSample wsX3_greatestOfSample) := goodIn_app (goodIn_of _ (by decide +kernel)) ggX3_ofRow_X3_greatestOfSample
theorem dX3_ofRow_0 : decode cX3_ofRow 0 = .ok (.aload_n 0, 1) := by decide +kernel
theorem dX3_ofRow_1 : decode cX3_ofRow 1 = .ok (.iload_n 1, 1) := by decide +kernel
theorem dX3_ofRow_2 : decode cX3_ofRow 2 = .ok (.invokevirtual 84, 3) := by decide +kernel
theorem dX3_ofRow_5 : decode cX3_ofRow 5 = .ok (.ifCond .eq 5, 3) := by decide +kernel
theorem dX3_ofRow_8 : decode cX3_ofRow 8 = .ok (.iconst (-1), 1) := by decide +kernel
theorem dX3_ofRow_9 : decode cX3_ofRow 9 = .ok (.ireturn, 1) := by decide +kernel
theorem dX3_ofRow_10 : decode cX3_ofRow 10 = .ok (.iload_n 2, 1) := by decide +kernel
theorem dX3_ofRow_11 : decode cX3_ofRow 11 = .ok (.tableswitch 60 0 3 #[29, 39, 48, 54], 29) := by decide +kernel
theorem dX3_ofRow_40 : decode cX3_ofRow 40 = .ok (.aload_n 0, 1) := by decide +kernel
theorem dX3_ofRow_41 : decode cX3_ofRow 41 = .ok (.getfield 10, 3) := by decide +kernel
theorem dX3_ofRow_44 : decode cX3_ofRow 44 = .ok (.getfield 77, 3) := by decide +kernel
theorem dX3_ofRow_47 : decode cX3_ofRow 47 = .ok (.iload_n 1, 1) := by decide +kernel
theorem dX3_ofRow_48 : decode cX3_ofRow 48 = .ok (.iaload, 1) := by decide +kernel
theorem dX3_ofRow_49 : decode cX3_ofRow 49 = .ok (.ireturn, 1) := by decide +kernel
theorem dX3_ofRow_50 : decode cX3_ofRow 50 = .ok (.aload_n 0, 1) := by decide +kernel
theorem dX3_ofRow_51 : decode cX3_ofRow 51 = .ok (.iload_n 1, 1) := by decide +kernel
theorem dX3_ofRow_52 : decode cX3_ofRow 52 = .ok (.invokevirtual 101, 3) := by decide +kernel
theorem dX3_ofRow_55 : decode cX3_ofRow 55 = .ok (.getfield 105, 3) := by decide +kernel
theorem dX3_ofRow_58 : decode cX3_ofRow 58 = .ok (.ireturn, 1) := by decide +kernel
theorem dX3_ofRow_59 : decode cX3_ofRow 59 = .ok (.aload_n 0, 1) := by decide +kernel
theorem dX3_ofRow_60 : decode cX3_ofRow 60 = .ok (.iload_n 1, 1) := by decide +kernel
theorem dX3_ofRow_61 : decode cX3_ofRow 61 = .ok (.invokevirtual 108, 3) := by decide +kernel
theorem dX3_ofRow_64 : decode cX3_ofRow 64 = .ok (.ireturn, 1) := by decide +kernel
theorem dX3_ofRow_65 : decode cX3_ofRow 65 = .ok (.aload_n 0, 1) := by decide +kernel
theorem dX3_ofRow_66 : decode cX3_ofRow 66 = .ok (.iload_n 1, 1) := by decide +kernel
theorem dX3_ofRow_67 : decode cX3_ofRow 67 = .ok (.invokevirtual 112, 3) := by decide +kernel
theorem dX3_ofRow_70 : decode cX3_ofRow 70 = .ok (.ireturn, 1) := by decide +kernel
theorem dX3_ofRow_71 : decode cX3_ofRow 71 = .ok (.bipush (-2), 2) := by decide +kernel
theorem dX3_ofRow_73 : decode cX3_ofRow 73 = .ok (.ireturn, 1) := by decide +kernel
set_option maxRecDepth 20000 in
theorem ggX3_sign_X3_noPlace : GoodIn wsX3_sign wsX3_noPlace := goodIn_r _ [7, 1, 8, 9, 10, 11, 6, 12, 13, 14, 15, 16, 17, 18, 19, 20, 21, 22, 23, 24, 25, 26, 27, 28] (by decide +kernel) (by decide +kernel)
set_option maxRecDepth 20000 in
theorem gX3_sign_X3_noPlace : GoodIn wsX3_sign (wsV RX3 88 RX3 yX3_noPlace wsX3_noPlace) := goodIn_app (goodIn_of _ (by decide +kernel)) ggX3_sign_X3_noPlace
theorem dX3_sign_0 : decode cX3_sign 0 = .ok (.aload_n 0, 1) := by decide +kernel
theorem dX3_sign_1 : decode cX3_sign 1 = .ok (.iload_n 1, 1) := by decide +kernel
theorem dX3_sign_2 : decode cX3_sign 2 = .ok (.iload_n 2, 1) := by decide +kernel
theorem dX3_sign_3 : decode cX3_sign 3 = .ok (.invokevirtual 88, 3) := by decide +kernel
theorem dX3_sign_6 : decode cX3_sign 6 = .ok (.ifCond .eq 7, 3) := by decide +kernel
theorem dX3_sign_9 : decode cX3_sign 9 = .ok (.iconst (-1), 1) := by decide +kernel
theorem dX3_sign_10 : decode cX3_sign 10 = .ok (.goto 17, 3) := by decide +kernel
theorem dX3_sign_13 : decode cX3_sign 13 = .ok (.aload_n 0, 1) := by decide +kernel
theorem dX3_sign_14 : decode cX3_sign 14 = .ok (.getfield 10, 3) := by decide +kernel
theorem dX3_sign_17 : decode cX3_sign 17 = .ok (.getfield 92, 3) := by decide +kernel
theorem dX3_sign_20 : decode cX3_sign 20 = .ok (.iload_n 1, 1) := by decide +kernel
theorem dX3_sign_21 : decode cX3_sign 21 = .ok (.bipush 64, 2) := by decide +kernel
theorem dX3_sign_23 : decode cX3_sign 23 = .ok (.imul, 1) := by decide +kernel
theorem dX3_sign_24 : decode cX3_sign 24 = .ok (.iload_n 2, 1) := by decide +kernel
theorem dX3_sign_25 : decode cX3_sign 25 = .ok (.iadd, 1) := by decide +kernel
theorem dX3_sign_26 : decode cX3_sign 26 = .ok (.iaload, 1) := by decide +kernel
theorem dX3_sign_27 : decode cX3_sign 27 = .ok (.ireturn, 1) := by decide +kernel
set_option maxRecDepth 20000 in
theorem ggX3_sample_X3_noRow : GoodIn wsX3_sample wsX3_noRow := goodIn_r _ [8, 9, 10, 60, 61, 62, 63, 64, 65, 66, 67, 68, 69, 70, 71, 72, 73, 74] (by decide +kernel) (by decide +kernel)
set_option maxRecDepth 20000 in
theorem gX3_sample_X3_noRow : GoodIn wsX3_sample (wsV RX3 84 RX3 yX3_noRow wsX3_noRow) := goodIn_app (goodIn_of _ (by decide +kernel)) ggX3_sample_X3_noRow
set_option maxRecDepth 20000 in
theorem ggX3_sample_X3_sampleSize : GoodIn wsX3_sample wsX3_sampleSize := goodIn_r _ [14, 15, 9, 16, 17, 18, 19, 20, 21, 22, 23, 7, 24, 25, 26, 27, 28, 29, 30, 31, 32, 33, 34, 35, 36, 37, 38, 39, 40, 41, 42, 43, 44, 45, 46, 47, 48, 49, 50, 51, 52, 53, 54, 55, 56, 57, 58, 59, 60, 61, 62, 63, 64, 65, 66, 67, 68, 69, 70, 71, 72, 73, 74] (by decide +kernel) (by decide +kernel)
set_option maxRecDepth 20000 in
theorem gX3_sample_X3_sampleSize : GoodIn wsX3_sample (wsV RX3 108 RX3 yX3_sampleSize wsX3_sampleSize) := goodIn_app (goodIn_of _ (by decide +kernel)) ggX3_sample_X3_sampleSize
set_option maxRecDepth 20000 in
theorem ggX3_sample_X3_wordsOf : GoodIn wsX3_sample wsX3_wordsOf := goodIn_r _ [24, 25, 26, 9, 27, 28, 29, 30, 31, 32, 33, 34, 35, 36, 37, 38, 39, 40, 41, 42, 43, 44, 45, 46, 47, 48, 49, 50, 51, 52, 53, 54, 55, 60, 61, 62, 63, 64, 65, 66, 67, 68, 69, 70, 56, 57, 58, 59, 71, 72, 73, 74] (by decide +kernel) (by decide +kernel)
set_option maxRecDepth 20000 in
theorem gX3_sample_X3_wordsOf : GoodIn wsX3_sample (wsV RX3 101 RX3 yX3_wordsOf wsX3_wordsOf) := goodIn_app (goodIn_of _ (by decide +kernel)) ggX3_sample_X3_wordsOf
theorem dX3_sample_0 : decode cX3_sample 0 = .ok (.aload_n 0, 1) := by decide +kernel
theorem dX3_sample_1 : decode cX3_sample 1 = .ok (.iload_n 1, 1) := by decide +kernel
theorem dX3_sample_2 : decode cX3_sample 2 = .ok (.invokevirtual 84, 3) := by decide +kernel
theorem dX3_sample_5 : decode cX3_sample 5 = .ok (.ifCond .ne 16, 3) := by decide +kernel
theorem dX3_sample_8 : decode cX3_sample 8 = .ok (.iload_n 2, 1) := by decide +kernel
theorem dX3_sample_9 : decode cX3_sample 9 = .ok (.ifCond .lt 12, 3) := by decide +kernel
theorem dX3_sample_12 : decode cX3_sample 12 = .ok (.iload_n 2, 1) := by decide +kernel
theorem dX3_sample_13 : decode cX3_sample 13 = .ok (.aload_n 0, 1) := by decide +kernel
theorem dX3_sample_14 : decode cX3_sample 14 = .ok (.iload_n 1, 1) := by decide +kernel
theorem dX3_sample_15 : decode cX3_sample 15 = .ok (.invokevirtual 108, 3) := by decide +kernel
theorem dX3_sample_18 : decode cX3_sample 18 = .ok (.if_icmp .lt 5, 3) := by decide +kernel
theorem dX3_sample_21 : decode cX3_sample 21 = .ok (.iconst (-1), 1) := by decide +kernel
theorem dX3_sample_22 : decode cX3_sample 22 = .ok (.ireturn, 1) := by decide +kernel
theorem dX3_sample_23 : decode cX3_sample 23 = .ok (.iload_n 3, 1) := by decide +kernel
theorem dX3_sample_24 : decode cX3_sample 24 = .ok (.tableswitch 61 0 2 #[28, 39, 50], 28) := by decide +kernel
theorem dX3_sample_52 : decode cX3_sample 52 = .ok (.aload_n 0, 1) := by decide +kernel
theorem dX3_sample_53 : decode cX3_sample 53 = .ok (.iload_n 1, 1) := by decide +kernel
theorem dX3_sample_54 : decode cX3_sample 54 = .ok (.invokevirtual 101, 3) := by decide +kernel
theorem dX3_sample_57 : decode cX3_sample 57 = .ok (.getfield 115, 3) := by decide +kernel
theorem dX3_sample_60 : decode cX3_sample 60 = .ok (.iload_n 2, 1) := by decide +kernel
theorem dX3_sample_61 : decode cX3_sample 61 = .ok (.iaload, 1) := by decide +kernel
theorem dX3_sample_62 : decode cX3_sample 62 = .ok (.ireturn, 1) := by decide +kernel
theorem dX3_sample_63 : decode cX3_sample 63 = .ok (.aload_n 0, 1) := by decide +kernel
theorem dX3_sample_64 : decode cX3_sample 64 = .ok (.iload_n 1, 1) := by decide +kernel
theorem dX3_sample_65 : decode cX3_sample 65 = .ok (.invokevirtual 101, 3) := by decide +kernel
theorem dX3_sample_68 : decode cX3_sample 68 = .ok (.getfield 118, 3) := by decide +kernel
theorem dX3_sample_71 : decode cX3_sample 71 = .ok (.iload_n 2, 1) := by decide +kernel
theorem dX3_sample_72 : decode cX3_sample 72 = .ok (.iaload, 1) := by decide +kernel
theorem dX3_sample_73 : decode cX3_sample 73 = .ok (.ireturn, 1) := by decide +kernel
theorem dX3_sample_74 : decode cX3_sample 74 = .ok (.aload_n 0, 1) := by decide +kernel
theorem dX3_sample_75 : decode cX3_sample 75 = .ok (.iload_n 1, 1) := by decide +kernel
theorem dX3_sample_76 : decode cX3_sample 76 = .ok (.invokevirtual 101, 3) := by decide +kernel
theorem dX3_sample_79 : decode cX3_sample 79 = .ok (.getfield 121, 3) := by decide +kernel
theorem dX3_sample_82 : decode cX3_sample 82 = .ok (.iload_n 2, 1) := by decide +kernel
theorem dX3_sample_83 : decode cX3_sample 83 = .ok (.iaload, 1) := by decide +kernel
theorem dX3_sample_84 : decode cX3_sample 84 = .ok (.ireturn, 1) := by decide +kernel
theorem dX3_sample_85 : decode cX3_sample 85 = .ok (.bipush (-2), 2) := by decide +kernel
theorem dX3_sample_87 : decode cX3_sample 87 = .ok (.ireturn, 1) := by decide +kernel
set_option maxRecDepth 20000 in
theorem ggX3_count_X3_wordsOfAll : GoodIn wsX3_count wsX3_wordsOfAll := goodIn_r _ [10, 1, 2, 11, 12, 13, 14, 15, 9, 16, 17, 18, 19, 20, 21, 22, 23, 24, 25, 26, 27, 28, 29, 30, 31, 32, 33, 34, 35, 36, 37, 38, 39, 40, 41, 42, 43, 44, 45, 46, 47, 48, 49, 50, 51, 52, 53, 54, 55, 56, 57, 58, 59, 60, 61, 62, 63, 64, 65, 66, 67, 68, 69, 70, 71, 72, 73, 74, 75, 76, 77, 78, 79] (by decide +kernel) (by decide +kernel)
set_option maxRecDepth 20000 in
theorem gX3_count_X3_wordsOfAll : GoodIn wsX3_count (wsV RX3 124 RX3 yX3_wordsOfAll wsX3_wordsOfAll) := goodIn_app (goodIn_of _ (by decide +kernel)) ggX3_count_X3_wordsOfAll
theorem dX3_count_0 : decode cX3_count 0 = .ok (.iload_n 1, 1) := by decide +kernel
theorem dX3_count_1 : decode cX3_count 1 = .ok (.tableswitch 82 0 7 #[47, 55, 55, 55, 55, 67, 72, 77], 47) := by decide +kernel
theorem dX3_count_48 : decode cX3_count 48 = .ok (.aload_n 0, 1) := by decide +kernel
theorem dX3_count_49 : decode cX3_count 49 = .ok (.getfield 10, 3) := by decide +kernel
theorem dX3_count_52 : decode cX3_count 52 = .ok (.getfield 74, 3) := by decide +kernel
theorem dX3_count_55 : decode cX3_count 55 = .ok (.ireturn, 1) := by decide +kernel
theorem dX3_count_56 : decode cX3_count 56 = .ok (.aload_n 0, 1) := by decide +kernel
theorem dX3_count_57 : decode cX3_count 57 = .ok (.getfield 10, 3) := by decide +kernel
theorem dX3_count_60 : decode cX3_count 60 = .ok (.getfield 67, 3) := by decide +kernel
theorem dX3_count_63 : decode cX3_count 63 = .ok (.iload_n 1, 1) := by decide +kernel
theorem dX3_count_64 : decode cX3_count 64 = .ok (.iconst 1, 1) := by decide +kernel
theorem dX3_count_65 : decode cX3_count 65 = .ok (.isub, 1) := by decide +kernel
theorem dX3_count_66 : decode cX3_count 66 = .ok (.iaload, 1) := by decide +kernel
theorem dX3_count_67 : decode cX3_count 67 = .ok (.ireturn, 1) := by decide +kernel
theorem dX3_count_68 : decode cX3_count 68 = .ok (.aload_n 0, 1) := by decide +kernel
theorem dX3_count_69 : decode cX3_count 69 = .ok (.invokevirtual 124, 3) := by decide +kernel
theorem dX3_count_72 : decode cX3_count 72 = .ok (.ireturn, 1) := by decide +kernel
theorem dX3_count_73 : decode cX3_count 73 = .ok (.aload_n 0, 1) := by decide +kernel
theorem dX3_count_74 : decode cX3_count 74 = .ok (.getfield 35, 3) := by decide +kernel
theorem dX3_count_77 : decode cX3_count 77 = .ok (.ireturn, 1) := by decide +kernel
theorem dX3_count_78 : decode cX3_count 78 = .ok (.aload_n 0, 1) := by decide +kernel
theorem dX3_count_79 : decode cX3_count 79 = .ok (.getfield 20, 3) := by decide +kernel
theorem dX3_count_82 : decode cX3_count 82 = .ok (.ireturn, 1) := by decide +kernel
theorem dX3_count_83 : decode cX3_count 83 = .ok (.bipush (-2), 2) := by decide +kernel
theorem dX3_count_85 : decode cX3_count 85 = .ok (.ireturn, 1) := by decide +kernel
set_option maxRecDepth 20000 in
theorem ggX3_told_X3_noRow : GoodIn wsX3_told wsX3_noRow := goodIn_r _ [7, 1, 8, 101, 102, 103, 104, 105, 106, 107, 108, 109, 110, 111, 112, 113, 114, 115] (by decide +kernel) (by decide +kernel)
set_option maxRecDepth 20000 in
theorem gX3_told_X3_noRow : GoodIn wsX3_told (wsV RX3 84 RX3 yX3_noRow wsX3_noRow) := goodIn_app (goodIn_of _ (by decide +kernel)) ggX3_told_X3_noRow
set_option maxRecDepth 20000 in
theorem ggX3_told_X3_pairOf : GoodIn wsX3_told wsX3_pairOf := goodIn_r _ [12, 13, 14, 15, 16, 6, 17, 18, 19, 1, 20, 21, 22, 23, 24, 25, 26, 27, 28, 29, 30, 31, 32, 33, 34, 35, 36, 37, 38, 39, 40, 41, 42, 43, 44, 45, 46, 47, 48, 49, 50, 51, 52, 53, 54, 55, 56, 57, 58, 59, 60, 61, 62, 63, 101, 102, 103, 104, 105, 106, 107, 108, 109, 110, 111, 116, 117, 118, 119, 112, 113, 114, 115, 120, 121, 122, 123, 124, 125, 126] (by decide +kernel) (by decide +kernel)
set_option maxRecDepth 20000 in
theorem gX3_told_X3_pairOf : GoodIn wsX3_told (wsV RX3 127 RX3 yX3_pairOf wsX3_pairOf) := goodIn_app (goodIn_of _ (by decide +kernel)) ggX3_told_X3_pairOf
set_option maxRecDepth 20000 in
theorem ggX3_told_X0_commonWords : GoodIn wsX3_told wsX0_commonWords := goodIn_r _ [67, 57, 68, 69, 70, 71, 72, 73, 74, 120, 121, 122, 123, 124, 125, 126] (by decide +kernel) (by decide +kernel)
set_option maxRecDepth 20000 in
theorem gX3_told_X0_commonWords : GoodIn wsX3_told (wsV RX3 131 RX0 yX0_commonWords wsX0_commonWords) := goodIn_app (goodIn_of _ (by decide +kernel)) ggX3_told_X0_commonWords
set_option maxRecDepth 20000 in
theorem ggX3_told_X0_leastCommon : GoodIn wsX3_told wsX0_leastCommon := goodIn_r _ [78, 62, 79, 65, 66, 52, 67, 57, 68, 69, 70, 71, 72, 73, 74, 120, 121, 122, 123, 124, 125, 126] (by decide +kernel) (by decide +kernel)
set_option maxRecDepth 20000 in
theorem gX3_told_X0_leastCommon : GoodIn wsX3_told (wsV RX3 134 RX0 yX0_leastCommon wsX0_leastCommon) := goodIn_app (goodIn_of _ (by decide +kernel)) ggX3_told_X0_leastCommon
set_option maxRecDepth 20000 in
theorem ggX3_told_X0_toldShare : GoodIn wsX3_told wsX0_toldShare := goodIn_r _ [83, 84, 76, 77, 52, 78, 62, 79, 65, 66, 67, 57, 68, 69, 70, 71, 72, 73, 74, 85, 6, 86, 120, 121, 122, 123, 124, 125, 126] (by decide +kernel) (by decide +kernel)
set_option maxRecDepth 20000 in
theorem gX3_told_X0_toldShare : GoodIn wsX3_told (wsV RX3 137 RX0 yX0_toldShare wsX0_toldShare) := goodIn_app (goodIn_of _ (by decide +kernel)) ggX3_told_X0_toldShare
set_option maxRecDepth 20000 in
theorem ggX3_told_X0_lowerBound : GoodIn wsX3_told wsX0_lowerBound := goodIn_r _ [90, 55, 56, 84, 76, 77, 52, 78, 62, 79, 65, 66, 67, 57, 68, 69, 70, 71, 72, 73, 74, 85, 6, 86, 120, 121, 122, 123, 124, 125, 126] (by decide +kernel) (by decide +kernel)
set_option maxRecDepth 20000 in
theorem gX3_told_X0_lowerBound : GoodIn wsX3_told (wsV RX3 140 RX0 yX0_lowerBound wsX0_lowerBound) := goodIn_app (goodIn_of _ (by decide +kernel)) ggX3_told_X0_lowerBound
set_option maxRecDepth 20000 in
theorem ggX3_told_X0_upperBound : GoodIn wsX3_told wsX0_upperBound := goodIn_r _ [94, 55, 56, 95, 96, 97, 52, 98, 60, 61, 62, 68, 69, 70, 71, 79, 65, 66, 67, 57, 72, 73, 74, 99, 6, 100, 120, 121, 122, 123, 124, 125, 126] (by decide +kernel) (by decide +kernel)
set_option maxRecDepth 20000 in
theorem gX3_told_X0_upperBound : GoodIn wsX3_told (wsV RX3 143 RX0 yX0_upperBound wsX0_upperBound) := goodIn_app (goodIn_of _ (by decide +kernel)) ggX3_told_X0_upperBound
theorem dX3_told_0 : decode cX3_told 0 = .ok (.aload_n 0, 1) := by decide +kernel
theorem dX3_told_1 : decode cX3_told 1 = .ok (.iload_n 1, 1) := by decide +kernel
theorem dX3_told_2 : decode cX3_told 2 = .ok (.invokevirtual 84, 3) := by decide +kernel
theorem dX3_told_5 : decode cX3_told 5 = .ok (.ifCond .ne 11, 3) := by decide +kernel
theorem dX3_told_8 : decode cX3_told 8 = .ok (.aload_n 0, 1) := by decide +kernel
theorem dX3_told_9 : decode cX3_told 9 = .ok (.iload_n 2, 1) := by decide +kernel
theorem dX3_told_10 : decode cX3_told 10 = .ok (.invokevirtual 84, 3) := by decide +kernel
theorem dX3_told_13 : decode cX3_told 13 = .ok (.ifCond .eq 5, 3) := by decide +kernel
theorem dX3_told_16 : decode cX3_told 16 = .ok (.iconst (-1), 1) := by decide +kernel
theorem dX3_told_17 : decode cX3_told 17 = .ok (.ireturn, 1) := by decide +kernel
theorem dX3_told_18 : decode cX3_told 18 = .ok (.aload_n 0, 1) := by decide +kernel
theorem dX3_told_19 : decode cX3_told 19 = .ok (.iload_n 1, 1) := by decide +kernel
theorem dX3_told_20 : decode cX3_told 20 = .ok (.iload_n 2, 1) := by decide +kernel
theorem dX3_told_21 : decode cX3_told 21 = .ok (.invokevirtual 127, 3) := by decide +kernel
theorem dX3_told_24 : decode cX3_told 24 = .ok (.astore 4, 2) := by decide +kernel
theorem dX3_told_26 : decode cX3_told 26 = .ok (.aload_n 0, 1) := by decide +kernel
theorem dX3_told_27 : decode cX3_told 27 = .ok (.getfield 10, 3) := by decide +kernel
theorem dX3_told_30 : decode cX3_told 30 = .ok (.getfield 67, 3) := by decide +kernel
theorem dX3_told_33 : decode cX3_told 33 = .ok (.iconst 1, 1) := by decide +kernel
theorem dX3_told_34 : decode cX3_told 34 = .ok (.iaload, 1) := by decide +kernel
theorem dX3_told_35 : decode cX3_told 35 = .ok (.istore 5, 2) := by decide +kernel
theorem dX3_told_37 : decode cX3_told 37 = .ok (.iload_n 3, 1) := by decide +kernel
theorem dX3_told_38 : decode cX3_told 38 = .ok (.tableswitch 74 0 4 #[34, 42, 50, 58, 66], 34) := by decide +kernel
theorem dX3_told_72 : decode cX3_told 72 = .ok (.aload 4, 2) := by decide +kernel
theorem dX3_told_74 : decode cX3_told 74 = .ok (.iload 5, 2) := by decide +kernel
theorem dX3_told_76 : decode cX3_told 76 = .ok (.invokevirtual 131, 3) := by decide +kernel
theorem dX3_told_79 : decode cX3_told 79 = .ok (.ireturn, 1) := by decide +kernel
theorem dX3_told_80 : decode cX3_told 80 = .ok (.aload 4, 2) := by decide +kernel
theorem dX3_told_82 : decode cX3_told 82 = .ok (.iload 5, 2) := by decide +kernel
theorem dX3_told_84 : decode cX3_told 84 = .ok (.invokevirtual 134, 3) := by decide +kernel
theorem dX3_told_87 : decode cX3_told 87 = .ok (.ireturn, 1) := by decide +kernel
theorem dX3_told_88 : decode cX3_told 88 = .ok (.aload 4, 2) := by decide +kernel
theorem dX3_told_90 : decode cX3_told 90 = .ok (.iload 5, 2) := by decide +kernel
theorem dX3_told_92 : decode cX3_told 92 = .ok (.invokevirtual 137, 3) := by decide +kernel
theorem dX3_told_95 : decode cX3_told 95 = .ok (.ireturn, 1) := by decide +kernel
theorem dX3_told_96 : decode cX3_told 96 = .ok (.aload 4, 2) := by decide +kernel
theorem dX3_told_98 : decode cX3_told 98 = .ok (.iload 5, 2) := by decide +kernel
theorem dX3_told_100 : decode cX3_told 100 = .ok (.invokevirtual 140, 3) := by decide +kernel
theorem dX3_told_103 : decode cX3_told 103 = .ok (.ireturn, 1) := by decide +kernel
theorem dX3_told_104 : decode cX3_told 104 = .ok (.aload 4, 2) := by decide +kernel
theorem dX3_told_106 : decode cX3_told 106 = .ok (.iload 5, 2) := by decide +kernel
theorem dX3_told_108 : decode cX3_told 108 = .ok (.invokevirtual 143, 3) := by decide +kernel
theorem dX3_told_111 : decode cX3_told 111 = .ok (.ireturn, 1) := by decide +kernel
theorem dX3_told_112 : decode cX3_told 112 = .ok (.bipush (-2), 2) := by decide +kernel
theorem dX3_told_114 : decode cX3_told 114 = .ok (.ireturn, 1) := by decide +kernel
set_option maxRecDepth 20000 in
theorem ggX3_exact_X3_noRow : GoodIn wsX3_exact wsX3_noRow := goodIn_r _ [7, 8, 9, 78, 79, 80, 81, 82, 83, 84, 85, 86, 87, 88, 89, 90, 91, 92] (by decide +kernel) (by decide +kernel)
set_option maxRecDepth 20000 in
theorem gX3_exact_X3_noRow : GoodIn wsX3_exact (wsV RX3 84 RX3 yX3_noRow wsX3_noRow) := goodIn_app (goodIn_of _ (by decide +kernel)) ggX3_exact_X3_noRow
set_option maxRecDepth 20000 in
theorem ggX3_exact_X3_pairOf : GoodIn wsX3_exact wsX3_pairOf := goodIn_r _ [13, 14, 15, 16, 17, 6, 18, 19, 20, 8, 21, 22, 23, 24, 25, 26, 27, 28, 29, 30, 31, 32, 33, 34, 35, 36, 37, 38, 39, 40, 41, 42, 43, 44, 45, 46, 47, 48, 49, 50, 51, 52, 53, 54, 55, 56, 57, 58, 59, 60, 61, 62, 63, 64, 78, 79, 80, 81, 82, 83, 84, 85, 86, 87, 88, 93, 94, 95, 96, 89, 90, 91, 92, 71, 72, 73, 74, 75, 76, 77] (by decide +kernel) (by decide +kernel)
set_option maxRecDepth 20000 in
theorem gX3_exact_X3_pairOf : GoodIn wsX3_exact (wsV RX3 127 RX3 yX3_pairOf wsX3_pairOf) := goodIn_app (goodIn_of _ (by decide +kernel)) ggX3_exact_X3_pairOf
set_option maxRecDepth 20000 in
theorem ggX3_exact_X0_trueShare : GoodIn wsX3_exact wsX0_trueShare := goodIn_r _ [68, 59, 58, 69, 6, 70, 71, 72, 73, 74, 75, 76, 77] (by decide +kernel) (by decide +kernel)
set_option maxRecDepth 20000 in
theorem gX3_exact_X0_trueShare : GoodIn wsX3_exact (wsV RX3 152 RX0 yX0_trueShare wsX0_trueShare) := goodIn_app (goodIn_of _ (by decide +kernel)) ggX3_exact_X0_trueShare
theorem dX3_exact_0 : decode cX3_exact 0 = .ok (.aload_n 0, 1) := by decide +kernel
theorem dX3_exact_1 : decode cX3_exact 1 = .ok (.iload_n 1, 1) := by decide +kernel
theorem dX3_exact_2 : decode cX3_exact 2 = .ok (.invokevirtual 84, 3) := by decide +kernel
theorem dX3_exact_5 : decode cX3_exact 5 = .ok (.ifCond .ne 11, 3) := by decide +kernel
theorem dX3_exact_8 : decode cX3_exact 8 = .ok (.aload_n 0, 1) := by decide +kernel
theorem dX3_exact_9 : decode cX3_exact 9 = .ok (.iload_n 2, 1) := by decide +kernel
theorem dX3_exact_10 : decode cX3_exact 10 = .ok (.invokevirtual 84, 3) := by decide +kernel
theorem dX3_exact_13 : decode cX3_exact 13 = .ok (.ifCond .eq 5, 3) := by decide +kernel
theorem dX3_exact_16 : decode cX3_exact 16 = .ok (.iconst (-1), 1) := by decide +kernel
theorem dX3_exact_17 : decode cX3_exact 17 = .ok (.ireturn, 1) := by decide +kernel
theorem dX3_exact_18 : decode cX3_exact 18 = .ok (.aload_n 0, 1) := by decide +kernel
theorem dX3_exact_19 : decode cX3_exact 19 = .ok (.iload_n 1, 1) := by decide +kernel
theorem dX3_exact_20 : decode cX3_exact 20 = .ok (.iload_n 2, 1) := by decide +kernel
theorem dX3_exact_21 : decode cX3_exact 21 = .ok (.invokevirtual 127, 3) := by decide +kernel
theorem dX3_exact_24 : decode cX3_exact 24 = .ok (.astore 4, 2) := by decide +kernel
theorem dX3_exact_26 : decode cX3_exact 26 = .ok (.iload_n 3, 1) := by decide +kernel
theorem dX3_exact_27 : decode cX3_exact 27 = .ok (.tableswitch 43 0 2 #[25, 31, 37], 25) := by decide +kernel
theorem dX3_exact_52 : decode cX3_exact 52 = .ok (.aload 4, 2) := by decide +kernel
theorem dX3_exact_54 : decode cX3_exact 54 = .ok (.getfield 146, 3) := by decide +kernel
theorem dX3_exact_57 : decode cX3_exact 57 = .ok (.ireturn, 1) := by decide +kernel
theorem dX3_exact_58 : decode cX3_exact 58 = .ok (.aload 4, 2) := by decide +kernel
theorem dX3_exact_60 : decode cX3_exact 60 = .ok (.getfield 149, 3) := by decide +kernel
theorem dX3_exact_63 : decode cX3_exact 63 = .ok (.ireturn, 1) := by decide +kernel
theorem dX3_exact_64 : decode cX3_exact 64 = .ok (.aload 4, 2) := by decide +kernel
theorem dX3_exact_66 : decode cX3_exact 66 = .ok (.invokevirtual 152, 3) := by decide +kernel
theorem dX3_exact_69 : decode cX3_exact 69 = .ok (.ireturn, 1) := by decide +kernel
theorem dX3_exact_70 : decode cX3_exact 70 = .ok (.bipush (-2), 2) := by decide +kernel
theorem dX3_exact_72 : decode cX3_exact 72 = .ok (.ireturn, 1) := by decide +kernel
set_option maxRecDepth 20000 in
theorem ggX3_inside_X3_noRow : GoodIn wsX3_inside wsX3_noRow := goodIn_r _ [9, 1, 10, 91, 92, 93, 94, 95, 96, 97, 98, 99, 100, 101, 102, 103, 104, 105] (by decide +kernel) (by decide +kernel)
set_option maxRecDepth 20000 in
theorem gX3_inside_X3_noRow : GoodIn wsX3_inside (wsV RX3 84 RX3 yX3_noRow wsX3_noRow) := goodIn_app (goodIn_of _ (by decide +kernel)) ggX3_inside_X3_noRow
set_option maxRecDepth 20000 in
theorem ggX3_inside_X3_pairOf : GoodIn wsX3_inside wsX3_pairOf := goodIn_r _ [14, 15, 16, 17, 18, 8, 19, 20, 21, 1, 22, 23, 24, 25, 26, 27, 28, 29, 30, 31, 32, 33, 34, 35, 36, 37, 38, 39, 40, 41, 42, 43, 44, 45, 46, 47, 48, 49, 50, 51, 52, 53, 54, 55, 56, 57, 58, 59, 60, 61, 62, 63, 64, 65, 91, 92, 93, 94, 95, 96, 97, 98, 99, 100, 101, 113, 114, 115, 116, 102, 103, 104, 105, 106, 107, 108, 109, 110, 111, 112] (by decide +kernel) (by decide +kernel)
set_option maxRecDepth 20000 in
theorem gX3_inside_X3_pairOf : GoodIn wsX3_inside (wsV RX3 127 RX3 yX3_pairOf wsX3_pairOf) := goodIn_app (goodIn_of _ (by decide +kernel)) ggX3_inside_X3_pairOf
set_option maxRecDepth 20000 in
theorem ggX3_inside_X3_shareDown : GoodIn wsX3_inside wsX3_shareDown := goodIn_r _ [68] (by decide +kernel) (by decide +kernel)
set_option maxRecDepth 20000 in
theorem gX3_inside_X3_shareDown : GoodIn wsX3_inside (va_wsS RX3 158 yX3_shareDown wsX3_shareDown) := goodIn_app (goodIn_of _ (by decide +kernel)) ggX3_inside_X3_shareDown
set_option maxRecDepth 20000 in
theorem ggX3_inside_X0_leastCommon : GoodIn wsX3_inside wsX0_leastCommon := goodIn_r _ [72, 64, 73, 74, 75, 54, 76, 59, 77, 78, 79, 80, 81, 82, 83, 106, 107, 108, 109, 110, 111, 112] (by decide +kernel) (by decide +kernel)
set_option maxRecDepth 20000 in
theorem gX3_inside_X0_leastCommon : GoodIn wsX3_inside (wsV RX3 134 RX0 yX0_leastCommon wsX0_leastCommon) := goodIn_app (goodIn_of _ (by decide +kernel)) ggX3_inside_X0_leastCommon
set_option maxRecDepth 20000 in
theorem ggX3_inside_X0_mostCommon : GoodIn wsX3_inside wsX0_mostCommon := goodIn_r _ [87, 57, 62, 58, 63, 64, 77, 78, 79, 80, 73, 74, 75, 54, 76, 59, 81, 82, 83, 106, 107, 108, 109, 110, 111, 112] (by decide +kernel) (by decide +kernel)
set_option maxRecDepth 20000 in
theorem gX3_inside_X0_mostCommon : GoodIn wsX3_inside (wsV RX3 162 RX0 yX0_mostCommon wsX0_mostCommon) := goodIn_app (goodIn_of _ (by decide +kernel)) ggX3_inside_X0_mostCommon
set_option maxRecDepth 20000 in
theorem ggX3_inside_X3_shareUp : GoodIn wsX3_inside wsX3_shareUp := goodIn_r _ [90] (by decide +kernel) (by decide +kernel)
set_option maxRecDepth 20000 in
theorem gX3_inside_X3_shareUp : GoodIn wsX3_inside (va_wsS RX3 165 yX3_shareUp wsX3_shareUp) := goodIn_app (goodIn_of _ (by decide +kernel)) ggX3_inside_X3_shareUp
theorem dX3_inside_0 : decode cX3_inside 0 = .ok (.aload_n 0, 1) := by decide +kernel
theorem dX3_inside_1 : decode cX3_inside 1 = .ok (.iload_n 1, 1) := by decide +kernel
theorem dX3_inside_2 : decode cX3_inside 2 = .ok (.invokevirtual 84, 3) := by decide +kernel
theorem dX3_inside_5 : decode cX3_inside 5 = .ok (.ifCond .ne 11, 3) := by decide +kernel
theorem dX3_inside_8 : decode cX3_inside 8 = .ok (.aload_n 0, 1) := by decide +kernel
theorem dX3_inside_9 : decode cX3_inside 9 = .ok (.iload_n 2, 1) := by decide +kernel
theorem dX3_inside_10 : decode cX3_inside 10 = .ok (.invokevirtual 84, 3) := by decide +kernel
theorem dX3_inside_13 : decode cX3_inside 13 = .ok (.ifCond .eq 5, 3) := by decide +kernel
theorem dX3_inside_16 : decode cX3_inside 16 = .ok (.iconst (-1), 1) := by decide +kernel
theorem dX3_inside_17 : decode cX3_inside 17 = .ok (.ireturn, 1) := by decide +kernel
theorem dX3_inside_18 : decode cX3_inside 18 = .ok (.aload_n 0, 1) := by decide +kernel
theorem dX3_inside_19 : decode cX3_inside 19 = .ok (.iload_n 1, 1) := by decide +kernel
theorem dX3_inside_20 : decode cX3_inside 20 = .ok (.iload_n 2, 1) := by decide +kernel
theorem dX3_inside_21 : decode cX3_inside 21 = .ok (.invokevirtual 127, 3) := by decide +kernel
theorem dX3_inside_24 : decode cX3_inside 24 = .ok (.astore 4, 2) := by decide +kernel
theorem dX3_inside_26 : decode cX3_inside 26 = .ok (.aload_n 0, 1) := by decide +kernel
theorem dX3_inside_27 : decode cX3_inside 27 = .ok (.getfield 10, 3) := by decide +kernel
theorem dX3_inside_30 : decode cX3_inside 30 = .ok (.getfield 67, 3) := by decide +kernel
theorem dX3_inside_33 : decode cX3_inside 33 = .ok (.iconst 1, 1) := by decide +kernel
theorem dX3_inside_34 : decode cX3_inside 34 = .ok (.iaload, 1) := by decide +kernel
theorem dX3_inside_35 : decode cX3_inside 35 = .ok (.istore 5, 2) := by decide +kernel
theorem dX3_inside_37 : decode cX3_inside 37 = .ok (.iload_n 3, 1) := by decide +kernel
theorem dX3_inside_38 : decode cX3_inside 38 = .ok (.tableswitch 72 0 2 #[26, 40, 56], 26) := by decide +kernel
theorem dX3_inside_64 : decode cX3_inside 64 = .ok (.aload 4, 2) := by decide +kernel
theorem dX3_inside_66 : decode cX3_inside 66 = .ok (.getfield 149, 3) := by decide +kernel
theorem dX3_inside_69 : decode cX3_inside 69 = .ok (.aload 4, 2) := by decide +kernel
theorem dX3_inside_71 : decode cX3_inside 71 = .ok (.getfield 155, 3) := by decide +kernel
theorem dX3_inside_74 : decode cX3_inside 74 = .ok (.invokestatic 158, 3) := by decide +kernel
theorem dX3_inside_77 : decode cX3_inside 77 = .ok (.ireturn, 1) := by decide +kernel
theorem dX3_inside_78 : decode cX3_inside 78 = .ok (.aload 4, 2) := by decide +kernel
theorem dX3_inside_80 : decode cX3_inside 80 = .ok (.iload 5, 2) := by decide +kernel
theorem dX3_inside_82 : decode cX3_inside 82 = .ok (.invokevirtual 134, 3) := by decide +kernel
theorem dX3_inside_85 : decode cX3_inside 85 = .ok (.aload 4, 2) := by decide +kernel
theorem dX3_inside_87 : decode cX3_inside 87 = .ok (.getfield 155, 3) := by decide +kernel
theorem dX3_inside_90 : decode cX3_inside 90 = .ok (.invokestatic 158, 3) := by decide +kernel
theorem dX3_inside_93 : decode cX3_inside 93 = .ok (.ireturn, 1) := by decide +kernel
theorem dX3_inside_94 : decode cX3_inside 94 = .ok (.aload 4, 2) := by decide +kernel
theorem dX3_inside_96 : decode cX3_inside 96 = .ok (.iload 5, 2) := by decide +kernel
theorem dX3_inside_98 : decode cX3_inside 98 = .ok (.invokevirtual 162, 3) := by decide +kernel
theorem dX3_inside_101 : decode cX3_inside 101 = .ok (.aload 4, 2) := by decide +kernel
theorem dX3_inside_103 : decode cX3_inside 103 = .ok (.getfield 155, 3) := by decide +kernel
theorem dX3_inside_106 : decode cX3_inside 106 = .ok (.invokestatic 165, 3) := by decide +kernel
theorem dX3_inside_109 : decode cX3_inside 109 = .ok (.ireturn, 1) := by decide +kernel
theorem dX3_inside_110 : decode cX3_inside 110 = .ok (.bipush (-2), 2) := by decide +kernel
theorem dX3_inside_112 : decode cX3_inside 112 = .ok (.ireturn, 1) := by decide +kernel
set_option maxRecDepth 20000 in
theorem ggX3_nearest_X3_noRow : GoodIn wsX3_nearest wsX3_noRow := goodIn_r _ [8, 1, 2, 89, 90, 91, 92, 93, 94, 95, 96, 97, 98, 99, 100, 101, 102, 103] (by decide +kernel) (by decide +kernel)
set_option maxRecDepth 20000 in
theorem gX3_nearest_X3_noRow : GoodIn wsX3_nearest (wsV RX3 84 RX3 yX3_noRow wsX3_noRow) := goodIn_app (goodIn_of _ (by decide +kernel)) ggX3_nearest_X3_noRow
set_option maxRecDepth 20000 in
theorem ggX3_nearest_X3_pairOf : GoodIn wsX3_nearest wsX3_pairOf := goodIn_r _ [12, 13, 14, 15, 16, 7, 17, 18, 19, 1, 20, 21, 22, 23, 24, 25, 26, 27, 28, 29, 30, 31, 32, 33, 34, 35, 36, 37, 38, 39, 40, 41, 42, 43, 44, 45, 46, 47, 48, 49, 50, 51, 52, 53, 54, 55, 56, 57, 58, 59, 60, 61, 62, 63, 89, 90, 91, 92, 93, 94, 95, 96, 97, 98, 99, 104, 105, 106, 107, 100, 101, 102, 103, 108, 109, 110, 111, 112, 113, 114] (by decide +kernel) (by decide +kernel)
set_option maxRecDepth 20000 in
theorem gX3_nearest_X3_pairOf : GoodIn wsX3_nearest (wsV RX3 127 RX3 yX3_pairOf wsX3_pairOf) := goodIn_app (goodIn_of _ (by decide +kernel)) ggX3_nearest_X3_pairOf
set_option maxRecDepth 20000 in
theorem ggX3_nearest_X0_toldShare : GoodIn wsX3_nearest wsX0_toldShare := goodIn_r _ [67, 68, 69, 70, 52, 71, 62, 72, 73, 74, 75, 57, 76, 77, 78, 79, 80, 81, 82, 83, 7, 84, 108, 109, 110, 111, 112, 113, 114] (by decide +kernel) (by decide +kernel)
set_option maxRecDepth 20000 in
theorem gX3_nearest_X0_toldShare : GoodIn wsX3_nearest (wsV RX3 137 RX0 yX0_toldShare wsX0_toldShare) := goodIn_app (goodIn_of _ (by decide +kernel)) ggX3_nearest_X0_toldShare
set_option maxRecDepth 20000 in
theorem ggX3_nearest_X0_trueShare : GoodIn wsX3_nearest wsX0_trueShare := goodIn_r _ [88, 58, 57, 83, 7, 84, 108, 109, 110, 111, 112, 113, 114] (by decide +kernel) (by decide +kernel)
set_option maxRecDepth 20000 in
theorem gX3_nearest_X0_trueShare : GoodIn wsX3_nearest (wsV RX3 152 RX0 yX0_trueShare wsX0_trueShare) := goodIn_app (goodIn_of _ (by decide +kernel)) ggX3_nearest_X0_trueShare
theorem dX3_nearest_0 : decode cX3_nearest 0 = .ok (.aload_n 0, 1) := by decide +kernel
theorem dX3_nearest_1 : decode cX3_nearest 1 = .ok (.iload_n 1, 1) := by decide +kernel
theorem dX3_nearest_2 : decode cX3_nearest 2 = .ok (.invokevirtual 84, 3) := by decide +kernel
theorem dX3_nearest_5 : decode cX3_nearest 5 = .ok (.ifCond .eq 5, 3) := by decide +kernel
theorem dX3_nearest_8 : decode cX3_nearest 8 = .ok (.iconst (-1), 1) := by decide +kernel
theorem dX3_nearest_9 : decode cX3_nearest 9 = .ok (.ireturn, 1) := by decide +kernel
theorem dX3_nearest_10 : decode cX3_nearest 10 = .ok (.iload_n 2, 1) := by decide +kernel
theorem dX3_nearest_11 : decode cX3_nearest 11 = .ok (.ifCond .eq 11, 3) := by decide +kernel
theorem dX3_nearest_14 : decode cX3_nearest 14 = .ok (.iload_n 2, 1) := by decide +kernel
theorem dX3_nearest_15 : decode cX3_nearest 15 = .ok (.iconst 1, 1) := by decide +kernel
theorem dX3_nearest_16 : decode cX3_nearest 16 = .ok (.if_icmp .eq 6, 3) := by decide +kernel
theorem dX3_nearest_19 : decode cX3_nearest 19 = .ok (.bipush (-2), 2) := by decide +kernel
theorem dX3_nearest_21 : decode cX3_nearest 21 = .ok (.ireturn, 1) := by decide +kernel
theorem dX3_nearest_22 : decode cX3_nearest 22 = .ok (.bipush (-6), 2) := by decide +kernel
theorem dX3_nearest_24 : decode cX3_nearest 24 = .ok (.istore_n 3, 1) := by decide +kernel
theorem dX3_nearest_25 : decode cX3_nearest 25 = .ok (.iconst (-1), 1) := by decide +kernel
theorem dX3_nearest_26 : decode cX3_nearest 26 = .ok (.istore 4, 2) := by decide +kernel
theorem dX3_nearest_28 : decode cX3_nearest 28 = .ok (.iconst 0, 1) := by decide +kernel
theorem dX3_nearest_29 : decode cX3_nearest 29 = .ok (.istore 5, 2) := by decide +kernel
theorem dX3_nearest_31 : decode cX3_nearest 31 = .ok (.iload 5, 2) := by decide +kernel
theorem dX3_nearest_33 : decode cX3_nearest 33 = .ok (.aload_n 0, 1) := by decide +kernel
theorem dX3_nearest_34 : decode cX3_nearest 34 = .ok (.getfield 10, 3) := by decide +kernel
theorem dX3_nearest_37 : decode cX3_nearest 37 = .ok (.getfield 74, 3) := by decide +kernel
theorem dX3_nearest_40 : decode cX3_nearest 40 = .ok (.if_icmp .ge 69, 3) := by decide +kernel
theorem dX3_nearest_43 : decode cX3_nearest 43 = .ok (.iload 5, 2) := by decide +kernel
theorem dX3_nearest_45 : decode cX3_nearest 45 = .ok (.iload_n 1, 1) := by decide +kernel
theorem dX3_nearest_46 : decode cX3_nearest 46 = .ok (.if_icmp .ne 6, 3) := by decide +kernel
theorem dX3_nearest_49 : decode cX3_nearest 49 = .ok (.goto 54, 3) := by decide +kernel
theorem dX3_nearest_52 : decode cX3_nearest 52 = .ok (.aload_n 0, 1) := by decide +kernel
theorem dX3_nearest_53 : decode cX3_nearest 53 = .ok (.iload_n 1, 1) := by decide +kernel
theorem dX3_nearest_54 : decode cX3_nearest 54 = .ok (.iload 5, 2) := by decide +kernel
theorem dX3_nearest_56 : decode cX3_nearest 56 = .ok (.invokevirtual 127, 3) := by decide +kernel
theorem dX3_nearest_59 : decode cX3_nearest 59 = .ok (.astore 6, 2) := by decide +kernel
theorem dX3_nearest_61 : decode cX3_nearest 61 = .ok (.iload_n 2, 1) := by decide +kernel
theorem dX3_nearest_62 : decode cX3_nearest 62 = .ok (.ifCond .ne 20, 3) := by decide +kernel
theorem dX3_nearest_65 : decode cX3_nearest 65 = .ok (.aload 6, 2) := by decide +kernel
theorem dX3_nearest_67 : decode cX3_nearest 67 = .ok (.aload_n 0, 1) := by decide +kernel
theorem dX3_nearest_68 : decode cX3_nearest 68 = .ok (.getfield 10, 3) := by decide +kernel
theorem dX3_nearest_71 : decode cX3_nearest 71 = .ok (.getfield 67, 3) := by decide +kernel
theorem dX3_nearest_74 : decode cX3_nearest 74 = .ok (.iconst 1, 1) := by decide +kernel
theorem dX3_nearest_75 : decode cX3_nearest 75 = .ok (.iaload, 1) := by decide +kernel
theorem dX3_nearest_76 : decode cX3_nearest 76 = .ok (.invokevirtual 137, 3) := by decide +kernel
theorem dX3_nearest_79 : decode cX3_nearest 79 = .ok (.goto 8, 3) := by decide +kernel
theorem dX3_nearest_82 : decode cX3_nearest 82 = .ok (.aload 6, 2) := by decide +kernel
theorem dX3_nearest_84 : decode cX3_nearest 84 = .ok (.invokevirtual 152, 3) := by decide +kernel
theorem dX3_nearest_87 : decode cX3_nearest 87 = .ok (.istore 7, 2) := by decide +kernel
theorem dX3_nearest_89 : decode cX3_nearest 89 = .ok (.iload 7, 2) := by decide +kernel
theorem dX3_nearest_91 : decode cX3_nearest 91 = .ok (.iload 4, 2) := by decide +kernel
theorem dX3_nearest_93 : decode cX3_nearest 93 = .ok (.if_icmp .le 10, 3) := by decide +kernel
theorem dX3_nearest_96 : decode cX3_nearest 96 = .ok (.iload 7, 2) := by decide +kernel
theorem dX3_nearest_98 : decode cX3_nearest 98 = .ok (.istore 4, 2) := by decide +kernel
theorem dX3_nearest_100 : decode cX3_nearest 100 = .ok (.iload 5, 2) := by decide +kernel
theorem dX3_nearest_102 : decode cX3_nearest 102 = .ok (.istore_n 3, 1) := by decide +kernel
theorem dX3_nearest_103 : decode cX3_nearest 103 = .ok (.iinc 5 1, 3) := by decide +kernel
theorem dX3_nearest_106 : decode cX3_nearest 106 = .ok (.goto (-75), 3) := by decide +kernel
theorem dX3_nearest_109 : decode cX3_nearest 109 = .ok (.iload_n 3, 1) := by decide +kernel
theorem dX3_nearest_110 : decode cX3_nearest 110 = .ok (.ireturn, 1) := by decide +kernel
set_option maxRecDepth 20000 in
theorem ggX3_candidates_X3_noRow : GoodIn wsX3_candidates wsX3_noRow := goodIn_r _ [12, 1, 3, 96, 97, 98, 99, 100, 101, 102, 103, 104, 105, 106, 107, 108, 109, 110] (by decide +kernel) (by decide +kernel)
set_option maxRecDepth 20000 in
theorem gX3_candidates_X3_noRow : GoodIn wsX3_candidates (wsV RX3 84 RX3 yX3_noRow wsX3_noRow) := goodIn_app (goodIn_of _ (by decide +kernel)) ggX3_candidates_X3_noRow
set_option maxRecDepth 20000 in
theorem ggX3_candidates_X3_pairOf : GoodIn wsX3_candidates wsX3_pairOf := goodIn_r _ [16, 17, 18, 19, 20, 11, 21, 22, 23, 1, 24, 25, 26, 27, 28, 29, 30, 31, 32, 33, 34, 35, 36, 37, 38, 39, 40, 41, 42, 43, 44, 45, 46, 47, 48, 49, 50, 51, 52, 53, 54, 55, 56, 57, 58, 59, 60, 61, 62, 63, 64, 65, 66, 67, 96, 97, 98, 99, 100, 101, 102, 103, 104, 105, 106, 111, 112, 113, 114, 107, 108, 109, 110, 115, 116, 117, 118, 119, 120, 121] (by decide +kernel) (by decide +kernel)
set_option maxRecDepth 20000 in
theorem gX3_candidates_X3_pairOf : GoodIn wsX3_candidates (wsV RX3 127 RX3 yX3_pairOf wsX3_pairOf) := goodIn_app (goodIn_of _ (by decide +kernel)) ggX3_candidates_X3_pairOf
set_option maxRecDepth 20000 in
theorem ggX3_candidates_X0_lowerBound : GoodIn wsX3_candidates wsX0_lowerBound := goodIn_r _ [71, 59, 60, 72, 73, 74, 56, 75, 66, 76, 77, 78, 79, 61, 80, 81, 6, 82, 83, 5, 7, 84, 11, 85, 115, 116, 117, 118, 119, 120, 121] (by decide +kernel) (by decide +kernel)
set_option maxRecDepth 20000 in
theorem gX3_candidates_X0_lowerBound : GoodIn wsX3_candidates (wsV RX3 140 RX0 yX0_lowerBound wsX0_lowerBound) := goodIn_app (goodIn_of _ (by decide +kernel)) ggX3_candidates_X0_lowerBound
set_option maxRecDepth 20000 in
theorem ggX3_candidates_X0_upperBound : GoodIn wsX3_candidates wsX0_upperBound := goodIn_r _ [89, 59, 60, 90, 91, 92, 56, 93, 64, 65, 66, 80, 81, 6, 82, 76, 77, 78, 79, 61, 83, 5, 7, 94, 11, 95, 115, 116, 117, 118, 119, 120, 121] (by decide +kernel) (by decide +kernel)
set_option maxRecDepth 20000 in
theorem gX3_candidates_X0_upperBound : GoodIn wsX3_candidates (wsV RX3 143 RX0 yX0_upperBound wsX0_upperBound) := goodIn_app (goodIn_of _ (by decide +kernel)) ggX3_candidates_X0_upperBound
theorem dX3_candidates_0 : decode cX3_candidates 0 = .ok (.aload_n 0, 1) := by decide +kernel
theorem dX3_candidates_1 : decode cX3_candidates 1 = .ok (.iload_n 1, 1) := by decide +kernel
theorem dX3_candidates_2 : decode cX3_candidates 2 = .ok (.invokevirtual 84, 3) := by decide +kernel
theorem dX3_candidates_5 : decode cX3_candidates 5 = .ok (.ifCond .eq 5, 3) := by decide +kernel
theorem dX3_candidates_8 : decode cX3_candidates 8 = .ok (.iconst (-1), 1) := by decide +kernel
theorem dX3_candidates_9 : decode cX3_candidates 9 = .ok (.ireturn, 1) := by decide +kernel
theorem dX3_candidates_10 : decode cX3_candidates 10 = .ok (.aload_n 0, 1) := by decide +kernel
theorem dX3_candidates_11 : decode cX3_candidates 11 = .ok (.getfield 10, 3) := by decide +kernel
theorem dX3_candidates_14 : decode cX3_candidates 14 = .ok (.getfield 67, 3) := by decide +kernel
theorem dX3_candidates_17 : decode cX3_candidates 17 = .ok (.iconst 1, 1) := by decide +kernel
theorem dX3_candidates_18 : decode cX3_candidates 18 = .ok (.iaload, 1) := by decide +kernel
theorem dX3_candidates_19 : decode cX3_candidates 19 = .ok (.istore_n 2, 1) := by decide +kernel
theorem dX3_candidates_20 : decode cX3_candidates 20 = .ok (.iconst 0, 1) := by decide +kernel
theorem dX3_candidates_21 : decode cX3_candidates 21 = .ok (.istore_n 3, 1) := by decide +kernel
theorem dX3_candidates_22 : decode cX3_candidates 22 = .ok (.iconst 0, 1) := by decide +kernel
theorem dX3_candidates_23 : decode cX3_candidates 23 = .ok (.istore 4, 2) := by decide +kernel
theorem dX3_candidates_25 : decode cX3_candidates 25 = .ok (.iload 4, 2) := by decide +kernel
theorem dX3_candidates_27 : decode cX3_candidates 27 = .ok (.aload_n 0, 1) := by decide +kernel
theorem dX3_candidates_28 : decode cX3_candidates 28 = .ok (.getfield 10, 3) := by decide +kernel
