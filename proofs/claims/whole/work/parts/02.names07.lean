theorem dX3_goThrough_140 : decode cX3_goThrough 140 = .ok (.aload_n 0, 1) := by decide +kernel
theorem dX3_goThrough_141 : decode cX3_goThrough 141 = .ok (.getfield 44, 3) := by decide +kernel
theorem dX3_goThrough_144 : decode cX3_goThrough 144 = .ok (.iload 4, 2) := by decide +kernel
theorem dX3_goThrough_146 : decode cX3_goThrough 146 = .ok (.iaload, 1) := by decide +kernel
theorem dX3_goThrough_147 : decode cX3_goThrough 147 = .ok (.iastore, 1) := by decide +kernel
theorem dX3_goThrough_148 : decode cX3_goThrough 148 = .ok (.iinc 4 1, 3) := by decide +kernel
theorem dX3_goThrough_151 : decode cX3_goThrough 151 = .ok (.goto (-26), 3) := by decide +kernel
theorem dX3_goThrough_154 : decode cX3_goThrough 154 = .ok (.iinc 2 1, 3) := by decide +kernel
theorem dX3_goThrough_157 : decode cX3_goThrough 157 = .ok (.goto (-155), 3) := by decide +kernel
theorem dX3_goThrough_160 : decode cX3_goThrough 160 = .ok (.iconst 0, 1) := by decide +kernel
theorem dX3_goThrough_161 : decode cX3_goThrough 161 = .ok (.istore_n 2, 1) := by decide +kernel
theorem dX3_goThrough_162 : decode cX3_goThrough 162 = .ok (.iload_n 2, 1) := by decide +kernel
theorem dX3_goThrough_163 : decode cX3_goThrough 163 = .ok (.aload_n 0, 1) := by decide +kernel
theorem dX3_goThrough_164 : decode cX3_goThrough 164 = .ok (.getfield 141, 3) := by decide +kernel
theorem dX3_goThrough_167 : decode cX3_goThrough 167 = .ok (.if_icmp .ge 34, 3) := by decide +kernel
theorem dX3_goThrough_170 : decode cX3_goThrough 170 = .ok (.aload_n 0, 1) := by decide +kernel
theorem dX3_goThrough_171 : decode cX3_goThrough 171 = .ok (.getfield 47, 3) := by decide +kernel
theorem dX3_goThrough_174 : decode cX3_goThrough 174 = .ok (.aload_n 0, 1) := by decide +kernel
theorem dX3_goThrough_175 : decode cX3_goThrough 175 = .ok (.getfield 63, 3) := by decide +kernel
theorem dX3_goThrough_178 : decode cX3_goThrough 178 = .ok (.aload_n 0, 1) := by decide +kernel
theorem dX3_goThrough_179 : decode cX3_goThrough 179 = .ok (.getfield 41, 3) := by decide +kernel
theorem dX3_goThrough_182 : decode cX3_goThrough 182 = .ok (.iload_n 2, 1) := by decide +kernel
theorem dX3_goThrough_183 : decode cX3_goThrough 183 = .ok (.iaload, 1) := by decide +kernel
theorem dX3_goThrough_184 : decode cX3_goThrough 184 = .ok (.iastore, 1) := by decide +kernel
theorem dX3_goThrough_185 : decode cX3_goThrough 185 = .ok (.aload_n 0, 1) := by decide +kernel
theorem dX3_goThrough_186 : decode cX3_goThrough 186 = .ok (.dup, 1) := by decide +kernel
theorem dX3_goThrough_187 : decode cX3_goThrough 187 = .ok (.getfield 63, 3) := by decide +kernel
theorem dX3_goThrough_190 : decode cX3_goThrough 190 = .ok (.iconst 1, 1) := by decide +kernel
theorem dX3_goThrough_191 : decode cX3_goThrough 191 = .ok (.iadd, 1) := by decide +kernel
theorem dX3_goThrough_192 : decode cX3_goThrough 192 = .ok (.putfield 63, 3) := by decide +kernel
theorem dX3_goThrough_195 : decode cX3_goThrough 195 = .ok (.iinc 2 1, 3) := by decide +kernel
theorem dX3_goThrough_198 : decode cX3_goThrough 198 = .ok (.goto (-36), 3) := by decide +kernel
theorem dX3_goThrough_201 : decode cX3_goThrough 201 = .ok (.return_, 1) := by decide +kernel
set_option maxRecDepth 20000 in
theorem ggX3_feed_X3_isIn : GoodIn wsX3_feed wsX3_isIn := goodIn_r _ [9] (by rfl) (by decide +kernel)
set_option maxRecDepth 20000 in
theorem gX3_feed_X3_isIn : GoodIn wsX3_feed (va_wsS RX3 69 yX3_isIn wsX3_isIn) := goodIn_app (goodIn_of _ (by decide +kernel)) ggX3_feed_X3_isIn
set_option maxRecDepth 20000 in
theorem ggX3_feed_X3_refused : GoodIn wsX3_feed wsX3_refused := goodIn_r _ [13, 14, 112, 113, 114, 115, 116, 117, 118, 119, 120, 121, 122, 123, 124, 125, 126, 127, 128, 129, 130, 131] (by rfl) (by decide +kernel)
set_option maxRecDepth 20000 in
theorem gX3_feed_X3_refused : GoodIn wsX3_feed (wsV RX3 73 RX3 yX3_refused wsX3_refused) := goodIn_app (goodIn_of _ (by decide +kernel)) ggX3_feed_X3_refused
set_option maxRecDepth 20000 in
theorem ggX3_feed_X3_goThrough : GoodIn wsX3_feed wsX3_goThrough := goodIn_r _ [18, 19, 20, 3, 21, 4, 22, 23, 24, 5, 25, 26, 27, 8, 28, 29, 30, 31, 32, 33, 34, 35, 36, 37, 38, 39, 40, 41, 42, 43, 44, 45, 46, 47, 48, 49, 50, 51, 52, 53, 54, 55, 56, 57, 58, 59, 60, 61, 62, 63, 64, 65, 66, 67, 68, 69, 70, 71, 72, 73, 74, 75, 76, 77, 78, 79, 80, 81, 82, 83, 84, 85, 86, 87, 88, 89, 90, 91, 92, 93, 94, 95, 96, 97, 98, 99, 100, 101, 102, 103, 104, 105, 106, 107, 108, 109, 110, 111, 112, 113, 114, 115, 116, 117, 118, 119, 120, 121, 122, 123, 124, 125, 126, 127, 128, 129, 130, 131] (by rfl) (by decide +kernel)
set_option maxRecDepth 20000 in
theorem gX3_feed_X3_goThrough : GoodIn wsX3_feed (wsV RX3 150 RX3 yX3_goThrough wsX3_goThrough) := goodIn_app (goodIn_of _ (by decide +kernel)) ggX3_feed_X3_goThrough
theorem dX3_feed_0 : decode cX3_feed 0 = .ok (.aload_n 0, 1) := by decide +kernel
theorem dX3_feed_1 : decode cX3_feed 1 = .ok (.iload_n 1, 1) := by decide +kernel
theorem dX3_feed_2 : decode cX3_feed 2 = .ok (.iconst 0, 1) := by decide +kernel
theorem dX3_feed_3 : decode cX3_feed 3 = .ok (.bipush 16, 2) := by decide +kernel
theorem dX3_feed_5 : decode cX3_feed 5 = .ok (.invokestatic 69, 3) := by decide +kernel
theorem dX3_feed_8 : decode cX3_feed 8 = .ok (.ifCond .ne 7, 3) := by decide +kernel
theorem dX3_feed_11 : decode cX3_feed 11 = .ok (.iconst 1, 1) := by decide +kernel
theorem dX3_feed_12 : decode cX3_feed 12 = .ok (.goto 27, 3) := by decide +kernel
theorem dX3_feed_15 : decode cX3_feed 15 = .ok (.aload_n 0, 1) := by decide +kernel
theorem dX3_feed_16 : decode cX3_feed 16 = .ok (.getfield 57, 3) := by decide +kernel
theorem dX3_feed_19 : decode cX3_feed 19 = .ok (.iload_n 1, 1) := by decide +kernel
theorem dX3_feed_20 : decode cX3_feed 20 = .ok (.iadd, 1) := by decide +kernel
theorem dX3_feed_21 : decode cX3_feed 21 = .ok (.sipush 2000, 3) := by decide +kernel
theorem dX3_feed_24 : decode cX3_feed 24 = .ok (.if_icmp .gt 10, 3) := by decide +kernel
theorem dX3_feed_27 : decode cX3_feed 27 = .ok (.aload_n 0, 1) := by decide +kernel
theorem dX3_feed_28 : decode cX3_feed 28 = .ok (.getfield 60, 3) := by decide +kernel
theorem dX3_feed_31 : decode cX3_feed 31 = .ok (.ifCond .eq 7, 3) := by decide +kernel
theorem dX3_feed_34 : decode cX3_feed 34 = .ok (.iconst 2, 1) := by decide +kernel
theorem dX3_feed_35 : decode cX3_feed 35 = .ok (.goto 4, 3) := by decide +kernel
theorem dX3_feed_38 : decode cX3_feed 38 = .ok (.iconst 0, 1) := by decide +kernel
theorem dX3_feed_39 : decode cX3_feed 39 = .ok (.invokevirtual 73, 3) := by decide +kernel
theorem dX3_feed_42 : decode cX3_feed 42 = .ok (.ifCond .eq 5, 3) := by decide +kernel
theorem dX3_feed_45 : decode cX3_feed 45 = .ok (.iconst 0, 1) := by decide +kernel
theorem dX3_feed_46 : decode cX3_feed 46 = .ok (.ireturn, 1) := by decide +kernel
theorem dX3_feed_47 : decode cX3_feed 47 = .ok (.aload_n 0, 1) := by decide +kernel
theorem dX3_feed_48 : decode cX3_feed 48 = .ok (.aload_n 0, 1) := by decide +kernel
theorem dX3_feed_49 : decode cX3_feed 49 = .ok (.getfield 57, 3) := by decide +kernel
theorem dX3_feed_52 : decode cX3_feed 52 = .ok (.iload_n 1, 1) := by decide +kernel
theorem dX3_feed_53 : decode cX3_feed 53 = .ok (.iadd, 1) := by decide +kernel
theorem dX3_feed_54 : decode cX3_feed 54 = .ok (.putfield 57, 3) := by decide +kernel
theorem dX3_feed_57 : decode cX3_feed 57 = .ok (.aload_n 0, 1) := by decide +kernel
theorem dX3_feed_58 : decode cX3_feed 58 = .ok (.iload_n 1, 1) := by decide +kernel
theorem dX3_feed_59 : decode cX3_feed 59 = .ok (.putfield 141, 3) := by decide +kernel
theorem dX3_feed_62 : decode cX3_feed 62 = .ok (.iconst 0, 1) := by decide +kernel
theorem dX3_feed_63 : decode cX3_feed 63 = .ok (.istore 6, 2) := by decide +kernel
theorem dX3_feed_65 : decode cX3_feed 65 = .ok (.iload 6, 2) := by decide +kernel
theorem dX3_feed_67 : decode cX3_feed 67 = .ok (.iload_n 1, 1) := by decide +kernel
theorem dX3_feed_68 : decode cX3_feed 68 = .ok (.if_icmp .ge 70, 3) := by decide +kernel
theorem dX3_feed_71 : decode cX3_feed 71 = .ok (.iload 6, 2) := by decide +kernel
theorem dX3_feed_73 : decode cX3_feed 73 = .ok (.iconst 4, 1) := by decide +kernel
theorem dX3_feed_74 : decode cX3_feed 74 = .ok (.if_icmp .ge 7, 3) := by decide +kernel
theorem dX3_feed_77 : decode cX3_feed 77 = .ok (.iload_n 2, 1) := by decide +kernel
theorem dX3_feed_78 : decode cX3_feed 78 = .ok (.goto 28, 3) := by decide +kernel
theorem dX3_feed_81 : decode cX3_feed 81 = .ok (.iload 6, 2) := by decide +kernel
theorem dX3_feed_83 : decode cX3_feed 83 = .ok (.bipush 8, 2) := by decide +kernel
theorem dX3_feed_85 : decode cX3_feed 85 = .ok (.if_icmp .ge 7, 3) := by decide +kernel
theorem dX3_feed_88 : decode cX3_feed 88 = .ok (.iload_n 3, 1) := by decide +kernel
theorem dX3_feed_89 : decode cX3_feed 89 = .ok (.goto 17, 3) := by decide +kernel
theorem dX3_feed_92 : decode cX3_feed 92 = .ok (.iload 6, 2) := by decide +kernel
theorem dX3_feed_94 : decode cX3_feed 94 = .ok (.bipush 12, 2) := by decide +kernel
theorem dX3_feed_96 : decode cX3_feed 96 = .ok (.if_icmp .ge 8, 3) := by decide +kernel
theorem dX3_feed_99 : decode cX3_feed 99 = .ok (.iload 4, 2) := by decide +kernel
theorem dX3_feed_101 : decode cX3_feed 101 = .ok (.goto 5, 3) := by decide +kernel
theorem dX3_feed_104 : decode cX3_feed 104 = .ok (.iload 5, 2) := by decide +kernel
theorem dX3_feed_106 : decode cX3_feed 106 = .ok (.istore 7, 2) := by decide +kernel
theorem dX3_feed_108 : decode cX3_feed 108 = .ok (.aload_n 0, 1) := by decide +kernel
theorem dX3_feed_109 : decode cX3_feed 109 = .ok (.getfield 41, 3) := by decide +kernel
theorem dX3_feed_112 : decode cX3_feed 112 = .ok (.iload 6, 2) := by decide +kernel
theorem dX3_feed_114 : decode cX3_feed 114 = .ok (.iload 7, 2) := by decide +kernel
theorem dX3_feed_116 : decode cX3_feed 116 = .ok (.bipush 24, 2) := by decide +kernel
theorem dX3_feed_118 : decode cX3_feed 118 = .ok (.bipush 8, 2) := by decide +kernel
theorem dX3_feed_120 : decode cX3_feed 120 = .ok (.iload 6, 2) := by decide +kernel
theorem dX3_feed_122 : decode cX3_feed 122 = .ok (.iconst 4, 1) := by decide +kernel
theorem dX3_feed_123 : decode cX3_feed 123 = .ok (.irem, 1) := by decide +kernel
theorem dX3_feed_124 : decode cX3_feed 124 = .ok (.imul, 1) := by decide +kernel
theorem dX3_feed_125 : decode cX3_feed 125 = .ok (.isub, 1) := by decide +kernel
theorem dX3_feed_126 : decode cX3_feed 126 = .ok (.ishr, 1) := by decide +kernel
theorem dX3_feed_127 : decode cX3_feed 127 = .ok (.sipush 255, 3) := by decide +kernel
theorem dX3_feed_130 : decode cX3_feed 130 = .ok (.iand, 1) := by decide +kernel
theorem dX3_feed_131 : decode cX3_feed 131 = .ok (.iastore, 1) := by decide +kernel
theorem dX3_feed_132 : decode cX3_feed 132 = .ok (.iinc 6 1, 3) := by decide +kernel
theorem dX3_feed_135 : decode cX3_feed 135 = .ok (.goto (-70), 3) := by decide +kernel
theorem dX3_feed_138 : decode cX3_feed 138 = .ok (.aload_n 0, 1) := by decide +kernel
theorem dX3_feed_139 : decode cX3_feed 139 = .ok (.iconst 0, 1) := by decide +kernel
theorem dX3_feed_140 : decode cX3_feed 140 = .ok (.invokevirtual 150, 3) := by decide +kernel
theorem dX3_feed_143 : decode cX3_feed 143 = .ok (.aload_n 0, 1) := by decide +kernel
theorem dX3_feed_144 : decode cX3_feed 144 = .ok (.getfield 63, 3) := by decide +kernel
theorem dX3_feed_147 : decode cX3_feed 147 = .ok (.ireturn, 1) := by decide +kernel
set_option maxRecDepth 20000 in
theorem ggX3_finish_X3_refused : GoodIn wsX3_finish wsX3_refused := goodIn_r _ [8, 9, 108, 109, 110, 111, 112, 113, 114, 115, 116, 117, 118, 119, 120, 121, 122, 123, 124, 125, 126, 127] (by rfl) (by decide +kernel)
set_option maxRecDepth 20000 in
theorem gX3_finish_X3_refused : GoodIn wsX3_finish (wsV RX3 73 RX3 yX3_refused wsX3_refused) := goodIn_app (goodIn_of _ (by decide +kernel)) ggX3_finish_X3_refused
set_option maxRecDepth 20000 in
theorem ggX3_finish_X3_goThrough : GoodIn wsX3_finish wsX3_goThrough := goodIn_r _ [13, 14, 15, 2, 16, 17, 18, 19, 20, 3, 21, 22, 23, 7, 24, 25, 26, 27, 28, 29, 30, 31, 32, 33, 34, 35, 36, 37, 38, 39, 40, 41, 42, 43, 44, 45, 46, 47, 48, 49, 50, 51, 52, 53, 54, 55, 56, 57, 58, 59, 60, 61, 62, 63, 64, 65, 66, 67, 68, 69, 70, 71, 72, 73, 74, 75, 76, 77, 78, 79, 80, 81, 82, 83, 84, 85, 86, 87, 88, 89, 90, 91, 92, 93, 94, 95, 96, 97, 98, 99, 100, 101, 102, 103, 104, 105, 106, 107, 108, 109, 110, 111, 112, 113, 114, 115, 116, 117, 118, 119, 120, 121, 122, 123, 124, 125, 126, 127] (by rfl) (by decide +kernel)
set_option maxRecDepth 20000 in
theorem gX3_finish_X3_goThrough : GoodIn wsX3_finish (wsV RX3 150 RX3 yX3_goThrough wsX3_goThrough) := goodIn_app (goodIn_of _ (by decide +kernel)) ggX3_finish_X3_goThrough
theorem dX3_finish_0 : decode cX3_finish 0 = .ok (.aload_n 0, 1) := by decide +kernel
theorem dX3_finish_1 : decode cX3_finish 1 = .ok (.aload_n 0, 1) := by decide +kernel
theorem dX3_finish_2 : decode cX3_finish 2 = .ok (.getfield 60, 3) := by decide +kernel
theorem dX3_finish_5 : decode cX3_finish 5 = .ok (.ifCond .eq 7, 3) := by decide +kernel
theorem dX3_finish_8 : decode cX3_finish 8 = .ok (.iconst 1, 1) := by decide +kernel
theorem dX3_finish_9 : decode cX3_finish 9 = .ok (.goto 4, 3) := by decide +kernel
theorem dX3_finish_12 : decode cX3_finish 12 = .ok (.iconst 0, 1) := by decide +kernel
theorem dX3_finish_13 : decode cX3_finish 13 = .ok (.invokevirtual 73, 3) := by decide +kernel
theorem dX3_finish_16 : decode cX3_finish 16 = .ok (.ifCond .eq 5, 3) := by decide +kernel
theorem dX3_finish_19 : decode cX3_finish 19 = .ok (.iconst 0, 1) := by decide +kernel
theorem dX3_finish_20 : decode cX3_finish 20 = .ok (.ireturn, 1) := by decide +kernel
theorem dX3_finish_21 : decode cX3_finish 21 = .ok (.aload_n 0, 1) := by decide +kernel
theorem dX3_finish_22 : decode cX3_finish 22 = .ok (.iconst 1, 1) := by decide +kernel
theorem dX3_finish_23 : decode cX3_finish 23 = .ok (.putfield 60, 3) := by decide +kernel
theorem dX3_finish_26 : decode cX3_finish 26 = .ok (.aload_n 0, 1) := by decide +kernel
theorem dX3_finish_27 : decode cX3_finish 27 = .ok (.iconst 0, 1) := by decide +kernel
theorem dX3_finish_28 : decode cX3_finish 28 = .ok (.putfield 141, 3) := by decide +kernel
theorem dX3_finish_31 : decode cX3_finish 31 = .ok (.aload_n 0, 1) := by decide +kernel
theorem dX3_finish_32 : decode cX3_finish 32 = .ok (.iconst 1, 1) := by decide +kernel
theorem dX3_finish_33 : decode cX3_finish 33 = .ok (.invokevirtual 150, 3) := by decide +kernel
theorem dX3_finish_36 : decode cX3_finish 36 = .ok (.aload_n 0, 1) := by decide +kernel
theorem dX3_finish_37 : decode cX3_finish 37 = .ok (.getfield 63, 3) := by decide +kernel
theorem dX3_finish_40 : decode cX3_finish 40 = .ok (.ireturn, 1) := by decide +kernel
set_option maxRecDepth 20000 in
theorem ggX3_output_X3_isIn : GoodIn wsX3_output wsX3_isIn := goodIn_r _ [7] (by rfl) (by decide +kernel)
set_option maxRecDepth 20000 in
theorem gX3_output_X3_isIn : GoodIn wsX3_output (va_wsS RX3 69 yX3_isIn wsX3_isIn) := goodIn_app (goodIn_of _ (by decide +kernel)) ggX3_output_X3_isIn
theorem dX3_output_0 : decode cX3_output 0 = .ok (.aload_n 0, 1) := by decide +kernel
theorem dX3_output_1 : decode cX3_output 1 = .ok (.iconst 0, 1) := by decide +kernel
theorem dX3_output_2 : decode cX3_output 2 = .ok (.putfield 53, 3) := by decide +kernel
theorem dX3_output_5 : decode cX3_output 5 = .ok (.iload_n 1, 1) := by decide +kernel
theorem dX3_output_6 : decode cX3_output 6 = .ok (.iconst 0, 1) := by decide +kernel
theorem dX3_output_7 : decode cX3_output 7 = .ok (.aload_n 0, 1) := by decide +kernel
theorem dX3_output_8 : decode cX3_output 8 = .ok (.getfield 63, 3) := by decide +kernel
theorem dX3_output_11 : decode cX3_output 11 = .ok (.iconst 1, 1) := by decide +kernel
theorem dX3_output_12 : decode cX3_output 12 = .ok (.isub, 1) := by decide +kernel
theorem dX3_output_13 : decode cX3_output 13 = .ok (.invokestatic 69, 3) := by decide +kernel
theorem dX3_output_16 : decode cX3_output 16 = .ok (.ifCond .eq 12, 3) := by decide +kernel
theorem dX3_output_19 : decode cX3_output 19 = .ok (.aload_n 0, 1) := by decide +kernel
theorem dX3_output_20 : decode cX3_output 20 = .ok (.getfield 47, 3) := by decide +kernel
theorem dX3_output_23 : decode cX3_output 23 = .ok (.iload_n 1, 1) := by decide +kernel
theorem dX3_output_24 : decode cX3_output 24 = .ok (.iaload, 1) := by decide +kernel
theorem dX3_output_25 : decode cX3_output 25 = .ok (.goto 4, 3) := by decide +kernel
theorem dX3_output_28 : decode cX3_output 28 = .ok (.iconst (-1), 1) := by decide +kernel
theorem dX3_output_29 : decode cX3_output 29 = .ok (.ireturn, 1) := by decide +kernel
set_option maxRecDepth 20000 in
theorem ggX3_count_X3_isIn : GoodIn wsX3_count wsX3_isIn := goodIn_r _ [10] (by rfl) (by decide +kernel)
set_option maxRecDepth 20000 in
theorem gX3_count_X3_isIn : GoodIn wsX3_count (va_wsS RX3 69 yX3_isIn wsX3_isIn) := goodIn_app (goodIn_of _ (by decide +kernel)) ggX3_count_X3_isIn
set_option maxRecDepth 20000 in
theorem ggX3_count_X3_refused : GoodIn wsX3_count wsX3_refused := goodIn_r _ [14, 15, 16, 17, 18, 19, 20, 21, 22, 23, 24, 25, 26, 27, 28, 29, 30, 31, 32, 33, 34, 35] (by rfl) (by decide +kernel)
set_option maxRecDepth 20000 in
theorem gX3_count_X3_refused : GoodIn wsX3_count (wsV RX3 73 RX3 yX3_refused wsX3_refused) := goodIn_app (goodIn_of _ (by decide +kernel)) ggX3_count_X3_refused
theorem dX3_count_0 : decode cX3_count 0 = .ok (.aload_n 0, 1) := by decide +kernel
theorem dX3_count_1 : decode cX3_count 1 = .ok (.iload_n 1, 1) := by decide +kernel
theorem dX3_count_2 : decode cX3_count 2 = .ok (.iconst 0, 1) := by decide +kernel
theorem dX3_count_3 : decode cX3_count 3 = .ok (.iconst 3, 1) := by decide +kernel
theorem dX3_count_4 : decode cX3_count 4 = .ok (.invokestatic 69, 3) := by decide +kernel
theorem dX3_count_7 : decode cX3_count 7 = .ok (.ifCond .eq 16, 3) := by decide +kernel
theorem dX3_count_10 : decode cX3_count 10 = .ok (.iload_n 2, 1) := by decide +kernel
theorem dX3_count_11 : decode cX3_count 11 = .ok (.iconst 0, 1) := by decide +kernel
theorem dX3_count_12 : decode cX3_count 12 = .ok (.iconst 5, 1) := by decide +kernel
theorem dX3_count_13 : decode cX3_count 13 = .ok (.invokestatic 69, 3) := by decide +kernel
theorem dX3_count_16 : decode cX3_count 16 = .ok (.ifCond .eq 7, 3) := by decide +kernel
theorem dX3_count_19 : decode cX3_count 19 = .ok (.iconst 0, 1) := by decide +kernel
theorem dX3_count_20 : decode cX3_count 20 = .ok (.goto 4, 3) := by decide +kernel
theorem dX3_count_23 : decode cX3_count 23 = .ok (.iconst 1, 1) := by decide +kernel
theorem dX3_count_24 : decode cX3_count 24 = .ok (.invokevirtual 73, 3) := by decide +kernel
theorem dX3_count_27 : decode cX3_count 27 = .ok (.ifCond .eq 5, 3) := by decide +kernel
theorem dX3_count_30 : decode cX3_count 30 = .ok (.iconst 0, 1) := by decide +kernel
theorem dX3_count_31 : decode cX3_count 31 = .ok (.ireturn, 1) := by decide +kernel
theorem dX3_count_32 : decode cX3_count 32 = .ok (.iload_n 2, 1) := by decide +kernel
theorem dX3_count_33 : decode cX3_count 33 = .ok (.tableswitch 70 0 4 #[35, 42, 49, 56, 63], 35) := by decide +kernel
theorem dX3_count_68 : decode cX3_count 68 = .ok (.aload_n 0, 1) := by decide +kernel
theorem dX3_count_69 : decode cX3_count 69 = .ok (.getfield 7, 3) := by decide +kernel
theorem dX3_count_72 : decode cX3_count 72 = .ok (.iload_n 1, 1) := by decide +kernel
theorem dX3_count_73 : decode cX3_count 73 = .ok (.iaload, 1) := by decide +kernel
theorem dX3_count_74 : decode cX3_count 74 = .ok (.ireturn, 1) := by decide +kernel
theorem dX3_count_75 : decode cX3_count 75 = .ok (.aload_n 0, 1) := by decide +kernel
theorem dX3_count_76 : decode cX3_count 76 = .ok (.getfield 13, 3) := by decide +kernel
theorem dX3_count_79 : decode cX3_count 79 = .ok (.iload_n 1, 1) := by decide +kernel
theorem dX3_count_80 : decode cX3_count 80 = .ok (.iaload, 1) := by decide +kernel
theorem dX3_count_81 : decode cX3_count 81 = .ok (.ireturn, 1) := by decide +kernel
theorem dX3_count_82 : decode cX3_count 82 = .ok (.aload_n 0, 1) := by decide +kernel
theorem dX3_count_83 : decode cX3_count 83 = .ok (.getfield 23, 3) := by decide +kernel
theorem dX3_count_86 : decode cX3_count 86 = .ok (.iload_n 1, 1) := by decide +kernel
theorem dX3_count_87 : decode cX3_count 87 = .ok (.iaload, 1) := by decide +kernel
theorem dX3_count_88 : decode cX3_count 88 = .ok (.ireturn, 1) := by decide +kernel
theorem dX3_count_89 : decode cX3_count 89 = .ok (.aload_n 0, 1) := by decide +kernel
theorem dX3_count_90 : decode cX3_count 90 = .ok (.getfield 29, 3) := by decide +kernel
theorem dX3_count_93 : decode cX3_count 93 = .ok (.iload_n 1, 1) := by decide +kernel
theorem dX3_count_94 : decode cX3_count 94 = .ok (.iaload, 1) := by decide +kernel
theorem dX3_count_95 : decode cX3_count 95 = .ok (.ireturn, 1) := by decide +kernel
theorem dX3_count_96 : decode cX3_count 96 = .ok (.aload_n 0, 1) := by decide +kernel
theorem dX3_count_97 : decode cX3_count 97 = .ok (.getfield 32, 3) := by decide +kernel
theorem dX3_count_100 : decode cX3_count 100 = .ok (.iload_n 1, 1) := by decide +kernel
theorem dX3_count_101 : decode cX3_count 101 = .ok (.iaload, 1) := by decide +kernel
theorem dX3_count_102 : decode cX3_count 102 = .ok (.ireturn, 1) := by decide +kernel
theorem dX3_count_103 : decode cX3_count 103 = .ok (.aload_n 0, 1) := by decide +kernel
theorem dX3_count_104 : decode cX3_count 104 = .ok (.getfield 7, 3) := by decide +kernel
theorem dX3_count_107 : decode cX3_count 107 = .ok (.iload_n 1, 1) := by decide +kernel
theorem dX3_count_108 : decode cX3_count 108 = .ok (.iaload, 1) := by decide +kernel
theorem dX3_count_109 : decode cX3_count 109 = .ok (.iconst 2, 1) := by decide +kernel
theorem dX3_count_110 : decode cX3_count 110 = .ok (.if_icmp .ne 12, 3) := by decide +kernel
theorem dX3_count_113 : decode cX3_count 113 = .ok (.aload_n 0, 1) := by decide +kernel
theorem dX3_count_114 : decode cX3_count 114 = .ok (.getfield 35, 3) := by decide +kernel
theorem dX3_count_117 : decode cX3_count 117 = .ok (.iload_n 1, 1) := by decide +kernel
theorem dX3_count_118 : decode cX3_count 118 = .ok (.iaload, 1) := by decide +kernel
theorem dX3_count_119 : decode cX3_count 119 = .ok (.goto 4, 3) := by decide +kernel
theorem dX3_count_122 : decode cX3_count 122 = .ok (.iconst 0, 1) := by decide +kernel
theorem dX3_count_123 : decode cX3_count 123 = .ok (.ireturn, 1) := by decide +kernel
set_option maxRecDepth 20000 in
theorem ggX3_word_X3_refused : GoodIn wsX3_word wsX3_refused := goodIn_r _ [7, 8, 9, 10, 11, 12, 13, 14, 15, 16, 17, 18, 19, 20, 21, 22, 23, 24, 25, 26, 27, 28] (by rfl) (by decide +kernel)
set_option maxRecDepth 20000 in
theorem gX3_word_X3_refused : GoodIn wsX3_word (wsV RX3 73 RX3 yX3_refused wsX3_refused) := goodIn_app (goodIn_of _ (by decide +kernel)) ggX3_word_X3_refused
theorem dX3_word_0 : decode cX3_word 0 = .ok (.aload_n 0, 1) := by decide +kernel
theorem dX3_word_1 : decode cX3_word 1 = .ok (.iload_n 1, 1) := by decide +kernel
theorem dX3_word_2 : decode cX3_word 2 = .ok (.ifCond .lt 17, 3) := by decide +kernel
theorem dX3_word_5 : decode cX3_word 5 = .ok (.iload_n 1, 1) := by decide +kernel
theorem dX3_word_6 : decode cX3_word 6 = .ok (.aload_n 0, 1) := by decide +kernel
theorem dX3_word_7 : decode cX3_word 7 = .ok (.getfield 63, 3) := by decide +kernel
theorem dX3_word_10 : decode cX3_word 10 = .ok (.iconst 3, 1) := by decide +kernel
theorem dX3_word_11 : decode cX3_word 11 = .ok (.isub, 1) := by decide +kernel
theorem dX3_word_12 : decode cX3_word 12 = .ok (.if_icmp .ge 7, 3) := by decide +kernel
theorem dX3_word_15 : decode cX3_word 15 = .ok (.iconst 0, 1) := by decide +kernel
theorem dX3_word_16 : decode cX3_word 16 = .ok (.goto 4, 3) := by decide +kernel
theorem dX3_word_19 : decode cX3_word 19 = .ok (.iconst 1, 1) := by decide +kernel
theorem dX3_word_20 : decode cX3_word 20 = .ok (.invokevirtual 73, 3) := by decide +kernel
theorem dX3_word_23 : decode cX3_word 23 = .ok (.ifCond .eq 5, 3) := by decide +kernel
theorem dX3_word_26 : decode cX3_word 26 = .ok (.iconst 0, 1) := by decide +kernel
theorem dX3_word_27 : decode cX3_word 27 = .ok (.ireturn, 1) := by decide +kernel
theorem dX3_word_28 : decode cX3_word 28 = .ok (.aload_n 0, 1) := by decide +kernel
theorem dX3_word_29 : decode cX3_word 29 = .ok (.getfield 47, 3) := by decide +kernel
theorem dX3_word_32 : decode cX3_word 32 = .ok (.iload_n 1, 1) := by decide +kernel
theorem dX3_word_33 : decode cX3_word 33 = .ok (.iaload, 1) := by decide +kernel
theorem dX3_word_34 : decode cX3_word 34 = .ok (.aload_n 0, 1) := by decide +kernel
theorem dX3_word_35 : decode cX3_word 35 = .ok (.getfield 47, 3) := by decide +kernel
theorem dX3_word_38 : decode cX3_word 38 = .ok (.iload_n 1, 1) := by decide +kernel
theorem dX3_word_39 : decode cX3_word 39 = .ok (.iconst 1, 1) := by decide +kernel
theorem dX3_word_40 : decode cX3_word 40 = .ok (.iadd, 1) := by decide +kernel
theorem dX3_word_41 : decode cX3_word 41 = .ok (.iaload, 1) := by decide +kernel
theorem dX3_word_42 : decode cX3_word 42 = .ok (.bipush 8, 2) := by decide +kernel
theorem dX3_word_44 : decode cX3_word 44 = .ok (.ishl, 1) := by decide +kernel
theorem dX3_word_45 : decode cX3_word 45 = .ok (.ior, 1) := by decide +kernel
theorem dX3_word_46 : decode cX3_word 46 = .ok (.aload_n 0, 1) := by decide +kernel
theorem dX3_word_47 : decode cX3_word 47 = .ok (.getfield 47, 3) := by decide +kernel
theorem dX3_word_50 : decode cX3_word 50 = .ok (.iload_n 1, 1) := by decide +kernel
theorem dX3_word_51 : decode cX3_word 51 = .ok (.iconst 2, 1) := by decide +kernel
theorem dX3_word_52 : decode cX3_word 52 = .ok (.iadd, 1) := by decide +kernel
theorem dX3_word_53 : decode cX3_word 53 = .ok (.iaload, 1) := by decide +kernel
theorem dX3_word_54 : decode cX3_word 54 = .ok (.bipush 16, 2) := by decide +kernel
theorem dX3_word_56 : decode cX3_word 56 = .ok (.ishl, 1) := by decide +kernel
theorem dX3_word_57 : decode cX3_word 57 = .ok (.ior, 1) := by decide +kernel
theorem dX3_word_58 : decode cX3_word 58 = .ok (.aload_n 0, 1) := by decide +kernel
theorem dX3_word_59 : decode cX3_word 59 = .ok (.getfield 47, 3) := by decide +kernel
theorem dX3_word_62 : decode cX3_word 62 = .ok (.iload_n 1, 1) := by decide +kernel
theorem dX3_word_63 : decode cX3_word 63 = .ok (.iconst 3, 1) := by decide +kernel
theorem dX3_word_64 : decode cX3_word 64 = .ok (.iadd, 1) := by decide +kernel
theorem dX3_word_65 : decode cX3_word 65 = .ok (.iaload, 1) := by decide +kernel
theorem dX3_word_66 : decode cX3_word 66 = .ok (.bipush 24, 2) := by decide +kernel
theorem dX3_word_68 : decode cX3_word 68 = .ok (.ishl, 1) := by decide +kernel
theorem dX3_word_69 : decode cX3_word 69 = .ok (.ior, 1) := by decide +kernel
theorem dX3_word_70 : decode cX3_word 70 = .ok (.ireturn, 1) := by decide +kernel
set_option maxRecDepth 20000 in
theorem ggL_filter_X2_filter : GoodIn wsL_filter wsX2_filter := goodIn_ca (goodIn_r _ [6, 7, 8, 9, 10, 11, 12, 13, 14, 15, 16, 17, 18, 19, 5, 20, 21, 22, 23, 24, 25, 26, 27, 28, 29, 30, 31, 32, 33, 34, 35, 36, 37, 38, 39, 40, 41, 42, 43, 44, 45, 46, 47, 48, 49, 50, 51, 52, 53, 54, 55, 56, 57, 58, 59, 60, 61, 62, 63, 64] (by rfl) (by decide +kernel)) (goodIn_sub (fun _ h => List.mem_cons_of_mem _ (List.mem_append_right _ h)) (by decide +kernel))
set_option maxRecDepth 20000 in
theorem gL_filter_X2_filter : GoodIn wsL_filter (wsV RL 7 RX2 yX2_filter wsX2_filter) := goodIn_app (goodIn_of _ (by decide +kernel)) ggL_filter_X2_filter
theorem dL_filter_0 : decode cL_filter 0 = .ok (.aload_n 0, 1) := by decide +kernel
theorem dL_filter_1 : decode cL_filter 1 = .ok (.iload_n 1, 1) := by decide +kernel
theorem dL_filter_2 : decode cL_filter 2 = .ok (.iload_n 2, 1) := by decide +kernel
theorem dL_filter_3 : decode cL_filter 3 = .ok (.iload_n 3, 1) := by decide +kernel
theorem dL_filter_4 : decode cL_filter 4 = .ok (.invokevirtual 7, 3) := by decide +kernel
theorem dL_filter_7 : decode cL_filter 7 = .ok (.goto 7, 3) := by decide +kernel
theorem dL_filter_10 : decode cL_filter 10 = .ok (.astore 4, 2) := by decide +kernel
theorem dL_filter_12 : decode cL_filter 12 = .ok (.iconst 1, 1) := by decide +kernel
theorem dL_filter_13 : decode cL_filter 13 = .ok (.ireturn, 1) := by decide +kernel
theorem dL_filter_14 : decode cL_filter 14 = .ok (.iconst 0, 1) := by decide +kernel
theorem dL_filter_15 : decode cL_filter 15 = .ok (.ireturn, 1) := by decide +kernel
set_option maxRecDepth 20000 in
theorem ggL_feed_X2_feed : GoodIn wsL_feed wsX2_feed := goodIn_ca (goodIn_ca (goodIn_r _ [7, 8, 9, 10, 11, 12, 13, 14, 15, 16, 17, 18, 19, 20, 21, 22, 23, 24, 25, 6, 26, 27, 28, 29, 30, 31, 32, 33, 34, 35, 36, 37, 38, 39, 40, 41, 42, 43, 44, 45, 46, 47, 48, 49, 50, 51, 52, 53, 54, 55, 56, 57, 58, 59, 60, 61, 62, 63, 64, 65, 66, 67, 68, 69, 70, 71, 72, 73, 74, 75, 76, 77, 78, 79, 80, 81, 82, 83, 84, 85, 86, 87, 88, 89, 90, 91, 92, 93, 94, 95, 96, 97, 98, 99, 100, 101, 102, 103, 104, 105, 106, 107, 108, 109, 110, 111, 112, 113, 114, 115, 116, 117, 118, 119, 120, 121, 122, 123, 124, 125, 126, 127, 128, 129, 130, 131, 132, 133, 134, 135, 136, 137, 138, 139, 140, 141, 142, 143, 144, 145, 146, 147, 148, 149, 150, 151, 152, 153, 154, 155, 156, 157, 158, 159, 160, 161, 162, 163, 164, 165, 166, 167, 168, 169, 170, 171, 172, 173, 174, 175] (by rfl) (by decide +kernel)) (goodIn_sub (fun _ h => List.mem_cons_of_mem _ (List.mem_append_left _ (List.mem_append_right _ h))) (by decide +kernel))) (goodIn_sub (fun _ h => List.mem_cons_of_mem _ (List.mem_append_right _ h)) (by decide +kernel))
set_option maxRecDepth 20000 in
theorem gL_feed_X2_feed : GoodIn wsL_feed (wsV RL 15 RX2 yX2_feed wsX2_feed) := goodIn_app (goodIn_of _ (by decide +kernel)) ggL_feed_X2_feed
theorem dL_feed_0 : decode cL_feed 0 = .ok (.aload 6, 2) := by decide +kernel
theorem dL_feed_2 : decode cL_feed 2 = .ok (.iconst 0, 1) := by decide +kernel
theorem dL_feed_3 : decode cL_feed 3 = .ok (.aload_n 0, 1) := by decide +kernel
theorem dL_feed_4 : decode cL_feed 4 = .ok (.iload_n 1, 1) := by decide +kernel
theorem dL_feed_5 : decode cL_feed 5 = .ok (.iload_n 2, 1) := by decide +kernel
theorem dL_feed_6 : decode cL_feed 6 = .ok (.iload_n 3, 1) := by decide +kernel
theorem dL_feed_7 : decode cL_feed 7 = .ok (.iload 4, 2) := by decide +kernel
theorem dL_feed_9 : decode cL_feed 9 = .ok (.iload 5, 2) := by decide +kernel
theorem dL_feed_11 : decode cL_feed 11 = .ok (.invokevirtual 15, 3) := by decide +kernel
theorem dL_feed_14 : decode cL_feed 14 = .ok (.i2l, 1) := by decide +kernel
theorem dL_feed_15 : decode cL_feed 15 = .ok (.lastore, 1) := by decide +kernel
theorem dL_feed_16 : decode cL_feed 16 = .ok (.goto 11, 3) := by decide +kernel
theorem dL_feed_19 : decode cL_feed 19 = .ok (.astore 7, 2) := by decide +kernel
theorem dL_feed_21 : decode cL_feed 21 = .ok (.iconst 1, 1) := by decide +kernel
theorem dL_feed_22 : decode cL_feed 22 = .ok (.ireturn, 1) := by decide +kernel
theorem dL_feed_23 : decode cL_feed 23 = .ok (.astore 7, 2) := by decide +kernel
theorem dL_feed_25 : decode cL_feed 25 = .ok (.iconst 2, 1) := by decide +kernel
theorem dL_feed_26 : decode cL_feed 26 = .ok (.ireturn, 1) := by decide +kernel
theorem dL_feed_27 : decode cL_feed 27 = .ok (.iconst 0, 1) := by decide +kernel
theorem dL_feed_28 : decode cL_feed 28 = .ok (.ireturn, 1) := by decide +kernel
set_option maxRecDepth 20000 in
theorem ggL_finish_X2_finish : GoodIn wsL_finish wsX2_finish := goodIn_ca (goodIn_r _ [6, 7, 8, 9, 10, 11, 12, 13, 5, 14, 15, 16, 17, 18, 19, 20, 21, 22, 23, 24, 25, 26, 27, 28, 29, 30, 31, 32, 33, 34, 35, 36, 37, 38, 39, 40, 41, 42, 43, 44, 45, 46, 47, 48, 49, 50, 51, 52, 53, 54, 55, 56, 57, 58, 59, 60, 61, 62, 63, 64, 65, 66, 67, 68, 69, 70, 71, 72, 73, 74, 75, 76, 77, 78, 79, 80, 81, 82, 83, 84, 85, 86, 87, 88, 89, 90, 91, 92, 93, 94, 95, 96, 97, 98, 99, 100, 101, 102, 103, 104, 105, 106, 107, 108, 109, 110, 111, 112, 113, 114, 115, 116, 117, 118, 119, 120, 121, 122, 123, 124, 125, 126, 127, 128, 129, 130, 131, 132, 133, 134, 135, 136, 137, 138, 139, 140, 141, 142, 143, 144, 145, 146, 147, 148, 149, 150, 151, 152, 153, 154, 155, 156, 157, 158, 159, 160, 161, 162, 163, 164, 165, 166, 167] (by rfl) (by decide +kernel)) (goodIn_sub (fun _ h => List.mem_cons_of_mem _ (List.mem_append_right _ h)) (by decide +kernel))
