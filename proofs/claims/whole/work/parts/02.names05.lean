theorem dX3_sparc_59 : decode cX3_sparc 59 = .ok (.iushr, 1) := by decide +kernel
theorem dX3_sparc_60 : decode cX3_sparc 60 = .ok (.istore_n 3, 1) := by decide +kernel
theorem dX3_sparc_61 : decode cX3_sparc 61 = .ok (.iload_n 3, 1) := by decide +kernel
theorem dX3_sparc_62 : decode cX3_sparc 62 = .ok (.bipush 22, 2) := by decide +kernel
theorem dX3_sparc_64 : decode cX3_sparc 64 = .ok (.ishr, 1) := by decide +kernel
theorem dX3_sparc_65 : decode cX3_sparc 65 = .ok (.iconst 1, 1) := by decide +kernel
theorem dX3_sparc_66 : decode cX3_sparc 66 = .ok (.iand, 1) := by decide +kernel
theorem dX3_sparc_67 : decode cX3_sparc 67 = .ok (.iconst 1, 1) := by decide +kernel
theorem dX3_sparc_68 : decode cX3_sparc 68 = .ok (.if_icmp .ne 9, 3) := by decide +kernel
theorem dX3_sparc_71 : decode cX3_sparc 71 = .ok (.sipush 255, 3) := by decide +kernel
theorem dX3_sparc_74 : decode cX3_sparc 74 = .ok (.goto 4, 3) := by decide +kernel
theorem dX3_sparc_77 : decode cX3_sparc 77 = .ok (.iconst 0, 1) := by decide +kernel
theorem dX3_sparc_78 : decode cX3_sparc 78 = .ok (.istore 4, 2) := by decide +kernel
theorem dX3_sparc_80 : decode cX3_sparc 80 = .ok (.aload_n 0, 1) := by decide +kernel
theorem dX3_sparc_81 : decode cX3_sparc 81 = .ok (.iload_n 1, 1) := by decide +kernel
theorem dX3_sparc_82 : decode cX3_sparc 82 = .ok (.iconst 0, 1) := by decide +kernel
theorem dX3_sparc_83 : decode cX3_sparc 83 = .ok (.ldc 107, 2) := by decide +kernel
theorem dX3_sparc_85 : decode cX3_sparc 85 = .ok (.iload 4, 2) := by decide +kernel
theorem dX3_sparc_87 : decode cX3_sparc 87 = .ok (.bipush 22, 2) := by decide +kernel
theorem dX3_sparc_89 : decode cX3_sparc 89 = .ok (.ishl, 1) := by decide +kernel
theorem dX3_sparc_90 : decode cX3_sparc 90 = .ok (.ior, 1) := by decide +kernel
theorem dX3_sparc_91 : decode cX3_sparc 91 = .ok (.iload_n 3, 1) := by decide +kernel
theorem dX3_sparc_92 : decode cX3_sparc 92 = .ok (.ldc 108, 2) := by decide +kernel
theorem dX3_sparc_94 : decode cX3_sparc 94 = .ok (.iand, 1) := by decide +kernel
theorem dX3_sparc_95 : decode cX3_sparc 95 = .ok (.ior, 1) := by decide +kernel
theorem dX3_sparc_96 : decode cX3_sparc 96 = .ok (.invokevirtual 104, 3) := by decide +kernel
theorem dX3_sparc_99 : decode cX3_sparc 99 = .ok (.aload_n 0, 1) := by decide +kernel
theorem dX3_sparc_100 : decode cX3_sparc 100 = .ok (.getfield 32, 3) := by decide +kernel
theorem dX3_sparc_103 : decode cX3_sparc 103 = .ok (.iload_n 1, 1) := by decide +kernel
theorem dX3_sparc_104 : decode cX3_sparc 104 = .ok (.dup2, 1) := by decide +kernel
theorem dX3_sparc_105 : decode cX3_sparc 105 = .ok (.iaload, 1) := by decide +kernel
theorem dX3_sparc_106 : decode cX3_sparc 106 = .ok (.iconst 1, 1) := by decide +kernel
theorem dX3_sparc_107 : decode cX3_sparc 107 = .ok (.iadd, 1) := by decide +kernel
theorem dX3_sparc_108 : decode cX3_sparc 108 = .ok (.iastore, 1) := by decide +kernel
theorem dX3_sparc_109 : decode cX3_sparc 109 = .ok (.aload_n 0, 1) := by decide +kernel
theorem dX3_sparc_110 : decode cX3_sparc 110 = .ok (.iload_n 1, 1) := by decide +kernel
theorem dX3_sparc_111 : decode cX3_sparc 111 = .ok (.iconst 4, 1) := by decide +kernel
theorem dX3_sparc_112 : decode cX3_sparc 112 = .ok (.invokevirtual 88, 3) := by decide +kernel
theorem dX3_sparc_115 : decode cX3_sparc 115 = .ok (.return_, 1) := by decide +kernel
set_option maxRecDepth 20000 in
theorem ggX3_risc_X3_low : GoodIn wsX3_risc wsX3_low := goodIn_r _ [7, 8, 9, 10, 6, 11, 12, 39, 40, 41, 42, 43, 44, 45, 46, 47, 48, 49, 50, 51, 52, 53, 54, 55, 56, 57, 58] (by decide +kernel) (by decide +kernel)
set_option maxRecDepth 20000 in
theorem gX3_risc_X3_low : GoodIn wsX3_risc (wsV RX3 109 RX3 yX3_low wsX3_low) := goodIn_app (goodIn_of _ (by decide +kernel)) ggX3_risc_X3_low
set_option maxRecDepth 20000 in
theorem ggX3_risc_X3_place : GoodIn wsX3_risc wsX3_place := goodIn_r _ [16, 17, 18, 39, 40, 41, 42, 43, 44, 45, 46, 47, 48, 49, 50, 51, 52, 53, 54, 55, 56, 57, 58] (by decide +kernel) (by decide +kernel)
set_option maxRecDepth 20000 in
theorem gX3_risc_X3_place : GoodIn wsX3_risc (wsV RX3 92 RX3 yX3_place wsX3_place) := goodIn_app (goodIn_of _ (by decide +kernel)) ggX3_risc_X3_place
set_option maxRecDepth 20000 in
theorem ggX3_risc_X3_moved : GoodIn wsX3_risc wsX3_moved := goodIn_r _ [22, 23, 39, 40, 41, 42, 43, 44, 45, 46, 47, 48, 49, 50, 51, 52, 53, 54, 55, 56, 57, 58] (by decide +kernel) (by decide +kernel)
set_option maxRecDepth 20000 in
theorem gX3_risc_X3_moved : GoodIn wsX3_risc (wsV RX3 96 RX3 yX3_moved wsX3_moved) := goodIn_app (goodIn_of _ (by decide +kernel)) ggX3_risc_X3_moved
set_option maxRecDepth 20000 in
theorem ggX3_risc_X3_setLow : GoodIn wsX3_risc wsX3_setLow := goodIn_r _ [27, 28, 29, 30, 6, 31, 12, 39, 40, 41, 42, 43, 44, 45, 46, 47, 48, 49, 50, 51, 52, 53, 54, 55, 56, 57, 58] (by decide +kernel) (by decide +kernel)
set_option maxRecDepth 20000 in
theorem gX3_risc_X3_setLow : GoodIn wsX3_risc (wsV RX3 112 RX3 yX3_setLow wsX3_setLow) := goodIn_app (goodIn_of _ (by decide +kernel)) ggX3_risc_X3_setLow
set_option maxRecDepth 20000 in
theorem ggX3_risc_X3_give : GoodIn wsX3_risc wsX3_give := goodIn_r _ [35, 36, 37, 38, 18, 8, 9, 10, 6, 11, 12, 28, 29, 30, 31, 39, 40, 41, 42, 43, 44, 45, 46, 47, 48, 49, 50, 51, 52, 53, 54, 55, 56, 57, 58] (by decide +kernel) (by decide +kernel)
set_option maxRecDepth 20000 in
theorem gX3_risc_X3_give : GoodIn wsX3_risc (wsV RX3 88 RX3 yX3_give wsX3_give) := goodIn_app (goodIn_of _ (by decide +kernel)) ggX3_risc_X3_give
theorem dX3_risc_0 : decode cX3_risc 0 = .ok (.aload_n 0, 1) := by decide +kernel
theorem dX3_risc_1 : decode cX3_risc 1 = .ok (.iload_n 1, 1) := by decide +kernel
theorem dX3_risc_2 : decode cX3_risc 2 = .ok (.iconst 0, 1) := by decide +kernel
theorem dX3_risc_3 : decode cX3_risc 3 = .ok (.invokevirtual 109, 3) := by decide +kernel
theorem dX3_risc_6 : decode cX3_risc 6 = .ok (.istore_n 2, 1) := by decide +kernel
theorem dX3_risc_7 : decode cX3_risc 7 = .ok (.iload_n 2, 1) := by decide +kernel
theorem dX3_risc_8 : decode cX3_risc 8 = .ok (.bipush 7, 2) := by decide +kernel
theorem dX3_risc_10 : decode cX3_risc 10 = .ok (.ishr, 1) := by decide +kernel
theorem dX3_risc_11 : decode cX3_risc 11 = .ok (.bipush 31, 2) := by decide +kernel
theorem dX3_risc_13 : decode cX3_risc 13 = .ok (.iand, 1) := by decide +kernel
theorem dX3_risc_14 : decode cX3_risc 14 = .ok (.istore_n 3, 1) := by decide +kernel
theorem dX3_risc_15 : decode cX3_risc 15 = .ok (.iload_n 2, 1) := by decide +kernel
theorem dX3_risc_16 : decode cX3_risc 16 = .ok (.bipush 127, 2) := by decide +kernel
theorem dX3_risc_18 : decode cX3_risc 18 = .ok (.iand, 1) := by decide +kernel
theorem dX3_risc_19 : decode cX3_risc 19 = .ok (.bipush 111, 2) := by decide +kernel
theorem dX3_risc_21 : decode cX3_risc 21 = .ok (.if_icmp .ne 145, 3) := by decide +kernel
theorem dX3_risc_24 : decode cX3_risc 24 = .ok (.iload_n 3, 1) := by decide +kernel
theorem dX3_risc_25 : decode cX3_risc 25 = .ok (.iconst 1, 1) := by decide +kernel
theorem dX3_risc_26 : decode cX3_risc 26 = .ok (.if_icmp .eq 8, 3) := by decide +kernel
theorem dX3_risc_29 : decode cX3_risc 29 = .ok (.iload_n 3, 1) := by decide +kernel
theorem dX3_risc_30 : decode cX3_risc 30 = .ok (.iconst 5, 1) := by decide +kernel
theorem dX3_risc_31 : decode cX3_risc 31 = .ok (.if_icmp .ne 135, 3) := by decide +kernel
theorem dX3_risc_34 : decode cX3_risc 34 = .ok (.iload_n 2, 1) := by decide +kernel
theorem dX3_risc_35 : decode cX3_risc 35 = .ok (.bipush 31, 2) := by decide +kernel
theorem dX3_risc_37 : decode cX3_risc 37 = .ok (.iushr, 1) := by decide +kernel
theorem dX3_risc_38 : decode cX3_risc 38 = .ok (.bipush 20, 2) := by decide +kernel
theorem dX3_risc_40 : decode cX3_risc 40 = .ok (.ishl, 1) := by decide +kernel
theorem dX3_risc_41 : decode cX3_risc 41 = .ok (.iload_n 2, 1) := by decide +kernel
theorem dX3_risc_42 : decode cX3_risc 42 = .ok (.bipush 12, 2) := by decide +kernel
theorem dX3_risc_44 : decode cX3_risc 44 = .ok (.ishr, 1) := by decide +kernel
theorem dX3_risc_45 : decode cX3_risc 45 = .ok (.sipush 255, 3) := by decide +kernel
theorem dX3_risc_48 : decode cX3_risc 48 = .ok (.iand, 1) := by decide +kernel
theorem dX3_risc_49 : decode cX3_risc 49 = .ok (.bipush 12, 2) := by decide +kernel
theorem dX3_risc_51 : decode cX3_risc 51 = .ok (.ishl, 1) := by decide +kernel
theorem dX3_risc_52 : decode cX3_risc 52 = .ok (.ior, 1) := by decide +kernel
theorem dX3_risc_53 : decode cX3_risc 53 = .ok (.iload_n 2, 1) := by decide +kernel
theorem dX3_risc_54 : decode cX3_risc 54 = .ok (.bipush 20, 2) := by decide +kernel
theorem dX3_risc_56 : decode cX3_risc 56 = .ok (.ishr, 1) := by decide +kernel
theorem dX3_risc_57 : decode cX3_risc 57 = .ok (.iconst 1, 1) := by decide +kernel
theorem dX3_risc_58 : decode cX3_risc 58 = .ok (.iand, 1) := by decide +kernel
theorem dX3_risc_59 : decode cX3_risc 59 = .ok (.bipush 11, 2) := by decide +kernel
theorem dX3_risc_61 : decode cX3_risc 61 = .ok (.ishl, 1) := by decide +kernel
theorem dX3_risc_62 : decode cX3_risc 62 = .ok (.ior, 1) := by decide +kernel
theorem dX3_risc_63 : decode cX3_risc 63 = .ok (.iload_n 2, 1) := by decide +kernel
theorem dX3_risc_64 : decode cX3_risc 64 = .ok (.bipush 21, 2) := by decide +kernel
theorem dX3_risc_66 : decode cX3_risc 66 = .ok (.ishr, 1) := by decide +kernel
theorem dX3_risc_67 : decode cX3_risc 67 = .ok (.sipush 1023, 3) := by decide +kernel
theorem dX3_risc_70 : decode cX3_risc 70 = .ok (.iand, 1) := by decide +kernel
theorem dX3_risc_71 : decode cX3_risc 71 = .ok (.iconst 1, 1) := by decide +kernel
theorem dX3_risc_72 : decode cX3_risc 72 = .ok (.ishl, 1) := by decide +kernel
theorem dX3_risc_73 : decode cX3_risc 73 = .ok (.ior, 1) := by decide +kernel
theorem dX3_risc_74 : decode cX3_risc 74 = .ok (.istore 4, 2) := by decide +kernel
theorem dX3_risc_76 : decode cX3_risc 76 = .ok (.aload_n 0, 1) := by decide +kernel
theorem dX3_risc_77 : decode cX3_risc 77 = .ok (.iload 4, 2) := by decide +kernel
theorem dX3_risc_79 : decode cX3_risc 79 = .ok (.aload_n 0, 1) := by decide +kernel
theorem dX3_risc_80 : decode cX3_risc 80 = .ok (.iload_n 1, 1) := by decide +kernel
theorem dX3_risc_81 : decode cX3_risc 81 = .ok (.invokevirtual 92, 3) := by decide +kernel
theorem dX3_risc_84 : decode cX3_risc 84 = .ok (.invokevirtual 96, 3) := by decide +kernel
theorem dX3_risc_87 : decode cX3_risc 87 = .ok (.istore 4, 2) := by decide +kernel
theorem dX3_risc_89 : decode cX3_risc 89 = .ok (.aload_n 0, 1) := by decide +kernel
theorem dX3_risc_90 : decode cX3_risc 90 = .ok (.iload_n 1, 1) := by decide +kernel
theorem dX3_risc_91 : decode cX3_risc 91 = .ok (.iconst 0, 1) := by decide +kernel
theorem dX3_risc_92 : decode cX3_risc 92 = .ok (.iload_n 2, 1) := by decide +kernel
theorem dX3_risc_93 : decode cX3_risc 93 = .ok (.sipush 4095, 3) := by decide +kernel
theorem dX3_risc_96 : decode cX3_risc 96 = .ok (.iand, 1) := by decide +kernel
theorem dX3_risc_97 : decode cX3_risc 97 = .ok (.iload 4, 2) := by decide +kernel
theorem dX3_risc_99 : decode cX3_risc 99 = .ok (.bipush 20, 2) := by decide +kernel
theorem dX3_risc_101 : decode cX3_risc 101 = .ok (.ishr, 1) := by decide +kernel
theorem dX3_risc_102 : decode cX3_risc 102 = .ok (.iconst 1, 1) := by decide +kernel
theorem dX3_risc_103 : decode cX3_risc 103 = .ok (.iand, 1) := by decide +kernel
theorem dX3_risc_104 : decode cX3_risc 104 = .ok (.bipush 31, 2) := by decide +kernel
theorem dX3_risc_106 : decode cX3_risc 106 = .ok (.ishl, 1) := by decide +kernel
theorem dX3_risc_107 : decode cX3_risc 107 = .ok (.ior, 1) := by decide +kernel
theorem dX3_risc_108 : decode cX3_risc 108 = .ok (.iload 4, 2) := by decide +kernel
theorem dX3_risc_110 : decode cX3_risc 110 = .ok (.iconst 1, 1) := by decide +kernel
theorem dX3_risc_111 : decode cX3_risc 111 = .ok (.ishr, 1) := by decide +kernel
theorem dX3_risc_112 : decode cX3_risc 112 = .ok (.sipush 1023, 3) := by decide +kernel
theorem dX3_risc_115 : decode cX3_risc 115 = .ok (.iand, 1) := by decide +kernel
theorem dX3_risc_116 : decode cX3_risc 116 = .ok (.bipush 21, 2) := by decide +kernel
theorem dX3_risc_118 : decode cX3_risc 118 = .ok (.ishl, 1) := by decide +kernel
theorem dX3_risc_119 : decode cX3_risc 119 = .ok (.ior, 1) := by decide +kernel
theorem dX3_risc_120 : decode cX3_risc 120 = .ok (.iload 4, 2) := by decide +kernel
theorem dX3_risc_122 : decode cX3_risc 122 = .ok (.bipush 11, 2) := by decide +kernel
theorem dX3_risc_124 : decode cX3_risc 124 = .ok (.ishr, 1) := by decide +kernel
theorem dX3_risc_125 : decode cX3_risc 125 = .ok (.iconst 1, 1) := by decide +kernel
theorem dX3_risc_126 : decode cX3_risc 126 = .ok (.iand, 1) := by decide +kernel
theorem dX3_risc_127 : decode cX3_risc 127 = .ok (.bipush 20, 2) := by decide +kernel
theorem dX3_risc_129 : decode cX3_risc 129 = .ok (.ishl, 1) := by decide +kernel
theorem dX3_risc_130 : decode cX3_risc 130 = .ok (.ior, 1) := by decide +kernel
theorem dX3_risc_131 : decode cX3_risc 131 = .ok (.iload 4, 2) := by decide +kernel
theorem dX3_risc_133 : decode cX3_risc 133 = .ok (.bipush 12, 2) := by decide +kernel
theorem dX3_risc_135 : decode cX3_risc 135 = .ok (.ishr, 1) := by decide +kernel
theorem dX3_risc_136 : decode cX3_risc 136 = .ok (.sipush 255, 3) := by decide +kernel
theorem dX3_risc_139 : decode cX3_risc 139 = .ok (.iand, 1) := by decide +kernel
theorem dX3_risc_140 : decode cX3_risc 140 = .ok (.bipush 12, 2) := by decide +kernel
theorem dX3_risc_142 : decode cX3_risc 142 = .ok (.ishl, 1) := by decide +kernel
theorem dX3_risc_143 : decode cX3_risc 143 = .ok (.ior, 1) := by decide +kernel
theorem dX3_risc_144 : decode cX3_risc 144 = .ok (.invokevirtual 112, 3) := by decide +kernel
theorem dX3_risc_147 : decode cX3_risc 147 = .ok (.aload_n 0, 1) := by decide +kernel
theorem dX3_risc_148 : decode cX3_risc 148 = .ok (.getfield 32, 3) := by decide +kernel
theorem dX3_risc_151 : decode cX3_risc 151 = .ok (.iload_n 1, 1) := by decide +kernel
theorem dX3_risc_152 : decode cX3_risc 152 = .ok (.dup2, 1) := by decide +kernel
theorem dX3_risc_153 : decode cX3_risc 153 = .ok (.iaload, 1) := by decide +kernel
theorem dX3_risc_154 : decode cX3_risc 154 = .ok (.iconst 1, 1) := by decide +kernel
theorem dX3_risc_155 : decode cX3_risc 155 = .ok (.iadd, 1) := by decide +kernel
theorem dX3_risc_156 : decode cX3_risc 156 = .ok (.iastore, 1) := by decide +kernel
theorem dX3_risc_157 : decode cX3_risc 157 = .ok (.aload_n 0, 1) := by decide +kernel
theorem dX3_risc_158 : decode cX3_risc 158 = .ok (.iload_n 1, 1) := by decide +kernel
theorem dX3_risc_159 : decode cX3_risc 159 = .ok (.iconst 4, 1) := by decide +kernel
theorem dX3_risc_160 : decode cX3_risc 160 = .ok (.invokevirtual 88, 3) := by decide +kernel
theorem dX3_risc_163 : decode cX3_risc 163 = .ok (.goto 142, 3) := by decide +kernel
theorem dX3_risc_166 : decode cX3_risc 166 = .ok (.iload_n 2, 1) := by decide +kernel
theorem dX3_risc_167 : decode cX3_risc 167 = .ok (.bipush 127, 2) := by decide +kernel
theorem dX3_risc_169 : decode cX3_risc 169 = .ok (.iand, 1) := by decide +kernel
theorem dX3_risc_170 : decode cX3_risc 170 = .ok (.bipush 23, 2) := by decide +kernel
theorem dX3_risc_172 : decode cX3_risc 172 = .ok (.if_icmp .ne 127, 3) := by decide +kernel
theorem dX3_risc_175 : decode cX3_risc 175 = .ok (.iload_n 3, 1) := by decide +kernel
theorem dX3_risc_176 : decode cX3_risc 176 = .ok (.ifCond .eq 123, 3) := by decide +kernel
theorem dX3_risc_179 : decode cX3_risc 179 = .ok (.aload_n 0, 1) := by decide +kernel
theorem dX3_risc_180 : decode cX3_risc 180 = .ok (.iload_n 1, 1) := by decide +kernel
theorem dX3_risc_181 : decode cX3_risc 181 = .ok (.iconst 4, 1) := by decide +kernel
theorem dX3_risc_182 : decode cX3_risc 182 = .ok (.invokevirtual 109, 3) := by decide +kernel
theorem dX3_risc_185 : decode cX3_risc 185 = .ok (.istore 4, 2) := by decide +kernel
theorem dX3_risc_187 : decode cX3_risc 187 = .ok (.iload 4, 2) := by decide +kernel
theorem dX3_risc_189 : decode cX3_risc 189 = .ok (.bipush 15, 2) := by decide +kernel
theorem dX3_risc_191 : decode cX3_risc 191 = .ok (.ishr, 1) := by decide +kernel
theorem dX3_risc_192 : decode cX3_risc 192 = .ok (.bipush 31, 2) := by decide +kernel
theorem dX3_risc_194 : decode cX3_risc 194 = .ok (.iand, 1) := by decide +kernel
theorem dX3_risc_195 : decode cX3_risc 195 = .ok (.iload_n 3, 1) := by decide +kernel
theorem dX3_risc_196 : decode cX3_risc 196 = .ok (.if_icmp .ne 93, 3) := by decide +kernel
theorem dX3_risc_199 : decode cX3_risc 199 = .ok (.iload 4, 2) := by decide +kernel
theorem dX3_risc_201 : decode cX3_risc 201 = .ok (.bipush 127, 2) := by decide +kernel
theorem dX3_risc_203 : decode cX3_risc 203 = .ok (.iand, 1) := by decide +kernel
theorem dX3_risc_204 : decode cX3_risc 204 = .ok (.bipush 103, 2) := by decide +kernel
theorem dX3_risc_206 : decode cX3_risc 206 = .ok (.if_icmp .eq 12, 3) := by decide +kernel
theorem dX3_risc_209 : decode cX3_risc 209 = .ok (.iload 4, 2) := by decide +kernel
theorem dX3_risc_211 : decode cX3_risc 211 = .ok (.bipush 127, 2) := by decide +kernel
theorem dX3_risc_213 : decode cX3_risc 213 = .ok (.iand, 1) := by decide +kernel
theorem dX3_risc_214 : decode cX3_risc 214 = .ok (.iconst 3, 1) := by decide +kernel
theorem dX3_risc_215 : decode cX3_risc 215 = .ok (.if_icmp .ne 74, 3) := by decide +kernel
theorem dX3_risc_218 : decode cX3_risc 218 = .ok (.aload_n 0, 1) := by decide +kernel
theorem dX3_risc_219 : decode cX3_risc 219 = .ok (.iload_n 2, 1) := by decide +kernel
theorem dX3_risc_220 : decode cX3_risc 220 = .ok (.sipush (-4096), 3) := by decide +kernel
theorem dX3_risc_223 : decode cX3_risc 223 = .ok (.iand, 1) := by decide +kernel
theorem dX3_risc_224 : decode cX3_risc 224 = .ok (.iload 4, 2) := by decide +kernel
theorem dX3_risc_226 : decode cX3_risc 226 = .ok (.bipush 20, 2) := by decide +kernel
theorem dX3_risc_228 : decode cX3_risc 228 = .ok (.ishr, 1) := by decide +kernel
theorem dX3_risc_229 : decode cX3_risc 229 = .ok (.iadd, 1) := by decide +kernel
theorem dX3_risc_230 : decode cX3_risc 230 = .ok (.aload_n 0, 1) := by decide +kernel
theorem dX3_risc_231 : decode cX3_risc 231 = .ok (.iload_n 1, 1) := by decide +kernel
theorem dX3_risc_232 : decode cX3_risc 232 = .ok (.invokevirtual 92, 3) := by decide +kernel
theorem dX3_risc_235 : decode cX3_risc 235 = .ok (.invokevirtual 96, 3) := by decide +kernel
theorem dX3_risc_238 : decode cX3_risc 238 = .ok (.istore 5, 2) := by decide +kernel
theorem dX3_risc_240 : decode cX3_risc 240 = .ok (.aload_n 0, 1) := by decide +kernel
theorem dX3_risc_241 : decode cX3_risc 241 = .ok (.iload_n 1, 1) := by decide +kernel
theorem dX3_risc_242 : decode cX3_risc 242 = .ok (.iconst 4, 1) := by decide +kernel
theorem dX3_risc_243 : decode cX3_risc 243 = .ok (.iload 4, 2) := by decide +kernel
theorem dX3_risc_245 : decode cX3_risc 245 = .ok (.ldc 115, 2) := by decide +kernel
theorem dX3_risc_247 : decode cX3_risc 247 = .ok (.iand, 1) := by decide +kernel
theorem dX3_risc_248 : decode cX3_risc 248 = .ok (.iload 5, 2) := by decide +kernel
theorem dX3_risc_250 : decode cX3_risc 250 = .ok (.bipush 20, 2) := by decide +kernel
theorem dX3_risc_252 : decode cX3_risc 252 = .ok (.ishl, 1) := by decide +kernel
theorem dX3_risc_253 : decode cX3_risc 253 = .ok (.ior, 1) := by decide +kernel
theorem dX3_risc_254 : decode cX3_risc 254 = .ok (.invokevirtual 112, 3) := by decide +kernel
theorem dX3_risc_257 : decode cX3_risc 257 = .ok (.aload_n 0, 1) := by decide +kernel
theorem dX3_risc_258 : decode cX3_risc 258 = .ok (.iload_n 1, 1) := by decide +kernel
theorem dX3_risc_259 : decode cX3_risc 259 = .ok (.iconst 0, 1) := by decide +kernel
theorem dX3_risc_260 : decode cX3_risc 260 = .ok (.iload_n 2, 1) := by decide +kernel
theorem dX3_risc_261 : decode cX3_risc 261 = .ok (.sipush 4095, 3) := by decide +kernel
theorem dX3_risc_264 : decode cX3_risc 264 = .ok (.iand, 1) := by decide +kernel
theorem dX3_risc_265 : decode cX3_risc 265 = .ok (.iload 5, 2) := by decide +kernel
theorem dX3_risc_267 : decode cX3_risc 267 = .ok (.sipush 2048, 3) := by decide +kernel
theorem dX3_risc_270 : decode cX3_risc 270 = .ok (.iadd, 1) := by decide +kernel
theorem dX3_risc_271 : decode cX3_risc 271 = .ok (.sipush (-4096), 3) := by decide +kernel
theorem dX3_risc_274 : decode cX3_risc 274 = .ok (.iand, 1) := by decide +kernel
theorem dX3_risc_275 : decode cX3_risc 275 = .ok (.ior, 1) := by decide +kernel
theorem dX3_risc_276 : decode cX3_risc 276 = .ok (.invokevirtual 112, 3) := by decide +kernel
theorem dX3_risc_279 : decode cX3_risc 279 = .ok (.aload_n 0, 1) := by decide +kernel
theorem dX3_risc_280 : decode cX3_risc 280 = .ok (.getfield 32, 3) := by decide +kernel
theorem dX3_risc_283 : decode cX3_risc 283 = .ok (.iload_n 1, 1) := by decide +kernel
theorem dX3_risc_284 : decode cX3_risc 284 = .ok (.dup2, 1) := by decide +kernel
theorem dX3_risc_285 : decode cX3_risc 285 = .ok (.iaload, 1) := by decide +kernel
theorem dX3_risc_286 : decode cX3_risc 286 = .ok (.iconst 1, 1) := by decide +kernel
theorem dX3_risc_287 : decode cX3_risc 287 = .ok (.iadd, 1) := by decide +kernel
theorem dX3_risc_288 : decode cX3_risc 288 = .ok (.iastore, 1) := by decide +kernel
theorem dX3_risc_289 : decode cX3_risc 289 = .ok (.aload_n 0, 1) := by decide +kernel
theorem dX3_risc_290 : decode cX3_risc 290 = .ok (.iload_n 1, 1) := by decide +kernel
theorem dX3_risc_291 : decode cX3_risc 291 = .ok (.bipush 8, 2) := by decide +kernel
theorem dX3_risc_293 : decode cX3_risc 293 = .ok (.invokevirtual 88, 3) := by decide +kernel
theorem dX3_risc_296 : decode cX3_risc 296 = .ok (.goto 9, 3) := by decide +kernel
theorem dX3_risc_299 : decode cX3_risc 299 = .ok (.aload_n 0, 1) := by decide +kernel
theorem dX3_risc_300 : decode cX3_risc 300 = .ok (.iload_n 1, 1) := by decide +kernel
theorem dX3_risc_301 : decode cX3_risc 301 = .ok (.iconst 2, 1) := by decide +kernel
theorem dX3_risc_302 : decode cX3_risc 302 = .ok (.invokevirtual 88, 3) := by decide +kernel
theorem dX3_risc_305 : decode cX3_risc 305 = .ok (.return_, 1) := by decide +kernel
theorem dX3_isEnd_0 : decode cX3_isEnd 0 = .ok (.iload_n 0, 1) := by decide +kernel
theorem dX3_isEnd_1 : decode cX3_isEnd 1 = .ok (.ifCond .eq 10, 3) := by decide +kernel
theorem dX3_isEnd_4 : decode cX3_isEnd 4 = .ok (.iload_n 0, 1) := by decide +kernel
theorem dX3_isEnd_5 : decode cX3_isEnd 5 = .ok (.sipush 255, 3) := by decide +kernel
theorem dX3_isEnd_8 : decode cX3_isEnd 8 = .ok (.if_icmp .ne 7, 3) := by decide +kernel
theorem dX3_isEnd_11 : decode cX3_isEnd 11 = .ok (.iconst 1, 1) := by decide +kernel
theorem dX3_isEnd_12 : decode cX3_isEnd 12 = .ok (.goto 4, 3) := by decide +kernel
theorem dX3_isEnd_15 : decode cX3_isEnd 15 = .ok (.iconst 0, 1) := by decide +kernel
theorem dX3_isEnd_16 : decode cX3_isEnd 16 = .ok (.ireturn, 1) := by decide +kernel
set_option maxRecDepth 20000 in
theorem ggX3_jump_X3_at : GoodIn wsX3_jump wsX3_at := goodIn_r _ [8, 9, 39, 40, 41, 42, 43, 44, 45, 46, 47, 48, 49, 50, 51, 52, 53, 54, 55, 56, 57, 58] (by decide +kernel) (by decide +kernel)
set_option maxRecDepth 20000 in
theorem gX3_jump_X3_at : GoodIn wsX3_jump (wsV RX3 77 RX3 yX3_at wsX3_at) := goodIn_app (goodIn_of _ (by decide +kernel)) ggX3_jump_X3_at
set_option maxRecDepth 20000 in
theorem ggX3_jump_X3_give : GoodIn wsX3_jump wsX3_give := goodIn_r _ [13, 14, 15, 16, 17, 4, 5, 6, 7, 8, 9, 18, 19, 20, 21, 39, 40, 41, 42, 43, 44, 45, 46, 47, 48, 49, 50, 51, 52, 53, 54, 55, 56, 57, 58] (by decide +kernel) (by decide +kernel)
set_option maxRecDepth 20000 in
theorem gX3_jump_X3_give : GoodIn wsX3_jump (wsV RX3 88 RX3 yX3_give wsX3_give) := goodIn_app (goodIn_of _ (by decide +kernel)) ggX3_jump_X3_give
set_option maxRecDepth 20000 in
theorem ggX3_jump_X3_place : GoodIn wsX3_jump wsX3_place := goodIn_r _ [25, 26, 17, 39, 40, 41, 42, 43, 44, 45, 46, 47, 48, 49, 50, 51, 52, 53, 54, 55, 56, 57, 58] (by decide +kernel) (by decide +kernel)
set_option maxRecDepth 20000 in
theorem gX3_jump_X3_place : GoodIn wsX3_jump (wsV RX3 92 RX3 yX3_place wsX3_place) := goodIn_app (goodIn_of _ (by decide +kernel)) ggX3_jump_X3_place
set_option maxRecDepth 20000 in
theorem ggX3_jump_X3_isEnd : GoodIn wsX3_jump wsX3_isEnd := goodIn_r _ [29] (by decide +kernel) (by decide +kernel)
set_option maxRecDepth 20000 in
theorem gX3_jump_X3_isEnd : GoodIn wsX3_jump (va_wsS RX3 116 yX3_isEnd wsX3_isEnd) := goodIn_app (goodIn_of _ (by decide +kernel)) ggX3_jump_X3_isEnd
set_option maxRecDepth 20000 in
theorem ggX3_jump_X3_low : GoodIn wsX3_jump wsX3_low := goodIn_r _ [33, 4, 5, 6, 7, 8, 9, 39, 40, 41, 42, 43, 44, 45, 46, 47, 48, 49, 50, 51, 52, 53, 54, 55, 56, 57, 58] (by decide +kernel) (by decide +kernel)
set_option maxRecDepth 20000 in
theorem gX3_jump_X3_low : GoodIn wsX3_jump (wsV RX3 109 RX3 yX3_low wsX3_low) := goodIn_app (goodIn_of _ (by decide +kernel)) ggX3_jump_X3_low
set_option maxRecDepth 20000 in
theorem ggX3_jump_X3_moved : GoodIn wsX3_jump wsX3_moved := goodIn_r _ [37, 38, 39, 40, 41, 42, 43, 44, 45, 46, 47, 48, 49, 50, 51, 52, 53, 54, 55, 56, 57, 58] (by decide +kernel) (by decide +kernel)
set_option maxRecDepth 20000 in
theorem gX3_jump_X3_moved : GoodIn wsX3_jump (wsV RX3 96 RX3 yX3_moved wsX3_moved) := goodIn_app (goodIn_of _ (by decide +kernel)) ggX3_jump_X3_moved
set_option maxRecDepth 20000 in
theorem ggX3_jump_X3_change : GoodIn wsX3_jump wsX3_change := goodIn_r _ [21, 9, 39, 40, 41, 42, 43, 44, 45, 46, 47, 48, 49, 50, 51, 52, 53, 54, 55, 56, 57, 58] (by decide +kernel) (by decide +kernel)
set_option maxRecDepth 20000 in
theorem gX3_jump_X3_change : GoodIn wsX3_jump (wsV RX3 81 RX3 yX3_change wsX3_change) := goodIn_app (goodIn_of _ (by decide +kernel)) ggX3_jump_X3_change
theorem dX3_jump_0 : decode cX3_jump 0 = .ok (.aload_n 0, 1) := by decide +kernel
theorem dX3_jump_1 : decode cX3_jump 1 = .ok (.iload_n 1, 1) := by decide +kernel
theorem dX3_jump_2 : decode cX3_jump 2 = .ok (.iconst 0, 1) := by decide +kernel
theorem dX3_jump_3 : decode cX3_jump 3 = .ok (.invokevirtual 77, 3) := by decide +kernel
theorem dX3_jump_6 : decode cX3_jump 6 = .ok (.sipush 232, 3) := by decide +kernel
theorem dX3_jump_9 : decode cX3_jump 9 = .ok (.if_icmp .eq 22, 3) := by decide +kernel
theorem dX3_jump_12 : decode cX3_jump 12 = .ok (.aload_n 0, 1) := by decide +kernel
theorem dX3_jump_13 : decode cX3_jump 13 = .ok (.iload_n 1, 1) := by decide +kernel
theorem dX3_jump_14 : decode cX3_jump 14 = .ok (.iconst 0, 1) := by decide +kernel
theorem dX3_jump_15 : decode cX3_jump 15 = .ok (.invokevirtual 77, 3) := by decide +kernel
theorem dX3_jump_18 : decode cX3_jump 18 = .ok (.sipush 233, 3) := by decide +kernel
theorem dX3_jump_21 : decode cX3_jump 21 = .ok (.if_icmp .eq 10, 3) := by decide +kernel
theorem dX3_jump_24 : decode cX3_jump 24 = .ok (.aload_n 0, 1) := by decide +kernel
theorem dX3_jump_25 : decode cX3_jump 25 = .ok (.iload_n 1, 1) := by decide +kernel
theorem dX3_jump_26 : decode cX3_jump 26 = .ok (.iconst 1, 1) := by decide +kernel
theorem dX3_jump_27 : decode cX3_jump 27 = .ok (.invokevirtual 88, 3) := by decide +kernel
theorem dX3_jump_30 : decode cX3_jump 30 = .ok (.return_, 1) := by decide +kernel
theorem dX3_jump_31 : decode cX3_jump 31 = .ok (.aload_n 0, 1) := by decide +kernel
theorem dX3_jump_32 : decode cX3_jump 32 = .ok (.iload_n 1, 1) := by decide +kernel
theorem dX3_jump_33 : decode cX3_jump 33 = .ok (.invokevirtual 92, 3) := by decide +kernel
theorem dX3_jump_36 : decode cX3_jump 36 = .ok (.istore_n 2, 1) := by decide +kernel
theorem dX3_jump_37 : decode cX3_jump 37 = .ok (.iload_n 2, 1) := by decide +kernel
theorem dX3_jump_38 : decode cX3_jump 38 = .ok (.aload_n 0, 1) := by decide +kernel
theorem dX3_jump_39 : decode cX3_jump 39 = .ok (.getfield 38, 3) := by decide +kernel
theorem dX3_jump_42 : decode cX3_jump 42 = .ok (.iload_n 1, 1) := by decide +kernel
theorem dX3_jump_43 : decode cX3_jump 43 = .ok (.iaload, 1) := by decide +kernel
theorem dX3_jump_44 : decode cX3_jump 44 = .ok (.isub, 1) := by decide +kernel
theorem dX3_jump_45 : decode cX3_jump 45 = .ok (.istore_n 3, 1) := by decide +kernel
theorem dX3_jump_46 : decode cX3_jump 46 = .ok (.aload_n 0, 1) := by decide +kernel
theorem dX3_jump_47 : decode cX3_jump 47 = .ok (.getfield 38, 3) := by decide +kernel
theorem dX3_jump_50 : decode cX3_jump 50 = .ok (.iload_n 1, 1) := by decide +kernel
theorem dX3_jump_51 : decode cX3_jump 51 = .ok (.iload_n 2, 1) := by decide +kernel
theorem dX3_jump_52 : decode cX3_jump 52 = .ok (.iastore, 1) := by decide +kernel
theorem dX3_jump_53 : decode cX3_jump 53 = .ok (.iload_n 3, 1) := by decide +kernel
theorem dX3_jump_54 : decode cX3_jump 54 = .ok (.ifCond .lt 8, 3) := by decide +kernel
theorem dX3_jump_57 : decode cX3_jump 57 = .ok (.iload_n 3, 1) := by decide +kernel
theorem dX3_jump_58 : decode cX3_jump 58 = .ok (.iconst 5, 1) := by decide +kernel
theorem dX3_jump_59 : decode cX3_jump 59 = .ok (.if_icmp .le 13, 3) := by decide +kernel
theorem dX3_jump_62 : decode cX3_jump 62 = .ok (.aload_n 0, 1) := by decide +kernel
theorem dX3_jump_63 : decode cX3_jump 63 = .ok (.getfield 35, 3) := by decide +kernel
theorem dX3_jump_66 : decode cX3_jump 66 = .ok (.iload_n 1, 1) := by decide +kernel
theorem dX3_jump_67 : decode cX3_jump 67 = .ok (.iconst 0, 1) := by decide +kernel
theorem dX3_jump_68 : decode cX3_jump 68 = .ok (.iastore, 1) := by decide +kernel
theorem dX3_jump_69 : decode cX3_jump 69 = .ok (.goto 35, 3) := by decide +kernel
theorem dX3_jump_72 : decode cX3_jump 72 = .ok (.iconst 0, 1) := by decide +kernel
theorem dX3_jump_73 : decode cX3_jump 73 = .ok (.istore 4, 2) := by decide +kernel
theorem dX3_jump_75 : decode cX3_jump 75 = .ok (.iload 4, 2) := by decide +kernel
theorem dX3_jump_77 : decode cX3_jump 77 = .ok (.iload_n 3, 1) := by decide +kernel
theorem dX3_jump_78 : decode cX3_jump 78 = .ok (.if_icmp .ge 26, 3) := by decide +kernel
theorem dX3_jump_81 : decode cX3_jump 81 = .ok (.aload_n 0, 1) := by decide +kernel
theorem dX3_jump_82 : decode cX3_jump 82 = .ok (.getfield 35, 3) := by decide +kernel
theorem dX3_jump_85 : decode cX3_jump 85 = .ok (.iload_n 1, 1) := by decide +kernel
theorem dX3_jump_86 : decode cX3_jump 86 = .ok (.aload_n 0, 1) := by decide +kernel
theorem dX3_jump_87 : decode cX3_jump 87 = .ok (.getfield 35, 3) := by decide +kernel
theorem dX3_jump_90 : decode cX3_jump 90 = .ok (.iload_n 1, 1) := by decide +kernel
theorem dX3_jump_91 : decode cX3_jump 91 = .ok (.iaload, 1) := by decide +kernel
theorem dX3_jump_92 : decode cX3_jump 92 = .ok (.bipush 119, 2) := by decide +kernel
theorem dX3_jump_94 : decode cX3_jump 94 = .ok (.iand, 1) := by decide +kernel
theorem dX3_jump_95 : decode cX3_jump 95 = .ok (.iconst 1, 1) := by decide +kernel
theorem dX3_jump_96 : decode cX3_jump 96 = .ok (.ishl, 1) := by decide +kernel
theorem dX3_jump_97 : decode cX3_jump 97 = .ok (.iastore, 1) := by decide +kernel
theorem dX3_jump_98 : decode cX3_jump 98 = .ok (.iinc 4 1, 3) := by decide +kernel
theorem dX3_jump_101 : decode cX3_jump 101 = .ok (.goto (-26), 3) := by decide +kernel
theorem dX3_jump_104 : decode cX3_jump 104 = .ok (.aload_n 0, 1) := by decide +kernel
theorem dX3_jump_105 : decode cX3_jump 105 = .ok (.getfield 35, 3) := by decide +kernel
theorem dX3_jump_108 : decode cX3_jump 108 = .ok (.iload_n 1, 1) := by decide +kernel
theorem dX3_jump_109 : decode cX3_jump 109 = .ok (.iaload, 1) := by decide +kernel
theorem dX3_jump_110 : decode cX3_jump 110 = .ok (.iconst 1, 1) := by decide +kernel
theorem dX3_jump_111 : decode cX3_jump 111 = .ok (.ishr, 1) := by decide +kernel
theorem dX3_jump_112 : decode cX3_jump 112 = .ok (.istore 4, 2) := by decide +kernel
theorem dX3_jump_114 : decode cX3_jump 114 = .ok (.iload 4, 2) := by decide +kernel
theorem dX3_jump_116 : decode cX3_jump 116 = .ok (.bipush 7, 2) := by decide +kernel
theorem dX3_jump_118 : decode cX3_jump 118 = .ok (.iand, 1) := by decide +kernel
theorem dX3_jump_119 : decode cX3_jump 119 = .ok (.istore 5, 2) := by decide +kernel
theorem dX3_jump_121 : decode cX3_jump 121 = .ok (.aload_n 0, 1) := by decide +kernel
theorem dX3_jump_122 : decode cX3_jump 122 = .ok (.iload_n 1, 1) := by decide +kernel
theorem dX3_jump_123 : decode cX3_jump 123 = .ok (.iconst 4, 1) := by decide +kernel
