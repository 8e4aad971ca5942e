theorem dX0_stepArm_27 : decode cX0_stepArm 27 = .ok (.aload_n 0, 1) := by decide +kernel
theorem dX0_stepArm_28 : decode cX0_stepArm 28 = .ok (.iconst 4, 1) := by decide +kernel
theorem dX0_stepArm_29 : decode cX0_stepArm 29 = .ok (.iload_n 2, 1) := by decide +kernel
theorem dX0_stepArm_30 : decode cX0_stepArm 30 = .ok (.imul, 1) := by decide +kernel
theorem dX0_stepArm_31 : decode cX0_stepArm 31 = .ok (.aload_n 0, 1) := by decide +kernel
theorem dX0_stepArm_32 : decode cX0_stepArm 32 = .ok (.getfield 42, 3) := by decide +kernel
theorem dX0_stepArm_35 : decode cX0_stepArm 35 = .ok (.bipush 8, 2) := by decide +kernel
theorem dX0_stepArm_37 : decode cX0_stepArm 37 = .ok (.iadd, 1) := by decide +kernel
theorem dX0_stepArm_38 : decode cX0_stepArm 38 = .ok (.invokevirtual 99, 3) := by decide +kernel
theorem dX0_stepArm_41 : decode cX0_stepArm 41 = .ok (.iconst 2, 1) := by decide +kernel
theorem dX0_stepArm_42 : decode cX0_stepArm 42 = .ok (.iushr, 1) := by decide +kernel
theorem dX0_stepArm_43 : decode cX0_stepArm 43 = .ok (.istore_n 3, 1) := by decide +kernel
theorem dX0_stepArm_44 : decode cX0_stepArm 44 = .ok (.aload_n 0, 1) := by decide +kernel
theorem dX0_stepArm_45 : decode cX0_stepArm 45 = .ok (.getfield 14, 3) := by decide +kernel
theorem dX0_stepArm_48 : decode cX0_stepArm 48 = .ok (.aload_n 0, 1) := by decide +kernel
theorem dX0_stepArm_49 : decode cX0_stepArm 49 = .ok (.getfield 65, 3) := by decide +kernel
theorem dX0_stepArm_52 : decode cX0_stepArm 52 = .ok (.ldc 111, 2) := by decide +kernel
theorem dX0_stepArm_54 : decode cX0_stepArm 54 = .ok (.iload_n 3, 1) := by decide +kernel
theorem dX0_stepArm_55 : decode cX0_stepArm 55 = .ok (.ldc 110, 2) := by decide +kernel
theorem dX0_stepArm_57 : decode cX0_stepArm 57 = .ok (.iand, 1) := by decide +kernel
theorem dX0_stepArm_58 : decode cX0_stepArm 58 = .ok (.ior, 1) := by decide +kernel
theorem dX0_stepArm_59 : decode cX0_stepArm 59 = .ok (.invokevirtual 112, 3) := by decide +kernel
theorem dX0_stepArm_62 : decode cX0_stepArm 62 = .ok (.aload_n 0, 1) := by decide +kernel
theorem dX0_stepArm_63 : decode cX0_stepArm 63 = .ok (.dup, 1) := by decide +kernel
theorem dX0_stepArm_64 : decode cX0_stepArm 64 = .ok (.getfield 48, 3) := by decide +kernel
theorem dX0_stepArm_67 : decode cX0_stepArm 67 = .ok (.iconst 1, 1) := by decide +kernel
theorem dX0_stepArm_68 : decode cX0_stepArm 68 = .ok (.iadd, 1) := by decide +kernel
theorem dX0_stepArm_69 : decode cX0_stepArm 69 = .ok (.putfield 48, 3) := by decide +kernel
theorem dX0_stepArm_72 : decode cX0_stepArm 72 = .ok (.iconst 4, 1) := by decide +kernel
theorem dX0_stepArm_73 : decode cX0_stepArm 73 = .ok (.ireturn, 1) := by decide +kernel
set_option maxRecDepth 20000 in
theorem ggX0_stepThumb_X1_at : GoodIn wsX0_stepThumb wsX1_at := goodIn_r _ [9, 10, 32, 33] (by decide +kernel) (by decide +kernel)
set_option maxRecDepth 20000 in
theorem gX0_stepThumb_X1_at : GoodIn wsX0_stepThumb (wsV RX0 95 RX1 yX1_at wsX1_at) := goodIn_app (goodIn_of _ (by decide +kernel)) ggX0_stepThumb_X1_at
set_option maxRecDepth 20000 in
theorem ggX0_stepThumb_X0_moved : GoodIn wsX0_stepThumb wsX0_moved := goodIn_r _ [15, 16, 21, 22, 23, 24, 25, 26, 27, 28, 29, 30, 31] (by decide +kernel) (by decide +kernel)
set_option maxRecDepth 20000 in
theorem gX0_stepThumb_X0_moved : GoodIn wsX0_stepThumb (wsV RX0 99 RX0 yX0_moved wsX0_moved) := goodIn_app (goodIn_of _ (by decide +kernel)) ggX0_stepThumb_X0_moved
set_option maxRecDepth 20000 in
theorem ggX0_stepThumb_X1_set : GoodIn wsX0_stepThumb wsX1_set := goodIn_r _ [20, 10, 32, 33] (by decide +kernel) (by decide +kernel)
set_option maxRecDepth 20000 in
theorem gX0_stepThumb_X1_set : GoodIn wsX0_stepThumb (wsV RX0 103 RX1 yX1_set wsX1_set) := goodIn_app (goodIn_of _ (by decide +kernel)) ggX0_stepThumb_X1_set
theorem dX0_stepThumb_0 : decode cX0_stepThumb 0 = .ok (.aload_n 0, 1) := by decide +kernel
theorem dX0_stepThumb_1 : decode cX0_stepThumb 1 = .ok (.getfield 14, 3) := by decide +kernel
theorem dX0_stepThumb_4 : decode cX0_stepThumb 4 = .ok (.aload_n 0, 1) := by decide +kernel
theorem dX0_stepThumb_5 : decode cX0_stepThumb 5 = .ok (.getfield 65, 3) := by decide +kernel
theorem dX0_stepThumb_8 : decode cX0_stepThumb 8 = .ok (.invokevirtual 95, 3) := by decide +kernel
theorem dX0_stepThumb_11 : decode cX0_stepThumb 11 = .ok (.istore_n 1, 1) := by decide +kernel
theorem dX0_stepThumb_12 : decode cX0_stepThumb 12 = .ok (.aload_n 0, 1) := by decide +kernel
theorem dX0_stepThumb_13 : decode cX0_stepThumb 13 = .ok (.getfield 14, 3) := by decide +kernel
theorem dX0_stepThumb_16 : decode cX0_stepThumb 16 = .ok (.aload_n 0, 1) := by decide +kernel
theorem dX0_stepThumb_17 : decode cX0_stepThumb 17 = .ok (.getfield 65, 3) := by decide +kernel
theorem dX0_stepThumb_20 : decode cX0_stepThumb 20 = .ok (.iconst 1, 1) := by decide +kernel
theorem dX0_stepThumb_21 : decode cX0_stepThumb 21 = .ok (.iadd, 1) := by decide +kernel
theorem dX0_stepThumb_22 : decode cX0_stepThumb 22 = .ok (.invokevirtual 95, 3) := by decide +kernel
theorem dX0_stepThumb_25 : decode cX0_stepThumb 25 = .ok (.istore_n 2, 1) := by decide +kernel
theorem dX0_stepThumb_26 : decode cX0_stepThumb 26 = .ok (.aload_n 0, 1) := by decide +kernel
theorem dX0_stepThumb_27 : decode cX0_stepThumb 27 = .ok (.getfield 14, 3) := by decide +kernel
theorem dX0_stepThumb_30 : decode cX0_stepThumb 30 = .ok (.aload_n 0, 1) := by decide +kernel
theorem dX0_stepThumb_31 : decode cX0_stepThumb 31 = .ok (.getfield 65, 3) := by decide +kernel
theorem dX0_stepThumb_34 : decode cX0_stepThumb 34 = .ok (.iconst 2, 1) := by decide +kernel
theorem dX0_stepThumb_35 : decode cX0_stepThumb 35 = .ok (.iadd, 1) := by decide +kernel
theorem dX0_stepThumb_36 : decode cX0_stepThumb 36 = .ok (.invokevirtual 95, 3) := by decide +kernel
theorem dX0_stepThumb_39 : decode cX0_stepThumb 39 = .ok (.istore_n 3, 1) := by decide +kernel
theorem dX0_stepThumb_40 : decode cX0_stepThumb 40 = .ok (.aload_n 0, 1) := by decide +kernel
theorem dX0_stepThumb_41 : decode cX0_stepThumb 41 = .ok (.getfield 14, 3) := by decide +kernel
theorem dX0_stepThumb_44 : decode cX0_stepThumb 44 = .ok (.aload_n 0, 1) := by decide +kernel
theorem dX0_stepThumb_45 : decode cX0_stepThumb 45 = .ok (.getfield 65, 3) := by decide +kernel
theorem dX0_stepThumb_48 : decode cX0_stepThumb 48 = .ok (.iconst 3, 1) := by decide +kernel
theorem dX0_stepThumb_49 : decode cX0_stepThumb 49 = .ok (.iadd, 1) := by decide +kernel
theorem dX0_stepThumb_50 : decode cX0_stepThumb 50 = .ok (.invokevirtual 95, 3) := by decide +kernel
theorem dX0_stepThumb_53 : decode cX0_stepThumb 53 = .ok (.istore 4, 2) := by decide +kernel
theorem dX0_stepThumb_55 : decode cX0_stepThumb 55 = .ok (.iload_n 2, 1) := by decide +kernel
theorem dX0_stepThumb_56 : decode cX0_stepThumb 56 = .ok (.iconst 3, 1) := by decide +kernel
theorem dX0_stepThumb_57 : decode cX0_stepThumb 57 = .ok (.iushr, 1) := by decide +kernel
theorem dX0_stepThumb_58 : decode cX0_stepThumb 58 = .ok (.bipush 30, 2) := by decide +kernel
theorem dX0_stepThumb_60 : decode cX0_stepThumb 60 = .ok (.if_icmp .ne 12, 3) := by decide +kernel
theorem dX0_stepThumb_63 : decode cX0_stepThumb 63 = .ok (.iload 4, 2) := by decide +kernel
theorem dX0_stepThumb_65 : decode cX0_stepThumb 65 = .ok (.iconst 3, 1) := by decide +kernel
theorem dX0_stepThumb_66 : decode cX0_stepThumb 66 = .ok (.iushr, 1) := by decide +kernel
theorem dX0_stepThumb_67 : decode cX0_stepThumb 67 = .ok (.bipush 31, 2) := by decide +kernel
theorem dX0_stepThumb_69 : decode cX0_stepThumb 69 = .ok (.if_icmp .eq 5, 3) := by decide +kernel
theorem dX0_stepThumb_72 : decode cX0_stepThumb 72 = .ok (.iconst 2, 1) := by decide +kernel
theorem dX0_stepThumb_73 : decode cX0_stepThumb 73 = .ok (.ireturn, 1) := by decide +kernel
theorem dX0_stepThumb_74 : decode cX0_stepThumb 74 = .ok (.iload_n 2, 1) := by decide +kernel
theorem dX0_stepThumb_75 : decode cX0_stepThumb 75 = .ok (.bipush 7, 2) := by decide +kernel
theorem dX0_stepThumb_77 : decode cX0_stepThumb 77 = .ok (.iand, 1) := by decide +kernel
theorem dX0_stepThumb_78 : decode cX0_stepThumb 78 = .ok (.bipush 19, 2) := by decide +kernel
theorem dX0_stepThumb_80 : decode cX0_stepThumb 80 = .ok (.ishl, 1) := by decide +kernel
theorem dX0_stepThumb_81 : decode cX0_stepThumb 81 = .ok (.iload_n 1, 1) := by decide +kernel
theorem dX0_stepThumb_82 : decode cX0_stepThumb 82 = .ok (.bipush 11, 2) := by decide +kernel
theorem dX0_stepThumb_84 : decode cX0_stepThumb 84 = .ok (.ishl, 1) := by decide +kernel
theorem dX0_stepThumb_85 : decode cX0_stepThumb 85 = .ok (.ior, 1) := by decide +kernel
theorem dX0_stepThumb_86 : decode cX0_stepThumb 86 = .ok (.iload 4, 2) := by decide +kernel
theorem dX0_stepThumb_88 : decode cX0_stepThumb 88 = .ok (.bipush 7, 2) := by decide +kernel
theorem dX0_stepThumb_90 : decode cX0_stepThumb 90 = .ok (.iand, 1) := by decide +kernel
theorem dX0_stepThumb_91 : decode cX0_stepThumb 91 = .ok (.bipush 8, 2) := by decide +kernel
theorem dX0_stepThumb_93 : decode cX0_stepThumb 93 = .ok (.ishl, 1) := by decide +kernel
theorem dX0_stepThumb_94 : decode cX0_stepThumb 94 = .ok (.ior, 1) := by decide +kernel
theorem dX0_stepThumb_95 : decode cX0_stepThumb 95 = .ok (.iload_n 3, 1) := by decide +kernel
theorem dX0_stepThumb_96 : decode cX0_stepThumb 96 = .ok (.ior, 1) := by decide +kernel
theorem dX0_stepThumb_97 : decode cX0_stepThumb 97 = .ok (.istore 5, 2) := by decide +kernel
theorem dX0_stepThumb_99 : decode cX0_stepThumb 99 = .ok (.aload_n 0, 1) := by decide +kernel
theorem dX0_stepThumb_100 : decode cX0_stepThumb 100 = .ok (.iconst 2, 1) := by decide +kernel
theorem dX0_stepThumb_101 : decode cX0_stepThumb 101 = .ok (.iload 5, 2) := by decide +kernel
theorem dX0_stepThumb_103 : decode cX0_stepThumb 103 = .ok (.imul, 1) := by decide +kernel
theorem dX0_stepThumb_104 : decode cX0_stepThumb 104 = .ok (.aload_n 0, 1) := by decide +kernel
theorem dX0_stepThumb_105 : decode cX0_stepThumb 105 = .ok (.getfield 42, 3) := by decide +kernel
theorem dX0_stepThumb_108 : decode cX0_stepThumb 108 = .ok (.iconst 4, 1) := by decide +kernel
theorem dX0_stepThumb_109 : decode cX0_stepThumb 109 = .ok (.iadd, 1) := by decide +kernel
theorem dX0_stepThumb_110 : decode cX0_stepThumb 110 = .ok (.invokevirtual 99, 3) := by decide +kernel
theorem dX0_stepThumb_113 : decode cX0_stepThumb 113 = .ok (.iconst 1, 1) := by decide +kernel
theorem dX0_stepThumb_114 : decode cX0_stepThumb 114 = .ok (.iushr, 1) := by decide +kernel
theorem dX0_stepThumb_115 : decode cX0_stepThumb 115 = .ok (.istore 6, 2) := by decide +kernel
theorem dX0_stepThumb_117 : decode cX0_stepThumb 117 = .ok (.aload_n 0, 1) := by decide +kernel
theorem dX0_stepThumb_118 : decode cX0_stepThumb 118 = .ok (.getfield 14, 3) := by decide +kernel
theorem dX0_stepThumb_121 : decode cX0_stepThumb 121 = .ok (.aload_n 0, 1) := by decide +kernel
theorem dX0_stepThumb_122 : decode cX0_stepThumb 122 = .ok (.getfield 65, 3) := by decide +kernel
theorem dX0_stepThumb_125 : decode cX0_stepThumb 125 = .ok (.iload 6, 2) := by decide +kernel
theorem dX0_stepThumb_127 : decode cX0_stepThumb 127 = .ok (.bipush 11, 2) := by decide +kernel
theorem dX0_stepThumb_129 : decode cX0_stepThumb 129 = .ok (.iushr, 1) := by decide +kernel
theorem dX0_stepThumb_130 : decode cX0_stepThumb 130 = .ok (.invokevirtual 103, 3) := by decide +kernel
theorem dX0_stepThumb_133 : decode cX0_stepThumb 133 = .ok (.aload_n 0, 1) := by decide +kernel
theorem dX0_stepThumb_134 : decode cX0_stepThumb 134 = .ok (.getfield 14, 3) := by decide +kernel
theorem dX0_stepThumb_137 : decode cX0_stepThumb 137 = .ok (.aload_n 0, 1) := by decide +kernel
theorem dX0_stepThumb_138 : decode cX0_stepThumb 138 = .ok (.getfield 65, 3) := by decide +kernel
theorem dX0_stepThumb_141 : decode cX0_stepThumb 141 = .ok (.iconst 1, 1) := by decide +kernel
theorem dX0_stepThumb_142 : decode cX0_stepThumb 142 = .ok (.iadd, 1) := by decide +kernel
theorem dX0_stepThumb_143 : decode cX0_stepThumb 143 = .ok (.sipush 240, 3) := by decide +kernel
theorem dX0_stepThumb_146 : decode cX0_stepThumb 146 = .ok (.iload 6, 2) := by decide +kernel
theorem dX0_stepThumb_148 : decode cX0_stepThumb 148 = .ok (.bipush 19, 2) := by decide +kernel
theorem dX0_stepThumb_150 : decode cX0_stepThumb 150 = .ok (.iushr, 1) := by decide +kernel
theorem dX0_stepThumb_151 : decode cX0_stepThumb 151 = .ok (.bipush 7, 2) := by decide +kernel
theorem dX0_stepThumb_153 : decode cX0_stepThumb 153 = .ok (.iand, 1) := by decide +kernel
theorem dX0_stepThumb_154 : decode cX0_stepThumb 154 = .ok (.ior, 1) := by decide +kernel
theorem dX0_stepThumb_155 : decode cX0_stepThumb 155 = .ok (.invokevirtual 103, 3) := by decide +kernel
theorem dX0_stepThumb_158 : decode cX0_stepThumb 158 = .ok (.aload_n 0, 1) := by decide +kernel
theorem dX0_stepThumb_159 : decode cX0_stepThumb 159 = .ok (.getfield 14, 3) := by decide +kernel
theorem dX0_stepThumb_162 : decode cX0_stepThumb 162 = .ok (.aload_n 0, 1) := by decide +kernel
theorem dX0_stepThumb_163 : decode cX0_stepThumb 163 = .ok (.getfield 65, 3) := by decide +kernel
theorem dX0_stepThumb_166 : decode cX0_stepThumb 166 = .ok (.iconst 2, 1) := by decide +kernel
theorem dX0_stepThumb_167 : decode cX0_stepThumb 167 = .ok (.iadd, 1) := by decide +kernel
theorem dX0_stepThumb_168 : decode cX0_stepThumb 168 = .ok (.iload 6, 2) := by decide +kernel
theorem dX0_stepThumb_170 : decode cX0_stepThumb 170 = .ok (.invokevirtual 103, 3) := by decide +kernel
theorem dX0_stepThumb_173 : decode cX0_stepThumb 173 = .ok (.aload_n 0, 1) := by decide +kernel
theorem dX0_stepThumb_174 : decode cX0_stepThumb 174 = .ok (.getfield 14, 3) := by decide +kernel
theorem dX0_stepThumb_177 : decode cX0_stepThumb 177 = .ok (.aload_n 0, 1) := by decide +kernel
theorem dX0_stepThumb_178 : decode cX0_stepThumb 178 = .ok (.getfield 65, 3) := by decide +kernel
theorem dX0_stepThumb_181 : decode cX0_stepThumb 181 = .ok (.iconst 3, 1) := by decide +kernel
theorem dX0_stepThumb_182 : decode cX0_stepThumb 182 = .ok (.iadd, 1) := by decide +kernel
theorem dX0_stepThumb_183 : decode cX0_stepThumb 183 = .ok (.sipush 248, 3) := by decide +kernel
theorem dX0_stepThumb_186 : decode cX0_stepThumb 186 = .ok (.iload 6, 2) := by decide +kernel
theorem dX0_stepThumb_188 : decode cX0_stepThumb 188 = .ok (.bipush 8, 2) := by decide +kernel
theorem dX0_stepThumb_190 : decode cX0_stepThumb 190 = .ok (.iushr, 1) := by decide +kernel
theorem dX0_stepThumb_191 : decode cX0_stepThumb 191 = .ok (.bipush 7, 2) := by decide +kernel
theorem dX0_stepThumb_193 : decode cX0_stepThumb 193 = .ok (.iand, 1) := by decide +kernel
theorem dX0_stepThumb_194 : decode cX0_stepThumb 194 = .ok (.ior, 1) := by decide +kernel
theorem dX0_stepThumb_195 : decode cX0_stepThumb 195 = .ok (.invokevirtual 103, 3) := by decide +kernel
theorem dX0_stepThumb_198 : decode cX0_stepThumb 198 = .ok (.aload_n 0, 1) := by decide +kernel
theorem dX0_stepThumb_199 : decode cX0_stepThumb 199 = .ok (.dup, 1) := by decide +kernel
theorem dX0_stepThumb_200 : decode cX0_stepThumb 200 = .ok (.getfield 48, 3) := by decide +kernel
theorem dX0_stepThumb_203 : decode cX0_stepThumb 203 = .ok (.iconst 1, 1) := by decide +kernel
theorem dX0_stepThumb_204 : decode cX0_stepThumb 204 = .ok (.iadd, 1) := by decide +kernel
theorem dX0_stepThumb_205 : decode cX0_stepThumb 205 = .ok (.putfield 48, 3) := by decide +kernel
theorem dX0_stepThumb_208 : decode cX0_stepThumb 208 = .ok (.iconst 4, 1) := by decide +kernel
theorem dX0_stepThumb_209 : decode cX0_stepThumb 209 = .ok (.ireturn, 1) := by decide +kernel
set_option maxRecDepth 20000 in
theorem ggX0_stepPower_X1_highestFirst : GoodIn wsX0_stepPower wsX1_highestFirst := goodIn_r _ [11, 12, 34, 35] (by decide +kernel) (by decide +kernel)
set_option maxRecDepth 20000 in
theorem gX0_stepPower_X1_highestFirst : GoodIn wsX0_stepPower (wsV RX0 115 RX1 yX1_highestFirst wsX1_highestFirst) := goodIn_app (goodIn_of _ (by decide +kernel)) ggX0_stepPower_X1_highestFirst
set_option maxRecDepth 20000 in
theorem ggX0_stepPower_X0_moved : GoodIn wsX0_stepPower wsX0_moved := goodIn_r _ [17, 18, 23, 24, 25, 26, 27, 28, 29, 30, 31, 32, 33] (by decide +kernel) (by decide +kernel)
set_option maxRecDepth 20000 in
theorem gX0_stepPower_X0_moved : GoodIn wsX0_stepPower (wsV RX0 99 RX0 yX0_moved wsX0_moved) := goodIn_app (goodIn_of _ (by decide +kernel)) ggX0_stepPower_X0_moved
set_option maxRecDepth 20000 in
theorem ggX0_stepPower_X1_setHighestFirst : GoodIn wsX0_stepPower wsX1_setHighestFirst := goodIn_r _ [22, 12, 34, 35] (by decide +kernel) (by decide +kernel)
set_option maxRecDepth 20000 in
theorem gX0_stepPower_X1_setHighestFirst : GoodIn wsX0_stepPower (wsV RX0 120 RX1 yX1_setHighestFirst wsX1_setHighestFirst) := goodIn_app (goodIn_of _ (by decide +kernel)) ggX0_stepPower_X1_setHighestFirst
theorem dX0_stepPower_0 : decode cX0_stepPower 0 = .ok (.aload_n 0, 1) := by decide +kernel
theorem dX0_stepPower_1 : decode cX0_stepPower 1 = .ok (.getfield 14, 3) := by decide +kernel
theorem dX0_stepPower_4 : decode cX0_stepPower 4 = .ok (.aload_n 0, 1) := by decide +kernel
theorem dX0_stepPower_5 : decode cX0_stepPower 5 = .ok (.getfield 65, 3) := by decide +kernel
theorem dX0_stepPower_8 : decode cX0_stepPower 8 = .ok (.invokevirtual 115, 3) := by decide +kernel
theorem dX0_stepPower_11 : decode cX0_stepPower 11 = .ok (.istore_n 1, 1) := by decide +kernel
theorem dX0_stepPower_12 : decode cX0_stepPower 12 = .ok (.iload_n 1, 1) := by decide +kernel
theorem dX0_stepPower_13 : decode cX0_stepPower 13 = .ok (.bipush 26, 2) := by decide +kernel
theorem dX0_stepPower_15 : decode cX0_stepPower 15 = .ok (.iushr, 1) := by decide +kernel
theorem dX0_stepPower_16 : decode cX0_stepPower 16 = .ok (.bipush 18, 2) := by decide +kernel
theorem dX0_stepPower_18 : decode cX0_stepPower 18 = .ok (.if_icmp .ne 53, 3) := by decide +kernel
theorem dX0_stepPower_21 : decode cX0_stepPower 21 = .ok (.iload_n 1, 1) := by decide +kernel
theorem dX0_stepPower_22 : decode cX0_stepPower 22 = .ok (.iconst 3, 1) := by decide +kernel
theorem dX0_stepPower_23 : decode cX0_stepPower 23 = .ok (.iand, 1) := by decide +kernel
theorem dX0_stepPower_24 : decode cX0_stepPower 24 = .ok (.iconst 1, 1) := by decide +kernel
theorem dX0_stepPower_25 : decode cX0_stepPower 25 = .ok (.if_icmp .ne 46, 3) := by decide +kernel
theorem dX0_stepPower_28 : decode cX0_stepPower 28 = .ok (.aload_n 0, 1) := by decide +kernel
theorem dX0_stepPower_29 : decode cX0_stepPower 29 = .ok (.iload_n 1, 1) := by decide +kernel
theorem dX0_stepPower_30 : decode cX0_stepPower 30 = .ok (.ldc 118, 2) := by decide +kernel
theorem dX0_stepPower_32 : decode cX0_stepPower 32 = .ok (.iand, 1) := by decide +kernel
theorem dX0_stepPower_33 : decode cX0_stepPower 33 = .ok (.aload_n 0, 1) := by decide +kernel
theorem dX0_stepPower_34 : decode cX0_stepPower 34 = .ok (.getfield 42, 3) := by decide +kernel
theorem dX0_stepPower_37 : decode cX0_stepPower 37 = .ok (.invokevirtual 99, 3) := by decide +kernel
theorem dX0_stepPower_40 : decode cX0_stepPower 40 = .ok (.istore_n 2, 1) := by decide +kernel
theorem dX0_stepPower_41 : decode cX0_stepPower 41 = .ok (.aload_n 0, 1) := by decide +kernel
theorem dX0_stepPower_42 : decode cX0_stepPower 42 = .ok (.getfield 14, 3) := by decide +kernel
theorem dX0_stepPower_45 : decode cX0_stepPower 45 = .ok (.aload_n 0, 1) := by decide +kernel
theorem dX0_stepPower_46 : decode cX0_stepPower 46 = .ok (.getfield 65, 3) := by decide +kernel
theorem dX0_stepPower_49 : decode cX0_stepPower 49 = .ok (.iload_n 1, 1) := by decide +kernel
theorem dX0_stepPower_50 : decode cX0_stepPower 50 = .ok (.ldc 119, 2) := by decide +kernel
theorem dX0_stepPower_52 : decode cX0_stepPower 52 = .ok (.iand, 1) := by decide +kernel
theorem dX0_stepPower_53 : decode cX0_stepPower 53 = .ok (.iload_n 2, 1) := by decide +kernel
theorem dX0_stepPower_54 : decode cX0_stepPower 54 = .ok (.ldc 118, 2) := by decide +kernel
theorem dX0_stepPower_56 : decode cX0_stepPower 56 = .ok (.iand, 1) := by decide +kernel
theorem dX0_stepPower_57 : decode cX0_stepPower 57 = .ok (.ior, 1) := by decide +kernel
theorem dX0_stepPower_58 : decode cX0_stepPower 58 = .ok (.invokevirtual 120, 3) := by decide +kernel
theorem dX0_stepPower_61 : decode cX0_stepPower 61 = .ok (.aload_n 0, 1) := by decide +kernel
theorem dX0_stepPower_62 : decode cX0_stepPower 62 = .ok (.dup, 1) := by decide +kernel
theorem dX0_stepPower_63 : decode cX0_stepPower 63 = .ok (.getfield 48, 3) := by decide +kernel
theorem dX0_stepPower_66 : decode cX0_stepPower 66 = .ok (.iconst 1, 1) := by decide +kernel
theorem dX0_stepPower_67 : decode cX0_stepPower 67 = .ok (.iadd, 1) := by decide +kernel
theorem dX0_stepPower_68 : decode cX0_stepPower 68 = .ok (.putfield 48, 3) := by decide +kernel
theorem dX0_stepPower_71 : decode cX0_stepPower 71 = .ok (.iconst 4, 1) := by decide +kernel
theorem dX0_stepPower_72 : decode cX0_stepPower 72 = .ok (.ireturn, 1) := by decide +kernel
set_option maxRecDepth 20000 in
theorem ggX0_stepSparc_X1_highestFirst : GoodIn wsX0_stepSparc wsX1_highestFirst := goodIn_r _ [12, 13, 35, 36] (by decide +kernel) (by decide +kernel)
set_option maxRecDepth 20000 in
theorem gX0_stepSparc_X1_highestFirst : GoodIn wsX0_stepSparc (wsV RX0 115 RX1 yX1_highestFirst wsX1_highestFirst) := goodIn_app (goodIn_of _ (by decide +kernel)) ggX0_stepSparc_X1_highestFirst
set_option maxRecDepth 20000 in
theorem ggX0_stepSparc_X0_moved : GoodIn wsX0_stepSparc wsX0_moved := goodIn_r _ [18, 19, 24, 25, 26, 27, 28, 29, 30, 31, 32, 33, 34] (by decide +kernel) (by decide +kernel)
set_option maxRecDepth 20000 in
theorem gX0_stepSparc_X0_moved : GoodIn wsX0_stepSparc (wsV RX0 99 RX0 yX0_moved wsX0_moved) := goodIn_app (goodIn_of _ (by decide +kernel)) ggX0_stepSparc_X0_moved
set_option maxRecDepth 20000 in
theorem ggX0_stepSparc_X1_setHighestFirst : GoodIn wsX0_stepSparc wsX1_setHighestFirst := goodIn_r _ [23, 13, 35, 36] (by decide +kernel) (by decide +kernel)
set_option maxRecDepth 20000 in
theorem gX0_stepSparc_X1_setHighestFirst : GoodIn wsX0_stepSparc (wsV RX0 120 RX1 yX1_setHighestFirst wsX1_setHighestFirst) := goodIn_app (goodIn_of _ (by decide +kernel)) ggX0_stepSparc_X1_setHighestFirst
theorem dX0_stepSparc_0 : decode cX0_stepSparc 0 = .ok (.aload_n 0, 1) := by decide +kernel
theorem dX0_stepSparc_1 : decode cX0_stepSparc 1 = .ok (.getfield 14, 3) := by decide +kernel
theorem dX0_stepSparc_4 : decode cX0_stepSparc 4 = .ok (.aload_n 0, 1) := by decide +kernel
theorem dX0_stepSparc_5 : decode cX0_stepSparc 5 = .ok (.getfield 65, 3) := by decide +kernel
theorem dX0_stepSparc_8 : decode cX0_stepSparc 8 = .ok (.invokevirtual 115, 3) := by decide +kernel
theorem dX0_stepSparc_11 : decode cX0_stepSparc 11 = .ok (.istore_n 1, 1) := by decide +kernel
theorem dX0_stepSparc_12 : decode cX0_stepSparc 12 = .ok (.iload_n 1, 1) := by decide +kernel
theorem dX0_stepSparc_13 : decode cX0_stepSparc 13 = .ok (.bipush 22, 2) := by decide +kernel
theorem dX0_stepSparc_15 : decode cX0_stepSparc 15 = .ok (.iushr, 1) := by decide +kernel
theorem dX0_stepSparc_16 : decode cX0_stepSparc 16 = .ok (.istore_n 2, 1) := by decide +kernel
theorem dX0_stepSparc_17 : decode cX0_stepSparc 17 = .ok (.iload_n 2, 1) := by decide +kernel
theorem dX0_stepSparc_18 : decode cX0_stepSparc 18 = .ok (.sipush 256, 3) := by decide +kernel
theorem dX0_stepSparc_21 : decode cX0_stepSparc 21 = .ok (.if_icmp .eq 10, 3) := by decide +kernel
theorem dX0_stepSparc_24 : decode cX0_stepSparc 24 = .ok (.iload_n 2, 1) := by decide +kernel
theorem dX0_stepSparc_25 : decode cX0_stepSparc 25 = .ok (.sipush 511, 3) := by decide +kernel
theorem dX0_stepSparc_28 : decode cX0_stepSparc 28 = .ok (.if_icmp .ne 66, 3) := by decide +kernel
theorem dX0_stepSparc_31 : decode cX0_stepSparc 31 = .ok (.aload_n 0, 1) := by decide +kernel
theorem dX0_stepSparc_32 : decode cX0_stepSparc 32 = .ok (.iconst 4, 1) := by decide +kernel
theorem dX0_stepSparc_33 : decode cX0_stepSparc 33 = .ok (.iload_n 1, 1) := by decide +kernel
theorem dX0_stepSparc_34 : decode cX0_stepSparc 34 = .ok (.imul, 1) := by decide +kernel
theorem dX0_stepSparc_35 : decode cX0_stepSparc 35 = .ok (.aload_n 0, 1) := by decide +kernel
theorem dX0_stepSparc_36 : decode cX0_stepSparc 36 = .ok (.getfield 42, 3) := by decide +kernel
theorem dX0_stepSparc_39 : decode cX0_stepSparc 39 = .ok (.invokevirtual 99, 3) := by decide +kernel
theorem dX0_stepSparc_42 : decode cX0_stepSparc 42 = .ok (.iconst 2, 1) := by decide +kernel
theorem dX0_stepSparc_43 : decode cX0_stepSparc 43 = .ok (.iushr, 1) := by decide +kernel
theorem dX0_stepSparc_44 : decode cX0_stepSparc 44 = .ok (.istore_n 3, 1) := by decide +kernel
theorem dX0_stepSparc_45 : decode cX0_stepSparc 45 = .ok (.iload_n 3, 1) := by decide +kernel
theorem dX0_stepSparc_46 : decode cX0_stepSparc 46 = .ok (.bipush 22, 2) := by decide +kernel
theorem dX0_stepSparc_48 : decode cX0_stepSparc 48 = .ok (.iushr, 1) := by decide +kernel
theorem dX0_stepSparc_49 : decode cX0_stepSparc 49 = .ok (.iconst 1, 1) := by decide +kernel
theorem dX0_stepSparc_50 : decode cX0_stepSparc 50 = .ok (.iand, 1) := by decide +kernel
theorem dX0_stepSparc_51 : decode cX0_stepSparc 51 = .ok (.iconst 1, 1) := by decide +kernel
theorem dX0_stepSparc_52 : decode cX0_stepSparc 52 = .ok (.if_icmp .ne 8, 3) := by decide +kernel
theorem dX0_stepSparc_55 : decode cX0_stepSparc 55 = .ok (.ldc 123, 2) := by decide +kernel
theorem dX0_stepSparc_57 : decode cX0_stepSparc 57 = .ok (.goto 4, 3) := by decide +kernel
theorem dX0_stepSparc_60 : decode cX0_stepSparc 60 = .ok (.iconst 0, 1) := by decide +kernel
theorem dX0_stepSparc_61 : decode cX0_stepSparc 61 = .ok (.istore 4, 2) := by decide +kernel
theorem dX0_stepSparc_63 : decode cX0_stepSparc 63 = .ok (.aload_n 0, 1) := by decide +kernel
theorem dX0_stepSparc_64 : decode cX0_stepSparc 64 = .ok (.getfield 14, 3) := by decide +kernel
theorem dX0_stepSparc_67 : decode cX0_stepSparc 67 = .ok (.aload_n 0, 1) := by decide +kernel
theorem dX0_stepSparc_68 : decode cX0_stepSparc 68 = .ok (.getfield 65, 3) := by decide +kernel
theorem dX0_stepSparc_71 : decode cX0_stepSparc 71 = .ok (.ldc 124, 2) := by decide +kernel
theorem dX0_stepSparc_73 : decode cX0_stepSparc 73 = .ok (.iload 4, 2) := by decide +kernel
theorem dX0_stepSparc_75 : decode cX0_stepSparc 75 = .ok (.ior, 1) := by decide +kernel
theorem dX0_stepSparc_76 : decode cX0_stepSparc 76 = .ok (.iload_n 3, 1) := by decide +kernel
theorem dX0_stepSparc_77 : decode cX0_stepSparc 77 = .ok (.ldc 125, 2) := by decide +kernel
theorem dX0_stepSparc_79 : decode cX0_stepSparc 79 = .ok (.iand, 1) := by decide +kernel
theorem dX0_stepSparc_80 : decode cX0_stepSparc 80 = .ok (.ior, 1) := by decide +kernel
theorem dX0_stepSparc_81 : decode cX0_stepSparc 81 = .ok (.invokevirtual 120, 3) := by decide +kernel
theorem dX0_stepSparc_84 : decode cX0_stepSparc 84 = .ok (.aload_n 0, 1) := by decide +kernel
theorem dX0_stepSparc_85 : decode cX0_stepSparc 85 = .ok (.dup, 1) := by decide +kernel
theorem dX0_stepSparc_86 : decode cX0_stepSparc 86 = .ok (.getfield 48, 3) := by decide +kernel
theorem dX0_stepSparc_89 : decode cX0_stepSparc 89 = .ok (.iconst 1, 1) := by decide +kernel
theorem dX0_stepSparc_90 : decode cX0_stepSparc 90 = .ok (.iadd, 1) := by decide +kernel
theorem dX0_stepSparc_91 : decode cX0_stepSparc 91 = .ok (.putfield 48, 3) := by decide +kernel
theorem dX0_stepSparc_94 : decode cX0_stepSparc 94 = .ok (.iconst 4, 1) := by decide +kernel
theorem dX0_stepSparc_95 : decode cX0_stepSparc 95 = .ok (.ireturn, 1) := by decide +kernel
set_option maxRecDepth 20000 in
theorem ggX0_stepRisc_X1_lowestFirst : GoodIn wsX0_stepRisc wsX1_lowestFirst := goodIn_r _ [7, 8, 42, 43] (by decide +kernel) (by decide +kernel)
set_option maxRecDepth 20000 in
theorem gX0_stepRisc_X1_lowestFirst : GoodIn wsX0_stepRisc (wsV RX0 107 RX1 yX1_lowestFirst wsX1_lowestFirst) := goodIn_app (goodIn_of _ (by decide +kernel)) ggX0_stepRisc_X1_lowestFirst
set_option maxRecDepth 20000 in
theorem ggX0_stepRisc_X0_replaceRiscJump : GoodIn wsX0_stepRisc wsX0_replaceRiscJump := goodIn_r _ [13, 14, 15, 1, 2, 16, 17, 18, 19, 12, 20, 21, 22, 23, 24, 6, 25, 8, 31, 32, 33, 34, 35, 36, 37, 38, 39, 40, 41, 42, 43] (by decide +kernel) (by decide +kernel)
set_option maxRecDepth 20000 in
theorem gX0_stepRisc_X0_replaceRiscJump : GoodIn wsX0_stepRisc (wsV RX0 126 RX0 yX0_replaceRiscJump wsX0_replaceRiscJump) := goodIn_app (goodIn_of _ (by decide +kernel)) ggX0_stepRisc_X0_replaceRiscJump
set_option maxRecDepth 20000 in
theorem ggX0_stepRisc_X0_replaceRiscPair : GoodIn wsX0_stepRisc wsX0_replaceRiscPair := goodIn_r _ [29, 15, 1, 2, 30, 16, 17, 18, 19, 12, 20, 21, 22, 23, 24, 6, 25, 8, 31, 32, 33, 34, 35, 36, 37, 38, 39, 40, 41, 42, 43] (by decide +kernel) (by decide +kernel)
set_option maxRecDepth 20000 in
theorem gX0_stepRisc_X0_replaceRiscPair : GoodIn wsX0_stepRisc (wsV RX0 129 RX0 yX0_replaceRiscPair wsX0_replaceRiscPair) := goodIn_app (goodIn_of _ (by decide +kernel)) ggX0_stepRisc_X0_replaceRiscPair
theorem dX0_stepRisc_0 : decode cX0_stepRisc 0 = .ok (.aload_n 0, 1) := by decide +kernel
theorem dX0_stepRisc_1 : decode cX0_stepRisc 1 = .ok (.getfield 14, 3) := by decide +kernel
theorem dX0_stepRisc_4 : decode cX0_stepRisc 4 = .ok (.aload_n 0, 1) := by decide +kernel
theorem dX0_stepRisc_5 : decode cX0_stepRisc 5 = .ok (.getfield 65, 3) := by decide +kernel
theorem dX0_stepRisc_8 : decode cX0_stepRisc 8 = .ok (.invokevirtual 107, 3) := by decide +kernel
theorem dX0_stepRisc_11 : decode cX0_stepRisc 11 = .ok (.istore_n 1, 1) := by decide +kernel
theorem dX0_stepRisc_12 : decode cX0_stepRisc 12 = .ok (.iload_n 1, 1) := by decide +kernel
theorem dX0_stepRisc_13 : decode cX0_stepRisc 13 = .ok (.bipush 127, 2) := by decide +kernel
theorem dX0_stepRisc_15 : decode cX0_stepRisc 15 = .ok (.iand, 1) := by decide +kernel
theorem dX0_stepRisc_16 : decode cX0_stepRisc 16 = .ok (.istore_n 2, 1) := by decide +kernel
theorem dX0_stepRisc_17 : decode cX0_stepRisc 17 = .ok (.iload_n 1, 1) := by decide +kernel
theorem dX0_stepRisc_18 : decode cX0_stepRisc 18 = .ok (.bipush 7, 2) := by decide +kernel
theorem dX0_stepRisc_20 : decode cX0_stepRisc 20 = .ok (.iushr, 1) := by decide +kernel
theorem dX0_stepRisc_21 : decode cX0_stepRisc 21 = .ok (.bipush 31, 2) := by decide +kernel
theorem dX0_stepRisc_23 : decode cX0_stepRisc 23 = .ok (.iand, 1) := by decide +kernel
theorem dX0_stepRisc_24 : decode cX0_stepRisc 24 = .ok (.istore_n 3, 1) := by decide +kernel
theorem dX0_stepRisc_25 : decode cX0_stepRisc 25 = .ok (.iload_n 2, 1) := by decide +kernel
theorem dX0_stepRisc_26 : decode cX0_stepRisc 26 = .ok (.bipush 111, 2) := by decide +kernel
theorem dX0_stepRisc_28 : decode cX0_stepRisc 28 = .ok (.if_icmp .ne 20, 3) := by decide +kernel
theorem dX0_stepRisc_31 : decode cX0_stepRisc 31 = .ok (.iload_n 3, 1) := by decide +kernel
theorem dX0_stepRisc_32 : decode cX0_stepRisc 32 = .ok (.iconst 1, 1) := by decide +kernel
theorem dX0_stepRisc_33 : decode cX0_stepRisc 33 = .ok (.if_icmp .eq 8, 3) := by decide +kernel
theorem dX0_stepRisc_36 : decode cX0_stepRisc 36 = .ok (.iload_n 3, 1) := by decide +kernel
theorem dX0_stepRisc_37 : decode cX0_stepRisc 37 = .ok (.iconst 5, 1) := by decide +kernel
theorem dX0_stepRisc_38 : decode cX0_stepRisc 38 = .ok (.if_icmp .ne 10, 3) := by decide +kernel
theorem dX0_stepRisc_41 : decode cX0_stepRisc 41 = .ok (.aload_n 0, 1) := by decide +kernel
theorem dX0_stepRisc_42 : decode cX0_stepRisc 42 = .ok (.iload_n 1, 1) := by decide +kernel
theorem dX0_stepRisc_43 : decode cX0_stepRisc 43 = .ok (.invokevirtual 126, 3) := by decide +kernel
theorem dX0_stepRisc_46 : decode cX0_stepRisc 46 = .ok (.iconst 4, 1) := by decide +kernel
theorem dX0_stepRisc_47 : decode cX0_stepRisc 47 = .ok (.ireturn, 1) := by decide +kernel
theorem dX0_stepRisc_48 : decode cX0_stepRisc 48 = .ok (.iload_n 2, 1) := by decide +kernel
theorem dX0_stepRisc_49 : decode cX0_stepRisc 49 = .ok (.bipush 23, 2) := by decide +kernel
theorem dX0_stepRisc_51 : decode cX0_stepRisc 51 = .ok (.if_icmp .ne 29, 3) := by decide +kernel
theorem dX0_stepRisc_54 : decode cX0_stepRisc 54 = .ok (.iload_n 3, 1) := by decide +kernel
theorem dX0_stepRisc_55 : decode cX0_stepRisc 55 = .ok (.ifCond .eq 25, 3) := by decide +kernel
theorem dX0_stepRisc_58 : decode cX0_stepRisc 58 = .ok (.aload_n 0, 1) := by decide +kernel
theorem dX0_stepRisc_59 : decode cX0_stepRisc 59 = .ok (.iload_n 1, 1) := by decide +kernel
theorem dX0_stepRisc_60 : decode cX0_stepRisc 60 = .ok (.aload_n 0, 1) := by decide +kernel
theorem dX0_stepRisc_61 : decode cX0_stepRisc 61 = .ok (.getfield 14, 3) := by decide +kernel
theorem dX0_stepRisc_64 : decode cX0_stepRisc 64 = .ok (.aload_n 0, 1) := by decide +kernel
theorem dX0_stepRisc_65 : decode cX0_stepRisc 65 = .ok (.getfield 65, 3) := by decide +kernel
theorem dX0_stepRisc_68 : decode cX0_stepRisc 68 = .ok (.iconst 4, 1) := by decide +kernel
theorem dX0_stepRisc_69 : decode cX0_stepRisc 69 = .ok (.iadd, 1) := by decide +kernel
theorem dX0_stepRisc_70 : decode cX0_stepRisc 70 = .ok (.invokevirtual 107, 3) := by decide +kernel
theorem dX0_stepRisc_73 : decode cX0_stepRisc 73 = .ok (.iload_n 3, 1) := by decide +kernel
theorem dX0_stepRisc_74 : decode cX0_stepRisc 74 = .ok (.invokevirtual 129, 3) := by decide +kernel
theorem dX0_stepRisc_77 : decode cX0_stepRisc 77 = .ok (.bipush 8, 2) := by decide +kernel
theorem dX0_stepRisc_79 : decode cX0_stepRisc 79 = .ok (.ireturn, 1) := by decide +kernel
theorem dX0_stepRisc_80 : decode cX0_stepRisc 80 = .ok (.iconst 2, 1) := by decide +kernel
theorem dX0_stepRisc_81 : decode cX0_stepRisc 81 = .ok (.ireturn, 1) := by decide +kernel
set_option maxRecDepth 20000 in
theorem ggX0_replaceRiscJump_X0_moved : GoodIn wsX0_replaceRiscJump wsX0_moved := goodIn_r _ [10, 11, 18, 19, 20, 21, 22, 23, 24, 25, 26, 27, 28] (by decide +kernel) (by decide +kernel)
set_option maxRecDepth 20000 in
theorem gX0_replaceRiscJump_X0_moved : GoodIn wsX0_replaceRiscJump (wsV RX0 99 RX0 yX0_moved wsX0_moved) := goodIn_app (goodIn_of _ (by decide +kernel)) ggX0_replaceRiscJump_X0_moved
set_option maxRecDepth 20000 in
theorem ggX0_replaceRiscJump_X1_setLowestFirst : GoodIn wsX0_replaceRiscJump wsX1_setLowestFirst := goodIn_r _ [16, 17, 29, 30] (by decide +kernel) (by decide +kernel)
set_option maxRecDepth 20000 in
theorem gX0_replaceRiscJump_X1_setLowestFirst : GoodIn wsX0_replaceRiscJump (wsV RX0 112 RX1 yX1_setLowestFirst wsX1_setLowestFirst) := goodIn_app (goodIn_of _ (by decide +kernel)) ggX0_replaceRiscJump_X1_setLowestFirst
theorem dX0_replaceRiscJump_0 : decode cX0_replaceRiscJump 0 = .ok (.iload_n 1, 1) := by decide +kernel
theorem dX0_replaceRiscJump_1 : decode cX0_replaceRiscJump 1 = .ok (.bipush 31, 2) := by decide +kernel
theorem dX0_replaceRiscJump_3 : decode cX0_replaceRiscJump 3 = .ok (.iushr, 1) := by decide +kernel
theorem dX0_replaceRiscJump_4 : decode cX0_replaceRiscJump 4 = .ok (.bipush 20, 2) := by decide +kernel
theorem dX0_replaceRiscJump_6 : decode cX0_replaceRiscJump 6 = .ok (.ishl, 1) := by decide +kernel
theorem dX0_replaceRiscJump_7 : decode cX0_replaceRiscJump 7 = .ok (.iload_n 1, 1) := by decide +kernel
theorem dX0_replaceRiscJump_8 : decode cX0_replaceRiscJump 8 = .ok (.ldc 133, 2) := by decide +kernel
theorem dX0_replaceRiscJump_10 : decode cX0_replaceRiscJump 10 = .ok (.iand, 1) := by decide +kernel
theorem dX0_replaceRiscJump_11 : decode cX0_replaceRiscJump 11 = .ok (.ior, 1) := by decide +kernel
theorem dX0_replaceRiscJump_12 : decode cX0_replaceRiscJump 12 = .ok (.iload_n 1, 1) := by decide +kernel
theorem dX0_replaceRiscJump_13 : decode cX0_replaceRiscJump 13 = .ok (.bipush 20, 2) := by decide +kernel
theorem dX0_replaceRiscJump_15 : decode cX0_replaceRiscJump 15 = .ok (.iushr, 1) := by decide +kernel
theorem dX0_replaceRiscJump_16 : decode cX0_replaceRiscJump 16 = .ok (.iconst 1, 1) := by decide +kernel
theorem dX0_replaceRiscJump_17 : decode cX0_replaceRiscJump 17 = .ok (.iand, 1) := by decide +kernel
theorem dX0_replaceRiscJump_18 : decode cX0_replaceRiscJump 18 = .ok (.bipush 11, 2) := by decide +kernel
theorem dX0_replaceRiscJump_20 : decode cX0_replaceRiscJump 20 = .ok (.ishl, 1) := by decide +kernel
theorem dX0_replaceRiscJump_21 : decode cX0_replaceRiscJump 21 = .ok (.ior, 1) := by decide +kernel
theorem dX0_replaceRiscJump_22 : decode cX0_replaceRiscJump 22 = .ok (.iload_n 1, 1) := by decide +kernel
theorem dX0_replaceRiscJump_23 : decode cX0_replaceRiscJump 23 = .ok (.bipush 21, 2) := by decide +kernel
theorem dX0_replaceRiscJump_25 : decode cX0_replaceRiscJump 25 = .ok (.iushr, 1) := by decide +kernel
theorem dX0_replaceRiscJump_26 : decode cX0_replaceRiscJump 26 = .ok (.sipush 1023, 3) := by decide +kernel
theorem dX0_replaceRiscJump_29 : decode cX0_replaceRiscJump 29 = .ok (.iand, 1) := by decide +kernel
theorem dX0_replaceRiscJump_30 : decode cX0_replaceRiscJump 30 = .ok (.iconst 1, 1) := by decide +kernel
theorem dX0_replaceRiscJump_31 : decode cX0_replaceRiscJump 31 = .ok (.ishl, 1) := by decide +kernel
theorem dX0_replaceRiscJump_32 : decode cX0_replaceRiscJump 32 = .ok (.ior, 1) := by decide +kernel
theorem dX0_replaceRiscJump_33 : decode cX0_replaceRiscJump 33 = .ok (.istore_n 2, 1) := by decide +kernel
theorem dX0_replaceRiscJump_34 : decode cX0_replaceRiscJump 34 = .ok (.aload_n 0, 1) := by decide +kernel
theorem dX0_replaceRiscJump_35 : decode cX0_replaceRiscJump 35 = .ok (.iload_n 2, 1) := by decide +kernel
theorem dX0_replaceRiscJump_36 : decode cX0_replaceRiscJump 36 = .ok (.aload_n 0, 1) := by decide +kernel
theorem dX0_replaceRiscJump_37 : decode cX0_replaceRiscJump 37 = .ok (.getfield 42, 3) := by decide +kernel
theorem dX0_replaceRiscJump_40 : decode cX0_replaceRiscJump 40 = .ok (.invokevirtual 99, 3) := by decide +kernel
theorem dX0_replaceRiscJump_43 : decode cX0_replaceRiscJump 43 = .ok (.istore_n 3, 1) := by decide +kernel
theorem dX0_replaceRiscJump_44 : decode cX0_replaceRiscJump 44 = .ok (.iload_n 3, 1) := by decide +kernel
theorem dX0_replaceRiscJump_45 : decode cX0_replaceRiscJump 45 = .ok (.bipush 20, 2) := by decide +kernel
theorem dX0_replaceRiscJump_47 : decode cX0_replaceRiscJump 47 = .ok (.iushr, 1) := by decide +kernel
theorem dX0_replaceRiscJump_48 : decode cX0_replaceRiscJump 48 = .ok (.iconst 1, 1) := by decide +kernel
theorem dX0_replaceRiscJump_49 : decode cX0_replaceRiscJump 49 = .ok (.iand, 1) := by decide +kernel
theorem dX0_replaceRiscJump_50 : decode cX0_replaceRiscJump 50 = .ok (.bipush 31, 2) := by decide +kernel
theorem dX0_replaceRiscJump_52 : decode cX0_replaceRiscJump 52 = .ok (.ishl, 1) := by decide +kernel
theorem dX0_replaceRiscJump_53 : decode cX0_replaceRiscJump 53 = .ok (.iload_n 3, 1) := by decide +kernel
theorem dX0_replaceRiscJump_54 : decode cX0_replaceRiscJump 54 = .ok (.iconst 1, 1) := by decide +kernel
theorem dX0_replaceRiscJump_55 : decode cX0_replaceRiscJump 55 = .ok (.iushr, 1) := by decide +kernel
theorem dX0_replaceRiscJump_56 : decode cX0_replaceRiscJump 56 = .ok (.sipush 1023, 3) := by decide +kernel
theorem dX0_replaceRiscJump_59 : decode cX0_replaceRiscJump 59 = .ok (.iand, 1) := by decide +kernel
theorem dX0_replaceRiscJump_60 : decode cX0_replaceRiscJump 60 = .ok (.bipush 21, 2) := by decide +kernel
theorem dX0_replaceRiscJump_62 : decode cX0_replaceRiscJump 62 = .ok (.ishl, 1) := by decide +kernel
theorem dX0_replaceRiscJump_63 : decode cX0_replaceRiscJump 63 = .ok (.ior, 1) := by decide +kernel
theorem dX0_replaceRiscJump_64 : decode cX0_replaceRiscJump 64 = .ok (.iload_n 3, 1) := by decide +kernel
theorem dX0_replaceRiscJump_65 : decode cX0_replaceRiscJump 65 = .ok (.bipush 11, 2) := by decide +kernel
theorem dX0_replaceRiscJump_67 : decode cX0_replaceRiscJump 67 = .ok (.iushr, 1) := by decide +kernel
theorem dX0_replaceRiscJump_68 : decode cX0_replaceRiscJump 68 = .ok (.iconst 1, 1) := by decide +kernel
theorem dX0_replaceRiscJump_69 : decode cX0_replaceRiscJump 69 = .ok (.iand, 1) := by decide +kernel
theorem dX0_replaceRiscJump_70 : decode cX0_replaceRiscJump 70 = .ok (.bipush 20, 2) := by decide +kernel
theorem dX0_replaceRiscJump_72 : decode cX0_replaceRiscJump 72 = .ok (.ishl, 1) := by decide +kernel
theorem dX0_replaceRiscJump_73 : decode cX0_replaceRiscJump 73 = .ok (.ior, 1) := by decide +kernel
theorem dX0_replaceRiscJump_74 : decode cX0_replaceRiscJump 74 = .ok (.iload_n 3, 1) := by decide +kernel
theorem dX0_replaceRiscJump_75 : decode cX0_replaceRiscJump 75 = .ok (.ldc 133, 2) := by decide +kernel
theorem dX0_replaceRiscJump_77 : decode cX0_replaceRiscJump 77 = .ok (.iand, 1) := by decide +kernel
theorem dX0_replaceRiscJump_78 : decode cX0_replaceRiscJump 78 = .ok (.ior, 1) := by decide +kernel
theorem dX0_replaceRiscJump_79 : decode cX0_replaceRiscJump 79 = .ok (.istore 4, 2) := by decide +kernel
theorem dX0_replaceRiscJump_81 : decode cX0_replaceRiscJump 81 = .ok (.aload_n 0, 1) := by decide +kernel
theorem dX0_replaceRiscJump_82 : decode cX0_replaceRiscJump 82 = .ok (.getfield 14, 3) := by decide +kernel
theorem dX0_replaceRiscJump_85 : decode cX0_replaceRiscJump 85 = .ok (.aload_n 0, 1) := by decide +kernel
theorem dX0_replaceRiscJump_86 : decode cX0_replaceRiscJump 86 = .ok (.getfield 65, 3) := by decide +kernel
theorem dX0_replaceRiscJump_89 : decode cX0_replaceRiscJump 89 = .ok (.iload_n 1, 1) := by decide +kernel
theorem dX0_replaceRiscJump_90 : decode cX0_replaceRiscJump 90 = .ok (.sipush 4095, 3) := by decide +kernel
theorem dX0_replaceRiscJump_93 : decode cX0_replaceRiscJump 93 = .ok (.iand, 1) := by decide +kernel
theorem dX0_replaceRiscJump_94 : decode cX0_replaceRiscJump 94 = .ok (.iload 4, 2) := by decide +kernel
theorem dX0_replaceRiscJump_96 : decode cX0_replaceRiscJump 96 = .ok (.ior, 1) := by decide +kernel
theorem dX0_replaceRiscJump_97 : decode cX0_replaceRiscJump 97 = .ok (.invokevirtual 112, 3) := by decide +kernel
theorem dX0_replaceRiscJump_100 : decode cX0_replaceRiscJump 100 = .ok (.aload_n 0, 1) := by decide +kernel
theorem dX0_replaceRiscJump_101 : decode cX0_replaceRiscJump 101 = .ok (.dup, 1) := by decide +kernel
theorem dX0_replaceRiscJump_102 : decode cX0_replaceRiscJump 102 = .ok (.getfield 48, 3) := by decide +kernel
theorem dX0_replaceRiscJump_105 : decode cX0_replaceRiscJump 105 = .ok (.iconst 1, 1) := by decide +kernel
theorem dX0_replaceRiscJump_106 : decode cX0_replaceRiscJump 106 = .ok (.iadd, 1) := by decide +kernel
theorem dX0_replaceRiscJump_107 : decode cX0_replaceRiscJump 107 = .ok (.putfield 48, 3) := by decide +kernel
theorem dX0_replaceRiscJump_110 : decode cX0_replaceRiscJump 110 = .ok (.return_, 1) := by decide +kernel
set_option maxRecDepth 20000 in
theorem ggX0_replaceRiscPair_X0_moved : GoodIn wsX0_replaceRiscPair wsX0_moved := goodIn_r _ [10, 11, 18, 19, 20, 21, 22, 23, 24, 25, 26, 27, 28] (by decide +kernel) (by decide +kernel)
set_option maxRecDepth 20000 in
theorem gX0_replaceRiscPair_X0_moved : GoodIn wsX0_replaceRiscPair (wsV RX0 99 RX0 yX0_moved wsX0_moved) := goodIn_app (goodIn_of _ (by decide +kernel)) ggX0_replaceRiscPair_X0_moved
set_option maxRecDepth 20000 in
theorem ggX0_replaceRiscPair_X1_setLowestFirst : GoodIn wsX0_replaceRiscPair wsX1_setLowestFirst := goodIn_r _ [16, 17, 29, 30] (by decide +kernel) (by decide +kernel)
set_option maxRecDepth 20000 in
theorem gX0_replaceRiscPair_X1_setLowestFirst : GoodIn wsX0_replaceRiscPair (wsV RX0 112 RX1 yX1_setLowestFirst wsX1_setLowestFirst) := goodIn_app (goodIn_of _ (by decide +kernel)) ggX0_replaceRiscPair_X1_setLowestFirst
theorem dX0_replaceRiscPair_0 : decode cX0_replaceRiscPair 0 = .ok (.iload_n 2, 1) := by decide +kernel
theorem dX0_replaceRiscPair_1 : decode cX0_replaceRiscPair 1 = .ok (.bipush 127, 2) := by decide +kernel
theorem dX0_replaceRiscPair_3 : decode cX0_replaceRiscPair 3 = .ok (.iand, 1) := by decide +kernel
theorem dX0_replaceRiscPair_4 : decode cX0_replaceRiscPair 4 = .ok (.istore 4, 2) := by decide +kernel
theorem dX0_replaceRiscPair_6 : decode cX0_replaceRiscPair 6 = .ok (.iload_n 2, 1) := by decide +kernel
theorem dX0_replaceRiscPair_7 : decode cX0_replaceRiscPair 7 = .ok (.bipush 15, 2) := by decide +kernel
theorem dX0_replaceRiscPair_9 : decode cX0_replaceRiscPair 9 = .ok (.iushr, 1) := by decide +kernel
theorem dX0_replaceRiscPair_10 : decode cX0_replaceRiscPair 10 = .ok (.bipush 31, 2) := by decide +kernel
theorem dX0_replaceRiscPair_12 : decode cX0_replaceRiscPair 12 = .ok (.iand, 1) := by decide +kernel
theorem dX0_replaceRiscPair_13 : decode cX0_replaceRiscPair 13 = .ok (.iload_n 3, 1) := by decide +kernel
theorem dX0_replaceRiscPair_14 : decode cX0_replaceRiscPair 14 = .ok (.if_icmp .ne 16, 3) := by decide +kernel
theorem dX0_replaceRiscPair_17 : decode cX0_replaceRiscPair 17 = .ok (.iload 4, 2) := by decide +kernel
theorem dX0_replaceRiscPair_19 : decode cX0_replaceRiscPair 19 = .ok (.bipush 103, 2) := by decide +kernel
theorem dX0_replaceRiscPair_21 : decode cX0_replaceRiscPair 21 = .ok (.if_icmp .eq 10, 3) := by decide +kernel
theorem dX0_replaceRiscPair_24 : decode cX0_replaceRiscPair 24 = .ok (.iload 4, 2) := by decide +kernel
theorem dX0_replaceRiscPair_26 : decode cX0_replaceRiscPair 26 = .ok (.iconst 3, 1) := by decide +kernel
theorem dX0_replaceRiscPair_27 : decode cX0_replaceRiscPair 27 = .ok (.if_icmp .eq 4, 3) := by decide +kernel
theorem dX0_replaceRiscPair_30 : decode cX0_replaceRiscPair 30 = .ok (.return_, 1) := by decide +kernel
theorem dX0_replaceRiscPair_31 : decode cX0_replaceRiscPair 31 = .ok (.aload_n 0, 1) := by decide +kernel
theorem dX0_replaceRiscPair_32 : decode cX0_replaceRiscPair 32 = .ok (.iload_n 1, 1) := by decide +kernel
theorem dX0_replaceRiscPair_33 : decode cX0_replaceRiscPair 33 = .ok (.sipush (-4096), 3) := by decide +kernel
theorem dX0_replaceRiscPair_36 : decode cX0_replaceRiscPair 36 = .ok (.iand, 1) := by decide +kernel
theorem dX0_replaceRiscPair_37 : decode cX0_replaceRiscPair 37 = .ok (.iload_n 2, 1) := by decide +kernel
theorem dX0_replaceRiscPair_38 : decode cX0_replaceRiscPair 38 = .ok (.bipush 20, 2) := by decide +kernel
theorem dX0_replaceRiscPair_40 : decode cX0_replaceRiscPair 40 = .ok (.ishr, 1) := by decide +kernel
theorem dX0_replaceRiscPair_41 : decode cX0_replaceRiscPair 41 = .ok (.iadd, 1) := by decide +kernel
theorem dX0_replaceRiscPair_42 : decode cX0_replaceRiscPair 42 = .ok (.aload_n 0, 1) := by decide +kernel
theorem dX0_replaceRiscPair_43 : decode cX0_replaceRiscPair 43 = .ok (.getfield 42, 3) := by decide +kernel
theorem dX0_replaceRiscPair_46 : decode cX0_replaceRiscPair 46 = .ok (.invokevirtual 99, 3) := by decide +kernel
theorem dX0_replaceRiscPair_49 : decode cX0_replaceRiscPair 49 = .ok (.istore 5, 2) := by decide +kernel
theorem dX0_replaceRiscPair_51 : decode cX0_replaceRiscPair 51 = .ok (.iload 5, 2) := by decide +kernel
theorem dX0_replaceRiscPair_53 : decode cX0_replaceRiscPair 53 = .ok (.sipush 2048, 3) := by decide +kernel
theorem dX0_replaceRiscPair_56 : decode cX0_replaceRiscPair 56 = .ok (.iadd, 1) := by decide +kernel
theorem dX0_replaceRiscPair_57 : decode cX0_replaceRiscPair 57 = .ok (.sipush (-4096), 3) := by decide +kernel
theorem dX0_replaceRiscPair_60 : decode cX0_replaceRiscPair 60 = .ok (.iand, 1) := by decide +kernel
theorem dX0_replaceRiscPair_61 : decode cX0_replaceRiscPair 61 = .ok (.istore 6, 2) := by decide +kernel
theorem dX0_replaceRiscPair_63 : decode cX0_replaceRiscPair 63 = .ok (.aload_n 0, 1) := by decide +kernel
theorem dX0_replaceRiscPair_64 : decode cX0_replaceRiscPair 64 = .ok (.getfield 14, 3) := by decide +kernel
theorem dX0_replaceRiscPair_67 : decode cX0_replaceRiscPair 67 = .ok (.aload_n 0, 1) := by decide +kernel
theorem dX0_replaceRiscPair_68 : decode cX0_replaceRiscPair 68 = .ok (.getfield 65, 3) := by decide +kernel
theorem dX0_replaceRiscPair_71 : decode cX0_replaceRiscPair 71 = .ok (.iload_n 1, 1) := by decide +kernel
theorem dX0_replaceRiscPair_72 : decode cX0_replaceRiscPair 72 = .ok (.sipush 4095, 3) := by decide +kernel
theorem dX0_replaceRiscPair_75 : decode cX0_replaceRiscPair 75 = .ok (.iand, 1) := by decide +kernel
theorem dX0_replaceRiscPair_76 : decode cX0_replaceRiscPair 76 = .ok (.iload 6, 2) := by decide +kernel
theorem dX0_replaceRiscPair_78 : decode cX0_replaceRiscPair 78 = .ok (.ior, 1) := by decide +kernel
theorem dX0_replaceRiscPair_79 : decode cX0_replaceRiscPair 79 = .ok (.invokevirtual 112, 3) := by decide +kernel
theorem dX0_replaceRiscPair_82 : decode cX0_replaceRiscPair 82 = .ok (.aload_n 0, 1) := by decide +kernel
theorem dX0_replaceRiscPair_83 : decode cX0_replaceRiscPair 83 = .ok (.getfield 14, 3) := by decide +kernel
theorem dX0_replaceRiscPair_86 : decode cX0_replaceRiscPair 86 = .ok (.aload_n 0, 1) := by decide +kernel
theorem dX0_replaceRiscPair_87 : decode cX0_replaceRiscPair 87 = .ok (.getfield 65, 3) := by decide +kernel
theorem dX0_replaceRiscPair_90 : decode cX0_replaceRiscPair 90 = .ok (.iconst 4, 1) := by decide +kernel
theorem dX0_replaceRiscPair_91 : decode cX0_replaceRiscPair 91 = .ok (.iadd, 1) := by decide +kernel
theorem dX0_replaceRiscPair_92 : decode cX0_replaceRiscPair 92 = .ok (.iload_n 2, 1) := by decide +kernel
theorem dX0_replaceRiscPair_93 : decode cX0_replaceRiscPair 93 = .ok (.ldc 134, 2) := by decide +kernel
theorem dX0_replaceRiscPair_95 : decode cX0_replaceRiscPair 95 = .ok (.iand, 1) := by decide +kernel
theorem dX0_replaceRiscPair_96 : decode cX0_replaceRiscPair 96 = .ok (.iload 5, 2) := by decide +kernel
theorem dX0_replaceRiscPair_98 : decode cX0_replaceRiscPair 98 = .ok (.bipush 20, 2) := by decide +kernel
theorem dX0_replaceRiscPair_100 : decode cX0_replaceRiscPair 100 = .ok (.ishl, 1) := by decide +kernel
theorem dX0_replaceRiscPair_101 : decode cX0_replaceRiscPair 101 = .ok (.ior, 1) := by decide +kernel
theorem dX0_replaceRiscPair_102 : decode cX0_replaceRiscPair 102 = .ok (.invokevirtual 112, 3) := by decide +kernel
theorem dX0_replaceRiscPair_105 : decode cX0_replaceRiscPair 105 = .ok (.aload_n 0, 1) := by decide +kernel
theorem dX0_replaceRiscPair_106 : decode cX0_replaceRiscPair 106 = .ok (.dup, 1) := by decide +kernel
theorem dX0_replaceRiscPair_107 : decode cX0_replaceRiscPair 107 = .ok (.getfield 48, 3) := by decide +kernel
theorem dX0_replaceRiscPair_110 : decode cX0_replaceRiscPair 110 = .ok (.iconst 1, 1) := by decide +kernel
theorem dX0_replaceRiscPair_111 : decode cX0_replaceRiscPair 111 = .ok (.iadd, 1) := by decide +kernel
theorem dX0_replaceRiscPair_112 : decode cX0_replaceRiscPair 112 = .ok (.putfield 48, 3) := by decide +kernel
theorem dX0_replaceRiscPair_115 : decode cX0_replaceRiscPair 115 = .ok (.return_, 1) := by decide +kernel
set_option maxRecDepth 20000 in
theorem ggX0_stepX86_X1_at : GoodIn wsX0_stepX86 wsX1_at := goodIn_r _ [10, 11, 53, 54] (by decide +kernel) (by decide +kernel)
set_option maxRecDepth 20000 in
theorem gX0_stepX86_X1_at : GoodIn wsX0_stepX86 (wsV RX0 95 RX1 yX1_at wsX1_at) := goodIn_app (goodIn_of _ (by decide +kernel)) ggX0_stepX86_X1_at
set_option maxRecDepth 20000 in
theorem ggX0_stepX86_X0_ageMask : GoodIn wsX0_stepX86 wsX0_ageMask := goodIn_r _ [16, 3, 17, 4, 42, 43, 44, 45, 46, 47, 48, 49, 50, 51, 52] (by decide +kernel) (by decide +kernel)
set_option maxRecDepth 20000 in
theorem gX0_stepX86_X0_ageMask : GoodIn wsX0_stepX86 (wsV RX0 135 RX0 yX0_ageMask wsX0_ageMask) := goodIn_app (goodIn_of _ (by decide +kernel)) ggX0_stepX86_X0_ageMask
set_option maxRecDepth 20000 in
theorem ggX0_stepX86_X0_isSignByte : GoodIn wsX0_stepX86 wsX0_isSignByte := goodIn_r _ [20] (by decide +kernel) (by decide +kernel)
set_option maxRecDepth 20000 in
theorem gX0_stepX86_X0_isSignByte : GoodIn wsX0_stepX86 (va_wsS RX0 138 yX0_isSignByte wsX0_isSignByte) := goodIn_app (goodIn_of _ (by decide +kernel)) ggX0_stepX86_X0_isSignByte
set_option maxRecDepth 20000 in
theorem ggX0_stepX86_X0_maskAllows : GoodIn wsX0_stepX86 wsX0_maskAllows := goodIn_r _ [24, 4, 42, 43, 44, 45, 46, 47, 48, 49, 50, 51, 52] (by decide +kernel) (by decide +kernel)
set_option maxRecDepth 20000 in
theorem gX0_stepX86_X0_maskAllows : GoodIn wsX0_stepX86 (wsV RX0 142 RX0 yX0_maskAllows wsX0_maskAllows) := goodIn_app (goodIn_of _ (by decide +kernel)) ggX0_stepX86_X0_maskAllows
set_option maxRecDepth 20000 in
theorem ggX0_stepX86_X1_lowestFirst : GoodIn wsX0_stepX86 wsX1_lowestFirst := goodIn_r _ [28, 11, 53, 54] (by decide +kernel) (by decide +kernel)
set_option maxRecDepth 20000 in
theorem gX0_stepX86_X1_lowestFirst : GoodIn wsX0_stepX86 (wsV RX0 107 RX1 yX1_lowestFirst wsX1_lowestFirst) := goodIn_app (goodIn_of _ (by decide +kernel)) ggX0_stepX86_X1_lowestFirst
set_option maxRecDepth 20000 in
theorem ggX0_stepX86_X0_x86Target : GoodIn wsX0_stepX86 wsX0_x86Target := goodIn_r _ [32, 4, 33, 34, 35, 15, 36, 37, 18, 19, 20, 42, 43, 44, 45, 46, 47, 48, 49, 50, 51, 52] (by decide +kernel) (by decide +kernel)
set_option maxRecDepth 20000 in
theorem gX0_stepX86_X0_x86Target : GoodIn wsX0_stepX86 (wsV RX0 146 RX0 yX0_x86Target wsX0_x86Target) := goodIn_app (goodIn_of _ (by decide +kernel)) ggX0_stepX86_X0_x86Target
set_option maxRecDepth 20000 in
theorem ggX0_stepX86_X1_setLowestFirst : GoodIn wsX0_stepX86 wsX1_setLowestFirst := goodIn_r _ [41, 11, 53, 54] (by decide +kernel) (by decide +kernel)
set_option maxRecDepth 20000 in
theorem gX0_stepX86_X1_setLowestFirst : GoodIn wsX0_stepX86 (wsV RX0 112 RX1 yX1_setLowestFirst wsX1_setLowestFirst) := goodIn_app (goodIn_of _ (by decide +kernel)) ggX0_stepX86_X1_setLowestFirst
theorem dX0_stepX86_0 : decode cX0_stepX86 0 = .ok (.aload_n 0, 1) := by decide +kernel
theorem dX0_stepX86_1 : decode cX0_stepX86 1 = .ok (.getfield 14, 3) := by decide +kernel
theorem dX0_stepX86_4 : decode cX0_stepX86 4 = .ok (.aload_n 0, 1) := by decide +kernel
theorem dX0_stepX86_5 : decode cX0_stepX86 5 = .ok (.getfield 65, 3) := by decide +kernel
theorem dX0_stepX86_8 : decode cX0_stepX86 8 = .ok (.invokevirtual 95, 3) := by decide +kernel
theorem dX0_stepX86_11 : decode cX0_stepX86 11 = .ok (.istore_n 1, 1) := by decide +kernel
theorem dX0_stepX86_12 : decode cX0_stepX86 12 = .ok (.iload_n 1, 1) := by decide +kernel
theorem dX0_stepX86_13 : decode cX0_stepX86 13 = .ok (.sipush 232, 3) := by decide +kernel
theorem dX0_stepX86_16 : decode cX0_stepX86 16 = .ok (.if_icmp .eq 12, 3) := by decide +kernel
theorem dX0_stepX86_19 : decode cX0_stepX86 19 = .ok (.iload_n 1, 1) := by decide +kernel
theorem dX0_stepX86_20 : decode cX0_stepX86 20 = .ok (.sipush 233, 3) := by decide +kernel
theorem dX0_stepX86_23 : decode cX0_stepX86 23 = .ok (.if_icmp .eq 5, 3) := by decide +kernel
theorem dX0_stepX86_26 : decode cX0_stepX86 26 = .ok (.iconst 1, 1) := by decide +kernel
theorem dX0_stepX86_27 : decode cX0_stepX86 27 = .ok (.ireturn, 1) := by decide +kernel
theorem dX0_stepX86_28 : decode cX0_stepX86 28 = .ok (.aload_n 0, 1) := by decide +kernel
theorem dX0_stepX86_29 : decode cX0_stepX86 29 = .ok (.invokevirtual 135, 3) := by decide +kernel
theorem dX0_stepX86_32 : decode cX0_stepX86 32 = .ok (.aload_n 0, 1) := by decide +kernel
theorem dX0_stepX86_33 : decode cX0_stepX86 33 = .ok (.getfield 14, 3) := by decide +kernel
theorem dX0_stepX86_36 : decode cX0_stepX86 36 = .ok (.aload_n 0, 1) := by decide +kernel
theorem dX0_stepX86_37 : decode cX0_stepX86 37 = .ok (.getfield 65, 3) := by decide +kernel
theorem dX0_stepX86_40 : decode cX0_stepX86 40 = .ok (.iconst 4, 1) := by decide +kernel
theorem dX0_stepX86_41 : decode cX0_stepX86 41 = .ok (.iadd, 1) := by decide +kernel
theorem dX0_stepX86_42 : decode cX0_stepX86 42 = .ok (.invokevirtual 95, 3) := by decide +kernel
theorem dX0_stepX86_45 : decode cX0_stepX86 45 = .ok (.invokestatic 138, 3) := by decide +kernel
theorem dX0_stepX86_48 : decode cX0_stepX86 48 = .ok (.istore_n 2, 1) := by decide +kernel
theorem dX0_stepX86_49 : decode cX0_stepX86 49 = .ok (.iload_n 2, 1) := by decide +kernel
theorem dX0_stepX86_50 : decode cX0_stepX86 50 = .ok (.ifCond .eq 71, 3) := by decide +kernel
theorem dX0_stepX86_53 : decode cX0_stepX86 53 = .ok (.aload_n 0, 1) := by decide +kernel
theorem dX0_stepX86_54 : decode cX0_stepX86 54 = .ok (.invokevirtual 142, 3) := by decide +kernel
theorem dX0_stepX86_57 : decode cX0_stepX86 57 = .ok (.ifCond .eq 64, 3) := by decide +kernel
theorem dX0_stepX86_60 : decode cX0_stepX86 60 = .ok (.aload_n 0, 1) := by decide +kernel
theorem dX0_stepX86_61 : decode cX0_stepX86 61 = .ok (.aload_n 0, 1) := by decide +kernel
theorem dX0_stepX86_62 : decode cX0_stepX86 62 = .ok (.getfield 14, 3) := by decide +kernel
theorem dX0_stepX86_65 : decode cX0_stepX86 65 = .ok (.aload_n 0, 1) := by decide +kernel
theorem dX0_stepX86_66 : decode cX0_stepX86 66 = .ok (.getfield 65, 3) := by decide +kernel
theorem dX0_stepX86_69 : decode cX0_stepX86 69 = .ok (.iconst 1, 1) := by decide +kernel
theorem dX0_stepX86_70 : decode cX0_stepX86 70 = .ok (.iadd, 1) := by decide +kernel
theorem dX0_stepX86_71 : decode cX0_stepX86 71 = .ok (.invokevirtual 107, 3) := by decide +kernel
theorem dX0_stepX86_74 : decode cX0_stepX86 74 = .ok (.aload_n 0, 1) := by decide +kernel
theorem dX0_stepX86_75 : decode cX0_stepX86 75 = .ok (.getfield 42, 3) := by decide +kernel
theorem dX0_stepX86_78 : decode cX0_stepX86 78 = .ok (.iconst 5, 1) := by decide +kernel
theorem dX0_stepX86_79 : decode cX0_stepX86 79 = .ok (.iadd, 1) := by decide +kernel
theorem dX0_stepX86_80 : decode cX0_stepX86 80 = .ok (.invokevirtual 146, 3) := by decide +kernel
theorem dX0_stepX86_83 : decode cX0_stepX86 83 = .ok (.istore_n 3, 1) := by decide +kernel
theorem dX0_stepX86_84 : decode cX0_stepX86 84 = .ok (.aload_n 0, 1) := by decide +kernel
theorem dX0_stepX86_85 : decode cX0_stepX86 85 = .ok (.getfield 14, 3) := by decide +kernel
theorem dX0_stepX86_88 : decode cX0_stepX86 88 = .ok (.aload_n 0, 1) := by decide +kernel
theorem dX0_stepX86_89 : decode cX0_stepX86 89 = .ok (.getfield 65, 3) := by decide +kernel
theorem dX0_stepX86_92 : decode cX0_stepX86 92 = .ok (.iconst 1, 1) := by decide +kernel
theorem dX0_stepX86_93 : decode cX0_stepX86 93 = .ok (.iadd, 1) := by decide +kernel
theorem dX0_stepX86_94 : decode cX0_stepX86 94 = .ok (.iload_n 3, 1) := by decide +kernel
theorem dX0_stepX86_95 : decode cX0_stepX86 95 = .ok (.bipush 7, 2) := by decide +kernel
theorem dX0_stepX86_97 : decode cX0_stepX86 97 = .ok (.ishl, 1) := by decide +kernel
theorem dX0_stepX86_98 : decode cX0_stepX86 98 = .ok (.bipush 7, 2) := by decide +kernel
theorem dX0_stepX86_100 : decode cX0_stepX86 100 = .ok (.ishr, 1) := by decide +kernel
theorem dX0_stepX86_101 : decode cX0_stepX86 101 = .ok (.invokevirtual 112, 3) := by decide +kernel
theorem dX0_stepX86_104 : decode cX0_stepX86 104 = .ok (.aload_n 0, 1) := by decide +kernel
theorem dX0_stepX86_105 : decode cX0_stepX86 105 = .ok (.iconst 0, 1) := by decide +kernel
theorem dX0_stepX86_106 : decode cX0_stepX86 106 = .ok (.putfield 51, 3) := by decide +kernel
theorem dX0_stepX86_109 : decode cX0_stepX86 109 = .ok (.aload_n 0, 1) := by decide +kernel
theorem dX0_stepX86_110 : decode cX0_stepX86 110 = .ok (.dup, 1) := by decide +kernel
theorem dX0_stepX86_111 : decode cX0_stepX86 111 = .ok (.getfield 48, 3) := by decide +kernel
theorem dX0_stepX86_114 : decode cX0_stepX86 114 = .ok (.iconst 1, 1) := by decide +kernel
theorem dX0_stepX86_115 : decode cX0_stepX86 115 = .ok (.iadd, 1) := by decide +kernel
theorem dX0_stepX86_116 : decode cX0_stepX86 116 = .ok (.putfield 48, 3) := by decide +kernel
theorem dX0_stepX86_119 : decode cX0_stepX86 119 = .ok (.iconst 5, 1) := by decide +kernel
theorem dX0_stepX86_120 : decode cX0_stepX86 120 = .ok (.ireturn, 1) := by decide +kernel
theorem dX0_stepX86_121 : decode cX0_stepX86 121 = .ok (.aload_n 0, 1) := by decide +kernel
theorem dX0_stepX86_122 : decode cX0_stepX86 122 = .ok (.dup, 1) := by decide +kernel
theorem dX0_stepX86_123 : decode cX0_stepX86 123 = .ok (.getfield 51, 3) := by decide +kernel
theorem dX0_stepX86_126 : decode cX0_stepX86 126 = .ok (.iload_n 2, 1) := by decide +kernel
theorem dX0_stepX86_127 : decode cX0_stepX86 127 = .ok (.ifCond .eq 8, 3) := by decide +kernel
theorem dX0_stepX86_130 : decode cX0_stepX86 130 = .ok (.bipush 17, 2) := by decide +kernel
theorem dX0_stepX86_132 : decode cX0_stepX86 132 = .ok (.goto 4, 3) := by decide +kernel
theorem dX0_stepX86_135 : decode cX0_stepX86 135 = .ok (.iconst 1, 1) := by decide +kernel
theorem dX0_stepX86_136 : decode cX0_stepX86 136 = .ok (.ior, 1) := by decide +kernel
theorem dX0_stepX86_137 : decode cX0_stepX86 137 = .ok (.putfield 51, 3) := by decide +kernel
theorem dX0_stepX86_140 : decode cX0_stepX86 140 = .ok (.iconst 1, 1) := by decide +kernel
theorem dX0_stepX86_141 : decode cX0_stepX86 141 = .ok (.ireturn, 1) := by decide +kernel
theorem dX0_ageMask_0 : decode cX0_ageMask 0 = .ok (.aload_n 0, 1) := by decide +kernel
theorem dX0_ageMask_1 : decode cX0_ageMask 1 = .ok (.getfield 42, 3) := by decide +kernel
theorem dX0_ageMask_4 : decode cX0_ageMask 4 = .ok (.aload_n 0, 1) := by decide +kernel
theorem dX0_ageMask_5 : decode cX0_ageMask 5 = .ok (.getfield 54, 3) := by decide +kernel
theorem dX0_ageMask_8 : decode cX0_ageMask 8 = .ok (.isub, 1) := by decide +kernel
theorem dX0_ageMask_9 : decode cX0_ageMask 9 = .ok (.istore_n 1, 1) := by decide +kernel
theorem dX0_ageMask_10 : decode cX0_ageMask 10 = .ok (.aload_n 0, 1) := by decide +kernel
theorem dX0_ageMask_11 : decode cX0_ageMask 11 = .ok (.aload_n 0, 1) := by decide +kernel
theorem dX0_ageMask_12 : decode cX0_ageMask 12 = .ok (.getfield 42, 3) := by decide +kernel
theorem dX0_ageMask_15 : decode cX0_ageMask 15 = .ok (.putfield 54, 3) := by decide +kernel
theorem dX0_ageMask_18 : decode cX0_ageMask 18 = .ok (.iload_n 1, 1) := by decide +kernel
theorem dX0_ageMask_19 : decode cX0_ageMask 19 = .ok (.ifCond .lt 8, 3) := by decide +kernel
theorem dX0_ageMask_22 : decode cX0_ageMask 22 = .ok (.iload_n 1, 1) := by decide +kernel
theorem dX0_ageMask_23 : decode cX0_ageMask 23 = .ok (.iconst 5, 1) := by decide +kernel
theorem dX0_ageMask_24 : decode cX0_ageMask 24 = .ok (.if_icmp .le 9, 3) := by decide +kernel
theorem dX0_ageMask_27 : decode cX0_ageMask 27 = .ok (.aload_n 0, 1) := by decide +kernel
theorem dX0_ageMask_28 : decode cX0_ageMask 28 = .ok (.iconst 0, 1) := by decide +kernel
theorem dX0_ageMask_29 : decode cX0_ageMask 29 = .ok (.putfield 51, 3) := by decide +kernel
theorem dX0_ageMask_32 : decode cX0_ageMask 32 = .ok (.return_, 1) := by decide +kernel
theorem dX0_ageMask_33 : decode cX0_ageMask 33 = .ok (.iconst 0, 1) := by decide +kernel
theorem dX0_ageMask_34 : decode cX0_ageMask 34 = .ok (.istore_n 2, 1) := by decide +kernel
theorem dX0_ageMask_35 : decode cX0_ageMask 35 = .ok (.iload_n 2, 1) := by decide +kernel
theorem dX0_ageMask_36 : decode cX0_ageMask 36 = .ok (.iload_n 1, 1) := by decide +kernel
theorem dX0_ageMask_37 : decode cX0_ageMask 37 = .ok (.if_icmp .ge 22, 3) := by decide +kernel
theorem dX0_ageMask_40 : decode cX0_ageMask 40 = .ok (.aload_n 0, 1) := by decide +kernel
theorem dX0_ageMask_41 : decode cX0_ageMask 41 = .ok (.aload_n 0, 1) := by decide +kernel
theorem dX0_ageMask_42 : decode cX0_ageMask 42 = .ok (.getfield 51, 3) := by decide +kernel
theorem dX0_ageMask_45 : decode cX0_ageMask 45 = .ok (.bipush 119, 2) := by decide +kernel
theorem dX0_ageMask_47 : decode cX0_ageMask 47 = .ok (.iand, 1) := by decide +kernel
theorem dX0_ageMask_48 : decode cX0_ageMask 48 = .ok (.iconst 2, 1) := by decide +kernel
theorem dX0_ageMask_49 : decode cX0_ageMask 49 = .ok (.imul, 1) := by decide +kernel
theorem dX0_ageMask_50 : decode cX0_ageMask 50 = .ok (.putfield 51, 3) := by decide +kernel
theorem dX0_ageMask_53 : decode cX0_ageMask 53 = .ok (.iinc 2 1, 3) := by decide +kernel
theorem dX0_ageMask_56 : decode cX0_ageMask 56 = .ok (.goto (-21), 3) := by decide +kernel
theorem dX0_ageMask_59 : decode cX0_ageMask 59 = .ok (.return_, 1) := by decide +kernel
theorem dX0_maskAllows_0 : decode cX0_maskAllows 0 = .ok (.aload_n 0, 1) := by decide +kernel
theorem dX0_maskAllows_1 : decode cX0_maskAllows 1 = .ok (.getfield 51, 3) := by decide +kernel
theorem dX0_maskAllows_4 : decode cX0_maskAllows 4 = .ok (.iconst 2, 1) := by decide +kernel
theorem dX0_maskAllows_5 : decode cX0_maskAllows 5 = .ok (.idiv, 1) := by decide +kernel
theorem dX0_maskAllows_6 : decode cX0_maskAllows 6 = .ok (.istore_n 1, 1) := by decide +kernel
theorem dX0_maskAllows_7 : decode cX0_maskAllows 7 = .ok (.iload_n 1, 1) := by decide +kernel
theorem dX0_maskAllows_8 : decode cX0_maskAllows 8 = .ok (.bipush 8, 2) := by decide +kernel
theorem dX0_maskAllows_10 : decode cX0_maskAllows 10 = .ok (.irem, 1) := by decide +kernel
theorem dX0_maskAllows_11 : decode cX0_maskAllows 11 = .ok (.istore_n 2, 1) := by decide +kernel
theorem dX0_maskAllows_12 : decode cX0_maskAllows 12 = .ok (.iload_n 1, 1) := by decide +kernel
theorem dX0_maskAllows_13 : decode cX0_maskAllows 13 = .ok (.bipush 16, 2) := by decide +kernel
theorem dX0_maskAllows_15 : decode cX0_maskAllows 15 = .ok (.if_icmp .ge 17, 3) := by decide +kernel
theorem dX0_maskAllows_18 : decode cX0_maskAllows 18 = .ok (.iload_n 2, 1) := by decide +kernel
theorem dX0_maskAllows_19 : decode cX0_maskAllows 19 = .ok (.iconst 2, 1) := by decide +kernel
theorem dX0_maskAllows_20 : decode cX0_maskAllows 20 = .ok (.if_icmp .le 8, 3) := by decide +kernel
theorem dX0_maskAllows_23 : decode cX0_maskAllows 23 = .ok (.iload_n 2, 1) := by decide +kernel
theorem dX0_maskAllows_24 : decode cX0_maskAllows 24 = .ok (.iconst 4, 1) := by decide +kernel
theorem dX0_maskAllows_25 : decode cX0_maskAllows 25 = .ok (.if_icmp .ne 7, 3) := by decide +kernel
theorem dX0_maskAllows_28 : decode cX0_maskAllows 28 = .ok (.iconst 1, 1) := by decide +kernel
theorem dX0_maskAllows_29 : decode cX0_maskAllows 29 = .ok (.goto 4, 3) := by decide +kernel
theorem dX0_maskAllows_32 : decode cX0_maskAllows 32 = .ok (.iconst 0, 1) := by decide +kernel
theorem dX0_maskAllows_33 : decode cX0_maskAllows 33 = .ok (.ireturn, 1) := by decide +kernel
set_option maxRecDepth 20000 in
theorem ggX0_x86Target_X0_moved : GoodIn wsX0_x86Target wsX0_moved := goodIn_r _ [6, 7, 11, 12, 13, 14, 15, 16, 17, 18, 19, 20, 21] (by decide +kernel) (by decide +kernel)
set_option maxRecDepth 20000 in
theorem gX0_x86Target_X0_moved : GoodIn wsX0_x86Target (wsV RX0 99 RX0 yX0_moved wsX0_moved) := goodIn_app (goodIn_of _ (by decide +kernel)) ggX0_x86Target_X0_moved
set_option maxRecDepth 20000 in
theorem ggX0_x86Target_X0_isSignByte : GoodIn wsX0_x86Target wsX0_isSignByte := goodIn_r _ [10] (by decide +kernel) (by decide +kernel)
set_option maxRecDepth 20000 in
theorem gX0_x86Target_X0_isSignByte : GoodIn wsX0_x86Target (va_wsS RX0 138 yX0_isSignByte wsX0_isSignByte) := goodIn_app (goodIn_of _ (by decide +kernel)) ggX0_x86Target_X0_isSignByte
theorem dX0_x86Target_0 : decode cX0_x86Target 0 = .ok (.aload_n 0, 1) := by decide +kernel
theorem dX0_x86Target_1 : decode cX0_x86Target 1 = .ok (.iload_n 1, 1) := by decide +kernel
theorem dX0_x86Target_2 : decode cX0_x86Target 2 = .ok (.iload_n 2, 1) := by decide +kernel
theorem dX0_x86Target_3 : decode cX0_x86Target 3 = .ok (.invokevirtual 99, 3) := by decide +kernel
theorem dX0_x86Target_6 : decode cX0_x86Target 6 = .ok (.istore_n 3, 1) := by decide +kernel
theorem dX0_x86Target_7 : decode cX0_x86Target 7 = .ok (.aload_n 0, 1) := by decide +kernel
theorem dX0_x86Target_8 : decode cX0_x86Target 8 = .ok (.getfield 51, 3) := by decide +kernel
theorem dX0_x86Target_11 : decode cX0_x86Target 11 = .ok (.ifCond .ne 5, 3) := by decide +kernel
theorem dX0_x86Target_14 : decode cX0_x86Target 14 = .ok (.iload_n 3, 1) := by decide +kernel
theorem dX0_x86Target_15 : decode cX0_x86Target 15 = .ok (.ireturn, 1) := by decide +kernel
theorem dX0_x86Target_16 : decode cX0_x86Target 16 = .ok (.aload_n 0, 1) := by decide +kernel
theorem dX0_x86Target_17 : decode cX0_x86Target 17 = .ok (.getfield 51, 3) := by decide +kernel
theorem dX0_x86Target_20 : decode cX0_x86Target 20 = .ok (.iconst 2, 1) := by decide +kernel
theorem dX0_x86Target_21 : decode cX0_x86Target 21 = .ok (.idiv, 1) := by decide +kernel
theorem dX0_x86Target_22 : decode cX0_x86Target 22 = .ok (.istore 4, 2) := by decide +kernel
theorem dX0_x86Target_24 : decode cX0_x86Target 24 = .ok (.iload 4, 2) := by decide +kernel
theorem dX0_x86Target_26 : decode cX0_x86Target 26 = .ok (.iconst 2, 1) := by decide +kernel
theorem dX0_x86Target_27 : decode cX0_x86Target 27 = .ok (.if_icmp .ge 7, 3) := by decide +kernel
theorem dX0_x86Target_30 : decode cX0_x86Target 30 = .ok (.iconst 1, 1) := by decide +kernel
theorem dX0_x86Target_31 : decode cX0_x86Target 31 = .ok (.goto 14, 3) := by decide +kernel
theorem dX0_x86Target_34 : decode cX0_x86Target 34 = .ok (.iload 4, 2) := by decide +kernel
theorem dX0_x86Target_36 : decode cX0_x86Target 36 = .ok (.iconst 4, 1) := by decide +kernel
theorem dX0_x86Target_37 : decode cX0_x86Target 37 = .ok (.if_icmp .ge 7, 3) := by decide +kernel
theorem dX0_x86Target_40 : decode cX0_x86Target 40 = .ok (.iconst 2, 1) := by decide +kernel
theorem dX0_x86Target_41 : decode cX0_x86Target 41 = .ok (.goto 4, 3) := by decide +kernel
theorem dX0_x86Target_44 : decode cX0_x86Target 44 = .ok (.iconst 3, 1) := by decide +kernel
theorem dX0_x86Target_45 : decode cX0_x86Target 45 = .ok (.istore 5, 2) := by decide +kernel
theorem dX0_x86Target_47 : decode cX0_x86Target 47 = .ok (.bipush 32, 2) := by decide +kernel
theorem dX0_x86Target_49 : decode cX0_x86Target 49 = .ok (.bipush 8, 2) := by decide +kernel
theorem dX0_x86Target_51 : decode cX0_x86Target 51 = .ok (.iload 5, 2) := by decide +kernel
theorem dX0_x86Target_53 : decode cX0_x86Target 53 = .ok (.imul, 1) := by decide +kernel
theorem dX0_x86Target_54 : decode cX0_x86Target 54 = .ok (.isub, 1) := by decide +kernel
theorem dX0_x86Target_55 : decode cX0_x86Target 55 = .ok (.istore 6, 2) := by decide +kernel
theorem dX0_x86Target_57 : decode cX0_x86Target 57 = .ok (.iconst 1, 1) := by decide +kernel
theorem dX0_x86Target_58 : decode cX0_x86Target 58 = .ok (.iload 6, 2) := by decide +kernel
theorem dX0_x86Target_60 : decode cX0_x86Target 60 = .ok (.ishl, 1) := by decide +kernel
theorem dX0_x86Target_61 : decode cX0_x86Target 61 = .ok (.iconst 1, 1) := by decide +kernel
theorem dX0_x86Target_62 : decode cX0_x86Target 62 = .ok (.isub, 1) := by decide +kernel
theorem dX0_x86Target_63 : decode cX0_x86Target 63 = .ok (.istore 7, 2) := by decide +kernel
theorem dX0_x86Target_65 : decode cX0_x86Target 65 = .ok (.iconst 0, 1) := by decide +kernel
theorem dX0_x86Target_66 : decode cX0_x86Target 66 = .ok (.istore 8, 2) := by decide +kernel
theorem dX0_x86Target_68 : decode cX0_x86Target 68 = .ok (.iload 8, 2) := by decide +kernel
theorem dX0_x86Target_70 : decode cX0_x86Target 70 = .ok (.sipush 1000, 3) := by decide +kernel
theorem dX0_x86Target_73 : decode cX0_x86Target 73 = .ok (.if_icmp .ge 39, 3) := by decide +kernel
theorem dX0_x86Target_76 : decode cX0_x86Target 76 = .ok (.iload_n 3, 1) := by decide +kernel
theorem dX0_x86Target_77 : decode cX0_x86Target 77 = .ok (.iload 6, 2) := by decide +kernel
theorem dX0_x86Target_79 : decode cX0_x86Target 79 = .ok (.bipush 8, 2) := by decide +kernel
theorem dX0_x86Target_81 : decode cX0_x86Target 81 = .ok (.isub, 1) := by decide +kernel
theorem dX0_x86Target_82 : decode cX0_x86Target 82 = .ok (.iushr, 1) := by decide +kernel
theorem dX0_x86Target_83 : decode cX0_x86Target 83 = .ok (.sipush 255, 3) := by decide +kernel
theorem dX0_x86Target_86 : decode cX0_x86Target 86 = .ok (.iand, 1) := by decide +kernel
theorem dX0_x86Target_87 : decode cX0_x86Target 87 = .ok (.invokestatic 138, 3) := by decide +kernel
theorem dX0_x86Target_90 : decode cX0_x86Target 90 = .ok (.ifCond .ne 6, 3) := by decide +kernel
theorem dX0_x86Target_93 : decode cX0_x86Target 93 = .ok (.goto 19, 3) := by decide +kernel
theorem dX0_x86Target_96 : decode cX0_x86Target 96 = .ok (.aload_n 0, 1) := by decide +kernel
theorem dX0_x86Target_97 : decode cX0_x86Target 97 = .ok (.iload_n 3, 1) := by decide +kernel
theorem dX0_x86Target_98 : decode cX0_x86Target 98 = .ok (.iload 7, 2) := by decide +kernel
theorem dX0_x86Target_100 : decode cX0_x86Target 100 = .ok (.ixor, 1) := by decide +kernel
theorem dX0_x86Target_101 : decode cX0_x86Target 101 = .ok (.iload_n 2, 1) := by decide +kernel
theorem dX0_x86Target_102 : decode cX0_x86Target 102 = .ok (.invokevirtual 99, 3) := by decide +kernel
theorem dX0_x86Target_105 : decode cX0_x86Target 105 = .ok (.istore_n 3, 1) := by decide +kernel
theorem dX0_x86Target_106 : decode cX0_x86Target 106 = .ok (.iinc 8 1, 3) := by decide +kernel
theorem dX0_x86Target_109 : decode cX0_x86Target 109 = .ok (.goto (-41), 3) := by decide +kernel
theorem dX0_x86Target_112 : decode cX0_x86Target 112 = .ok (.iload_n 3, 1) := by decide +kernel
theorem dX0_x86Target_113 : decode cX0_x86Target 113 = .ok (.ireturn, 1) := by decide +kernel
theorem dX0_isSignByte_0 : decode cX0_isSignByte 0 = .ok (.iload_n 0, 1) := by decide +kernel
theorem dX0_isSignByte_1 : decode cX0_isSignByte 1 = .ok (.ifCond .eq 10, 3) := by decide +kernel
theorem dX0_isSignByte_4 : decode cX0_isSignByte 4 = .ok (.iload_n 0, 1) := by decide +kernel
theorem dX0_isSignByte_5 : decode cX0_isSignByte 5 = .ok (.sipush 255, 3) := by decide +kernel
theorem dX0_isSignByte_8 : decode cX0_isSignByte 8 = .ok (.if_icmp .ne 7, 3) := by decide +kernel
theorem dX0_isSignByte_11 : decode cX0_isSignByte 11 = .ok (.iconst 1, 1) := by decide +kernel
theorem dX0_isSignByte_12 : decode cX0_isSignByte 12 = .ok (.goto 4, 3) := by decide +kernel
theorem dX0_isSignByte_15 : decode cX0_isSignByte 15 = .ok (.iconst 0, 1) := by decide +kernel
theorem dX0_isSignByte_16 : decode cX0_isSignByte 16 = .ok (.ireturn, 1) := by decide +kernel
theorem dX1_init_0 : decode cX1_init 0 = .ok (.aload_n 0, 1) := by decide +kernel
theorem dX1_init_1 : decode cX1_init 1 = .ok (.invokespecial 1, 3) := by decide +kernel
theorem dX1_init_4 : decode cX1_init 4 = .ok (.aload_n 0, 1) := by decide +kernel
theorem dX1_init_5 : decode cX1_init 5 = .ok (.iload_n 1, 1) := by decide +kernel
theorem dX1_init_6 : decode cX1_init 6 = .ok (.newarray .int, 2) := by decide +kernel
theorem dX1_init_8 : decode cX1_init 8 = .ok (.putfield 7, 3) := by decide +kernel
theorem dX1_init_11 : decode cX1_init 11 = .ok (.return_, 1) := by decide +kernel
theorem dX1_size_0 : decode cX1_size 0 = .ok (.aload_n 0, 1) := by decide +kernel
theorem dX1_size_1 : decode cX1_size 1 = .ok (.getfield 13, 3) := by decide +kernel
theorem dX1_size_4 : decode cX1_size 4 = .ok (.ireturn, 1) := by decide +kernel
theorem dX1_at_0 : decode cX1_at 0 = .ok (.aload_n 0, 1) := by decide +kernel
theorem dX1_at_1 : decode cX1_at 1 = .ok (.getfield 7, 3) := by decide +kernel
theorem dX1_at_4 : decode cX1_at 4 = .ok (.iload_n 1, 1) := by decide +kernel
theorem dX1_at_5 : decode cX1_at 5 = .ok (.iaload, 1) := by decide +kernel
theorem dX1_at_6 : decode cX1_at 6 = .ok (.ireturn, 1) := by decide +kernel
theorem dX1_set_0 : decode cX1_set 0 = .ok (.aload_n 0, 1) := by decide +kernel
theorem dX1_set_1 : decode cX1_set 1 = .ok (.getfield 7, 3) := by decide +kernel
theorem dX1_set_4 : decode cX1_set 4 = .ok (.iload_n 1, 1) := by decide +kernel
theorem dX1_set_5 : decode cX1_set 5 = .ok (.iload_n 2, 1) := by decide +kernel
theorem dX1_set_6 : decode cX1_set 6 = .ok (.sipush 255, 3) := by decide +kernel
theorem dX1_set_9 : decode cX1_set 9 = .ok (.iand, 1) := by decide +kernel
theorem dX1_set_10 : decode cX1_set 10 = .ok (.iastore, 1) := by decide +kernel
theorem dX1_set_11 : decode cX1_set 11 = .ok (.return_, 1) := by decide +kernel
theorem dX1_add_0 : decode cX1_add 0 = .ok (.aload_n 0, 1) := by decide +kernel
theorem dX1_add_1 : decode cX1_add 1 = .ok (.getfield 7, 3) := by decide +kernel
theorem dX1_add_4 : decode cX1_add 4 = .ok (.aload_n 0, 1) := by decide +kernel
theorem dX1_add_5 : decode cX1_add 5 = .ok (.getfield 13, 3) := by decide +kernel
theorem dX1_add_8 : decode cX1_add 8 = .ok (.iload_n 1, 1) := by decide +kernel
theorem dX1_add_9 : decode cX1_add 9 = .ok (.sipush 255, 3) := by decide +kernel
theorem dX1_add_12 : decode cX1_add 12 = .ok (.iand, 1) := by decide +kernel
theorem dX1_add_13 : decode cX1_add 13 = .ok (.iastore, 1) := by decide +kernel
theorem dX1_add_14 : decode cX1_add 14 = .ok (.aload_n 0, 1) := by decide +kernel
theorem dX1_add_15 : decode cX1_add 15 = .ok (.dup, 1) := by decide +kernel
theorem dX1_add_16 : decode cX1_add 16 = .ok (.getfield 13, 3) := by decide +kernel
theorem dX1_add_19 : decode cX1_add 19 = .ok (.iconst 1, 1) := by decide +kernel
theorem dX1_add_20 : decode cX1_add 20 = .ok (.iadd, 1) := by decide +kernel
theorem dX1_add_21 : decode cX1_add 21 = .ok (.putfield 13, 3) := by decide +kernel
theorem dX1_add_24 : decode cX1_add 24 = .ok (.return_, 1) := by decide +kernel
theorem dX1_clear_0 : decode cX1_clear 0 = .ok (.aload_n 0, 1) := by decide +kernel
theorem dX1_clear_1 : decode cX1_clear 1 = .ok (.iconst 0, 1) := by decide +kernel
theorem dX1_clear_2 : decode cX1_clear 2 = .ok (.putfield 13, 3) := by decide +kernel
theorem dX1_clear_5 : decode cX1_clear 5 = .ok (.return_, 1) := by decide +kernel
theorem dX1_lowestFirst_0 : decode cX1_lowestFirst 0 = .ok (.aload_n 0, 1) := by decide +kernel
theorem dX1_lowestFirst_1 : decode cX1_lowestFirst 1 = .ok (.getfield 7, 3) := by decide +kernel
theorem dX1_lowestFirst_4 : decode cX1_lowestFirst 4 = .ok (.iload_n 1, 1) := by decide +kernel
theorem dX1_lowestFirst_5 : decode cX1_lowestFirst 5 = .ok (.iaload, 1) := by decide +kernel
theorem dX1_lowestFirst_6 : decode cX1_lowestFirst 6 = .ok (.aload_n 0, 1) := by decide +kernel
theorem dX1_lowestFirst_7 : decode cX1_lowestFirst 7 = .ok (.getfield 7, 3) := by decide +kernel
theorem dX1_lowestFirst_10 : decode cX1_lowestFirst 10 = .ok (.iload_n 1, 1) := by decide +kernel
theorem dX1_lowestFirst_11 : decode cX1_lowestFirst 11 = .ok (.iconst 1, 1) := by decide +kernel
theorem dX1_lowestFirst_12 : decode cX1_lowestFirst 12 = .ok (.iadd, 1) := by decide +kernel
theorem dX1_lowestFirst_13 : decode cX1_lowestFirst 13 = .ok (.iaload, 1) := by decide +kernel
theorem dX1_lowestFirst_14 : decode cX1_lowestFirst 14 = .ok (.bipush 8, 2) := by decide +kernel
theorem dX1_lowestFirst_16 : decode cX1_lowestFirst 16 = .ok (.ishl, 1) := by decide +kernel
theorem dX1_lowestFirst_17 : decode cX1_lowestFirst 17 = .ok (.ior, 1) := by decide +kernel
theorem dX1_lowestFirst_18 : decode cX1_lowestFirst 18 = .ok (.aload_n 0, 1) := by decide +kernel
theorem dX1_lowestFirst_19 : decode cX1_lowestFirst 19 = .ok (.getfield 7, 3) := by decide +kernel
theorem dX1_lowestFirst_22 : decode cX1_lowestFirst 22 = .ok (.iload_n 1, 1) := by decide +kernel
theorem dX1_lowestFirst_23 : decode cX1_lowestFirst 23 = .ok (.iconst 2, 1) := by decide +kernel
theorem dX1_lowestFirst_24 : decode cX1_lowestFirst 24 = .ok (.iadd, 1) := by decide +kernel
theorem dX1_lowestFirst_25 : decode cX1_lowestFirst 25 = .ok (.iaload, 1) := by decide +kernel
theorem dX1_lowestFirst_26 : decode cX1_lowestFirst 26 = .ok (.bipush 16, 2) := by decide +kernel
theorem dX1_lowestFirst_28 : decode cX1_lowestFirst 28 = .ok (.ishl, 1) := by decide +kernel
theorem dX1_lowestFirst_29 : decode cX1_lowestFirst 29 = .ok (.ior, 1) := by decide +kernel
theorem dX1_lowestFirst_30 : decode cX1_lowestFirst 30 = .ok (.aload_n 0, 1) := by decide +kernel
theorem dX1_lowestFirst_31 : decode cX1_lowestFirst 31 = .ok (.getfield 7, 3) := by decide +kernel
theorem dX1_lowestFirst_34 : decode cX1_lowestFirst 34 = .ok (.iload_n 1, 1) := by decide +kernel
theorem dX1_lowestFirst_35 : decode cX1_lowestFirst 35 = .ok (.iconst 3, 1) := by decide +kernel
theorem dX1_lowestFirst_36 : decode cX1_lowestFirst 36 = .ok (.iadd, 1) := by decide +kernel
theorem dX1_lowestFirst_37 : decode cX1_lowestFirst 37 = .ok (.iaload, 1) := by decide +kernel
theorem dX1_lowestFirst_38 : decode cX1_lowestFirst 38 = .ok (.bipush 24, 2) := by decide +kernel
theorem dX1_lowestFirst_40 : decode cX1_lowestFirst 40 = .ok (.ishl, 1) := by decide +kernel
theorem dX1_lowestFirst_41 : decode cX1_lowestFirst 41 = .ok (.ior, 1) := by decide +kernel
theorem dX1_lowestFirst_42 : decode cX1_lowestFirst 42 = .ok (.ireturn, 1) := by decide +kernel
theorem dX1_setLowestFirst_0 : decode cX1_setLowestFirst 0 = .ok (.aload_n 0, 1) := by decide +kernel
theorem dX1_setLowestFirst_1 : decode cX1_setLowestFirst 1 = .ok (.getfield 7, 3) := by decide +kernel
theorem dX1_setLowestFirst_4 : decode cX1_setLowestFirst 4 = .ok (.iload_n 1, 1) := by decide +kernel
theorem dX1_setLowestFirst_5 : decode cX1_setLowestFirst 5 = .ok (.iload_n 2, 1) := by decide +kernel
theorem dX1_setLowestFirst_6 : decode cX1_setLowestFirst 6 = .ok (.sipush 255, 3) := by decide +kernel
theorem dX1_setLowestFirst_9 : decode cX1_setLowestFirst 9 = .ok (.iand, 1) := by decide +kernel
theorem dX1_setLowestFirst_10 : decode cX1_setLowestFirst 10 = .ok (.iastore, 1) := by decide +kernel
theorem dX1_setLowestFirst_11 : decode cX1_setLowestFirst 11 = .ok (.aload_n 0, 1) := by decide +kernel
theorem dX1_setLowestFirst_12 : decode cX1_setLowestFirst 12 = .ok (.getfield 7, 3) := by decide +kernel
theorem dX1_setLowestFirst_15 : decode cX1_setLowestFirst 15 = .ok (.iload_n 1, 1) := by decide +kernel
theorem dX1_setLowestFirst_16 : decode cX1_setLowestFirst 16 = .ok (.iconst 1, 1) := by decide +kernel
theorem dX1_setLowestFirst_17 : decode cX1_setLowestFirst 17 = .ok (.iadd, 1) := by decide +kernel
theorem dX1_setLowestFirst_18 : decode cX1_setLowestFirst 18 = .ok (.iload_n 2, 1) := by decide +kernel
theorem dX1_setLowestFirst_19 : decode cX1_setLowestFirst 19 = .ok (.bipush 8, 2) := by decide +kernel
theorem dX1_setLowestFirst_21 : decode cX1_setLowestFirst 21 = .ok (.iushr, 1) := by decide +kernel
theorem dX1_setLowestFirst_22 : decode cX1_setLowestFirst 22 = .ok (.sipush 255, 3) := by decide +kernel
theorem dX1_setLowestFirst_25 : decode cX1_setLowestFirst 25 = .ok (.iand, 1) := by decide +kernel
theorem dX1_setLowestFirst_26 : decode cX1_setLowestFirst 26 = .ok (.iastore, 1) := by decide +kernel
theorem dX1_setLowestFirst_27 : decode cX1_setLowestFirst 27 = .ok (.aload_n 0, 1) := by decide +kernel
theorem dX1_setLowestFirst_28 : decode cX1_setLowestFirst 28 = .ok (.getfield 7, 3) := by decide +kernel
theorem dX1_setLowestFirst_31 : decode cX1_setLowestFirst 31 = .ok (.iload_n 1, 1) := by decide +kernel
theorem dX1_setLowestFirst_32 : decode cX1_setLowestFirst 32 = .ok (.iconst 2, 1) := by decide +kernel
theorem dX1_setLowestFirst_33 : decode cX1_setLowestFirst 33 = .ok (.iadd, 1) := by decide +kernel
theorem dX1_setLowestFirst_34 : decode cX1_setLowestFirst 34 = .ok (.iload_n 2, 1) := by decide +kernel
theorem dX1_setLowestFirst_35 : decode cX1_setLowestFirst 35 = .ok (.bipush 16, 2) := by decide +kernel
theorem dX1_setLowestFirst_37 : decode cX1_setLowestFirst 37 = .ok (.iushr, 1) := by decide +kernel
theorem dX1_setLowestFirst_38 : decode cX1_setLowestFirst 38 = .ok (.sipush 255, 3) := by decide +kernel
theorem dX1_setLowestFirst_41 : decode cX1_setLowestFirst 41 = .ok (.iand, 1) := by decide +kernel
theorem dX1_setLowestFirst_42 : decode cX1_setLowestFirst 42 = .ok (.iastore, 1) := by decide +kernel
theorem dX1_setLowestFirst_43 : decode cX1_setLowestFirst 43 = .ok (.aload_n 0, 1) := by decide +kernel
theorem dX1_setLowestFirst_44 : decode cX1_setLowestFirst 44 = .ok (.getfield 7, 3) := by decide +kernel
theorem dX1_setLowestFirst_47 : decode cX1_setLowestFirst 47 = .ok (.iload_n 1, 1) := by decide +kernel
theorem dX1_setLowestFirst_48 : decode cX1_setLowestFirst 48 = .ok (.iconst 3, 1) := by decide +kernel
theorem dX1_setLowestFirst_49 : decode cX1_setLowestFirst 49 = .ok (.iadd, 1) := by decide +kernel
theorem dX1_setLowestFirst_50 : decode cX1_setLowestFirst 50 = .ok (.iload_n 2, 1) := by decide +kernel
theorem dX1_setLowestFirst_51 : decode cX1_setLowestFirst 51 = .ok (.bipush 24, 2) := by decide +kernel
theorem dX1_setLowestFirst_53 : decode cX1_setLowestFirst 53 = .ok (.iushr, 1) := by decide +kernel
theorem dX1_setLowestFirst_54 : decode cX1_setLowestFirst 54 = .ok (.iastore, 1) := by decide +kernel
theorem dX1_setLowestFirst_55 : decode cX1_setLowestFirst 55 = .ok (.return_, 1) := by decide +kernel
theorem dX1_highestFirst_0 : decode cX1_highestFirst 0 = .ok (.aload_n 0, 1) := by decide +kernel
theorem dX1_highestFirst_1 : decode cX1_highestFirst 1 = .ok (.getfield 7, 3) := by decide +kernel
theorem dX1_highestFirst_4 : decode cX1_highestFirst 4 = .ok (.iload_n 1, 1) := by decide +kernel
theorem dX1_highestFirst_5 : decode cX1_highestFirst 5 = .ok (.iaload, 1) := by decide +kernel
theorem dX1_highestFirst_6 : decode cX1_highestFirst 6 = .ok (.bipush 24, 2) := by decide +kernel
theorem dX1_highestFirst_8 : decode cX1_highestFirst 8 = .ok (.ishl, 1) := by decide +kernel
theorem dX1_highestFirst_9 : decode cX1_highestFirst 9 = .ok (.aload_n 0, 1) := by decide +kernel
theorem dX1_highestFirst_10 : decode cX1_highestFirst 10 = .ok (.getfield 7, 3) := by decide +kernel
theorem dX1_highestFirst_13 : decode cX1_highestFirst 13 = .ok (.iload_n 1, 1) := by decide +kernel
theorem dX1_highestFirst_14 : decode cX1_highestFirst 14 = .ok (.iconst 1, 1) := by decide +kernel
theorem dX1_highestFirst_15 : decode cX1_highestFirst 15 = .ok (.iadd, 1) := by decide +kernel
theorem dX1_highestFirst_16 : decode cX1_highestFirst 16 = .ok (.iaload, 1) := by decide +kernel
theorem dX1_highestFirst_17 : decode cX1_highestFirst 17 = .ok (.bipush 16, 2) := by decide +kernel
theorem dX1_highestFirst_19 : decode cX1_highestFirst 19 = .ok (.ishl, 1) := by decide +kernel
theorem dX1_highestFirst_20 : decode cX1_highestFirst 20 = .ok (.ior, 1) := by decide +kernel
theorem dX1_highestFirst_21 : decode cX1_highestFirst 21 = .ok (.aload_n 0, 1) := by decide +kernel
theorem dX1_highestFirst_22 : decode cX1_highestFirst 22 = .ok (.getfield 7, 3) := by decide +kernel
theorem dX1_highestFirst_25 : decode cX1_highestFirst 25 = .ok (.iload_n 1, 1) := by decide +kernel
theorem dX1_highestFirst_26 : decode cX1_highestFirst 26 = .ok (.iconst 2, 1) := by decide +kernel
theorem dX1_highestFirst_27 : decode cX1_highestFirst 27 = .ok (.iadd, 1) := by decide +kernel
theorem dX1_highestFirst_28 : decode cX1_highestFirst 28 = .ok (.iaload, 1) := by decide +kernel
theorem dX1_highestFirst_29 : decode cX1_highestFirst 29 = .ok (.bipush 8, 2) := by decide +kernel
theorem dX1_highestFirst_31 : decode cX1_highestFirst 31 = .ok (.ishl, 1) := by decide +kernel
theorem dX1_highestFirst_32 : decode cX1_highestFirst 32 = .ok (.ior, 1) := by decide +kernel
theorem dX1_highestFirst_33 : decode cX1_highestFirst 33 = .ok (.aload_n 0, 1) := by decide +kernel
theorem dX1_highestFirst_34 : decode cX1_highestFirst 34 = .ok (.getfield 7, 3) := by decide +kernel
theorem dX1_highestFirst_37 : decode cX1_highestFirst 37 = .ok (.iload_n 1, 1) := by decide +kernel
theorem dX1_highestFirst_38 : decode cX1_highestFirst 38 = .ok (.iconst 3, 1) := by decide +kernel
theorem dX1_highestFirst_39 : decode cX1_highestFirst 39 = .ok (.iadd, 1) := by decide +kernel
theorem dX1_highestFirst_40 : decode cX1_highestFirst 40 = .ok (.iaload, 1) := by decide +kernel
theorem dX1_highestFirst_41 : decode cX1_highestFirst 41 = .ok (.ior, 1) := by decide +kernel
theorem dX1_highestFirst_42 : decode cX1_highestFirst 42 = .ok (.ireturn, 1) := by decide +kernel
theorem dX1_setHighestFirst_0 : decode cX1_setHighestFirst 0 = .ok (.aload_n 0, 1) := by decide +kernel
theorem dX1_setHighestFirst_1 : decode cX1_setHighestFirst 1 = .ok (.getfield 7, 3) := by decide +kernel
theorem dX1_setHighestFirst_4 : decode cX1_setHighestFirst 4 = .ok (.iload_n 1, 1) := by decide +kernel
theorem dX1_setHighestFirst_5 : decode cX1_setHighestFirst 5 = .ok (.iload_n 2, 1) := by decide +kernel
theorem dX1_setHighestFirst_6 : decode cX1_setHighestFirst 6 = .ok (.bipush 24, 2) := by decide +kernel
theorem dX1_setHighestFirst_8 : decode cX1_setHighestFirst 8 = .ok (.iushr, 1) := by decide +kernel
theorem dX1_setHighestFirst_9 : decode cX1_setHighestFirst 9 = .ok (.iastore, 1) := by decide +kernel
theorem dX1_setHighestFirst_10 : decode cX1_setHighestFirst 10 = .ok (.aload_n 0, 1) := by decide +kernel
theorem dX1_setHighestFirst_11 : decode cX1_setHighestFirst 11 = .ok (.getfield 7, 3) := by decide +kernel
theorem dX1_setHighestFirst_14 : decode cX1_setHighestFirst 14 = .ok (.iload_n 1, 1) := by decide +kernel
theorem dX1_setHighestFirst_15 : decode cX1_setHighestFirst 15 = .ok (.iconst 1, 1) := by decide +kernel
theorem dX1_setHighestFirst_16 : decode cX1_setHighestFirst 16 = .ok (.iadd, 1) := by decide +kernel
theorem dX1_setHighestFirst_17 : decode cX1_setHighestFirst 17 = .ok (.iload_n 2, 1) := by decide +kernel
theorem dX1_setHighestFirst_18 : decode cX1_setHighestFirst 18 = .ok (.bipush 16, 2) := by decide +kernel
theorem dX1_setHighestFirst_20 : decode cX1_setHighestFirst 20 = .ok (.iushr, 1) := by decide +kernel
theorem dX1_setHighestFirst_21 : decode cX1_setHighestFirst 21 = .ok (.sipush 255, 3) := by decide +kernel
theorem dX1_setHighestFirst_24 : decode cX1_setHighestFirst 24 = .ok (.iand, 1) := by decide +kernel
theorem dX1_setHighestFirst_25 : decode cX1_setHighestFirst 25 = .ok (.iastore, 1) := by decide +kernel
theorem dX1_setHighestFirst_26 : decode cX1_setHighestFirst 26 = .ok (.aload_n 0, 1) := by decide +kernel
theorem dX1_setHighestFirst_27 : decode cX1_setHighestFirst 27 = .ok (.getfield 7, 3) := by decide +kernel
theorem dX1_setHighestFirst_30 : decode cX1_setHighestFirst 30 = .ok (.iload_n 1, 1) := by decide +kernel
theorem dX1_setHighestFirst_31 : decode cX1_setHighestFirst 31 = .ok (.iconst 2, 1) := by decide +kernel
theorem dX1_setHighestFirst_32 : decode cX1_setHighestFirst 32 = .ok (.iadd, 1) := by decide +kernel
theorem dX1_setHighestFirst_33 : decode cX1_setHighestFirst 33 = .ok (.iload_n 2, 1) := by decide +kernel
theorem dX1_setHighestFirst_34 : decode cX1_setHighestFirst 34 = .ok (.bipush 8, 2) := by decide +kernel
theorem dX1_setHighestFirst_36 : decode cX1_setHighestFirst 36 = .ok (.iushr, 1) := by decide +kernel
theorem dX1_setHighestFirst_37 : decode cX1_setHighestFirst 37 = .ok (.sipush 255, 3) := by decide +kernel
theorem dX1_setHighestFirst_40 : decode cX1_setHighestFirst 40 = .ok (.iand, 1) := by decide +kernel
theorem dX1_setHighestFirst_41 : decode cX1_setHighestFirst 41 = .ok (.iastore, 1) := by decide +kernel
theorem dX1_setHighestFirst_42 : decode cX1_setHighestFirst 42 = .ok (.aload_n 0, 1) := by decide +kernel
