theorem dX3_delta_120 : decode cX3_delta 120 = .ok (.invokevirtual 81, 3) := by decide +kernel
theorem dX3_delta_123 : decode cX3_delta 123 = .ok (.aload_n 0, 1) := by decide +kernel
theorem dX3_delta_124 : decode cX3_delta 124 = .ok (.iload_n 1, 1) := by decide +kernel
theorem dX3_delta_125 : decode cX3_delta 125 = .ok (.iconst 1, 1) := by decide +kernel
theorem dX3_delta_126 : decode cX3_delta 126 = .ok (.invokevirtual 88, 3) := by decide +kernel
theorem dX3_delta_129 : decode cX3_delta 129 = .ok (.return_, 1) := by decide +kernel
set_option maxRecDepth 20000 in
theorem ggX3_arm_X3_at : GoodIn wsX3_arm wsX3_at := goodIn_r _ [6, 7, 30, 31, 32, 33, 34, 35, 36, 37, 38, 39, 40, 41, 42, 43, 44, 45, 46, 47, 48, 49] (by decide +kernel) (by decide +kernel)
set_option maxRecDepth 20000 in
theorem gX3_arm_X3_at : GoodIn wsX3_arm (wsV RX3 77 RX3 yX3_at wsX3_at) := goodIn_app (goodIn_of _ (by decide +kernel)) ggX3_arm_X3_at
set_option maxRecDepth 20000 in
theorem ggX3_arm_X3_place : GoodIn wsX3_arm wsX3_place := goodIn_r _ [11, 12, 13, 30, 31, 32, 33, 34, 35, 36, 37, 38, 39, 40, 41, 42, 43, 44, 45, 46, 47, 48, 49] (by decide +kernel) (by decide +kernel)
set_option maxRecDepth 20000 in
theorem gX3_arm_X3_place : GoodIn wsX3_arm (wsV RX3 92 RX3 yX3_place wsX3_place) := goodIn_app (goodIn_of _ (by decide +kernel)) ggX3_arm_X3_place
set_option maxRecDepth 20000 in
theorem ggX3_arm_X3_moved : GoodIn wsX3_arm wsX3_moved := goodIn_r _ [17, 18, 30, 31, 32, 33, 34, 35, 36, 37, 38, 39, 40, 41, 42, 43, 44, 45, 46, 47, 48, 49] (by decide +kernel) (by decide +kernel)
set_option maxRecDepth 20000 in
theorem gX3_arm_X3_moved : GoodIn wsX3_arm (wsV RX3 96 RX3 yX3_moved wsX3_moved) := goodIn_app (goodIn_of _ (by decide +kernel)) ggX3_arm_X3_moved
set_option maxRecDepth 20000 in
theorem ggX3_arm_X3_change : GoodIn wsX3_arm wsX3_change := goodIn_r _ [22, 7, 30, 31, 32, 33, 34, 35, 36, 37, 38, 39, 40, 41, 42, 43, 44, 45, 46, 47, 48, 49] (by decide +kernel) (by decide +kernel)
set_option maxRecDepth 20000 in
theorem gX3_arm_X3_change : GoodIn wsX3_arm (wsV RX3 81 RX3 yX3_change wsX3_change) := goodIn_app (goodIn_of _ (by decide +kernel)) ggX3_arm_X3_change
set_option maxRecDepth 20000 in
theorem ggX3_arm_X3_give : GoodIn wsX3_arm wsX3_give := goodIn_r _ [26, 27, 28, 29, 13, 2, 3, 4, 5, 6, 7, 19, 20, 21, 22, 30, 31, 32, 33, 34, 35, 36, 37, 38, 39, 40, 41, 42, 43, 44, 45, 46, 47, 48, 49] (by decide +kernel) (by decide +kernel)
set_option maxRecDepth 20000 in
theorem gX3_arm_X3_give : GoodIn wsX3_arm (wsV RX3 88 RX3 yX3_give wsX3_give) := goodIn_app (goodIn_of _ (by decide +kernel)) ggX3_arm_X3_give
theorem dX3_arm_0 : decode cX3_arm 0 = .ok (.aload_n 0, 1) := by decide +kernel
theorem dX3_arm_1 : decode cX3_arm 1 = .ok (.iload_n 1, 1) := by decide +kernel
theorem dX3_arm_2 : decode cX3_arm 2 = .ok (.iconst 3, 1) := by decide +kernel
theorem dX3_arm_3 : decode cX3_arm 3 = .ok (.invokevirtual 77, 3) := by decide +kernel
theorem dX3_arm_6 : decode cX3_arm 6 = .ok (.sipush 235, 3) := by decide +kernel
theorem dX3_arm_9 : decode cX3_arm 9 = .ok (.if_icmp .ne 85, 3) := by decide +kernel
theorem dX3_arm_12 : decode cX3_arm 12 = .ok (.aload_n 0, 1) := by decide +kernel
theorem dX3_arm_13 : decode cX3_arm 13 = .ok (.iload_n 1, 1) := by decide +kernel
theorem dX3_arm_14 : decode cX3_arm 14 = .ok (.iconst 0, 1) := by decide +kernel
theorem dX3_arm_15 : decode cX3_arm 15 = .ok (.invokevirtual 77, 3) := by decide +kernel
theorem dX3_arm_18 : decode cX3_arm 18 = .ok (.aload_n 0, 1) := by decide +kernel
theorem dX3_arm_19 : decode cX3_arm 19 = .ok (.iload_n 1, 1) := by decide +kernel
theorem dX3_arm_20 : decode cX3_arm 20 = .ok (.iconst 1, 1) := by decide +kernel
theorem dX3_arm_21 : decode cX3_arm 21 = .ok (.invokevirtual 77, 3) := by decide +kernel
theorem dX3_arm_24 : decode cX3_arm 24 = .ok (.bipush 8, 2) := by decide +kernel
theorem dX3_arm_26 : decode cX3_arm 26 = .ok (.ishl, 1) := by decide +kernel
theorem dX3_arm_27 : decode cX3_arm 27 = .ok (.ior, 1) := by decide +kernel
theorem dX3_arm_28 : decode cX3_arm 28 = .ok (.aload_n 0, 1) := by decide +kernel
theorem dX3_arm_29 : decode cX3_arm 29 = .ok (.iload_n 1, 1) := by decide +kernel
theorem dX3_arm_30 : decode cX3_arm 30 = .ok (.iconst 2, 1) := by decide +kernel
theorem dX3_arm_31 : decode cX3_arm 31 = .ok (.invokevirtual 77, 3) := by decide +kernel
theorem dX3_arm_34 : decode cX3_arm 34 = .ok (.bipush 16, 2) := by decide +kernel
theorem dX3_arm_36 : decode cX3_arm 36 = .ok (.ishl, 1) := by decide +kernel
theorem dX3_arm_37 : decode cX3_arm 37 = .ok (.ior, 1) := by decide +kernel
theorem dX3_arm_38 : decode cX3_arm 38 = .ok (.istore_n 2, 1) := by decide +kernel
theorem dX3_arm_39 : decode cX3_arm 39 = .ok (.aload_n 0, 1) := by decide +kernel
theorem dX3_arm_40 : decode cX3_arm 40 = .ok (.iconst 4, 1) := by decide +kernel
theorem dX3_arm_41 : decode cX3_arm 41 = .ok (.iload_n 2, 1) := by decide +kernel
theorem dX3_arm_42 : decode cX3_arm 42 = .ok (.imul, 1) := by decide +kernel
theorem dX3_arm_43 : decode cX3_arm 43 = .ok (.aload_n 0, 1) := by decide +kernel
theorem dX3_arm_44 : decode cX3_arm 44 = .ok (.iload_n 1, 1) := by decide +kernel
theorem dX3_arm_45 : decode cX3_arm 45 = .ok (.invokevirtual 92, 3) := by decide +kernel
theorem dX3_arm_48 : decode cX3_arm 48 = .ok (.bipush 8, 2) := by decide +kernel
theorem dX3_arm_50 : decode cX3_arm 50 = .ok (.iadd, 1) := by decide +kernel
theorem dX3_arm_51 : decode cX3_arm 51 = .ok (.invokevirtual 96, 3) := by decide +kernel
theorem dX3_arm_54 : decode cX3_arm 54 = .ok (.iconst 2, 1) := by decide +kernel
theorem dX3_arm_55 : decode cX3_arm 55 = .ok (.iushr, 1) := by decide +kernel
theorem dX3_arm_56 : decode cX3_arm 56 = .ok (.istore_n 2, 1) := by decide +kernel
theorem dX3_arm_57 : decode cX3_arm 57 = .ok (.aload_n 0, 1) := by decide +kernel
theorem dX3_arm_58 : decode cX3_arm 58 = .ok (.iload_n 1, 1) := by decide +kernel
theorem dX3_arm_59 : decode cX3_arm 59 = .ok (.iconst 0, 1) := by decide +kernel
theorem dX3_arm_60 : decode cX3_arm 60 = .ok (.iload_n 2, 1) := by decide +kernel
theorem dX3_arm_61 : decode cX3_arm 61 = .ok (.invokevirtual 81, 3) := by decide +kernel
theorem dX3_arm_64 : decode cX3_arm 64 = .ok (.aload_n 0, 1) := by decide +kernel
theorem dX3_arm_65 : decode cX3_arm 65 = .ok (.iload_n 1, 1) := by decide +kernel
theorem dX3_arm_66 : decode cX3_arm 66 = .ok (.iconst 1, 1) := by decide +kernel
theorem dX3_arm_67 : decode cX3_arm 67 = .ok (.iload_n 2, 1) := by decide +kernel
theorem dX3_arm_68 : decode cX3_arm 68 = .ok (.bipush 8, 2) := by decide +kernel
theorem dX3_arm_70 : decode cX3_arm 70 = .ok (.ishr, 1) := by decide +kernel
theorem dX3_arm_71 : decode cX3_arm 71 = .ok (.invokevirtual 81, 3) := by decide +kernel
theorem dX3_arm_74 : decode cX3_arm 74 = .ok (.aload_n 0, 1) := by decide +kernel
theorem dX3_arm_75 : decode cX3_arm 75 = .ok (.iload_n 1, 1) := by decide +kernel
theorem dX3_arm_76 : decode cX3_arm 76 = .ok (.iconst 2, 1) := by decide +kernel
theorem dX3_arm_77 : decode cX3_arm 77 = .ok (.iload_n 2, 1) := by decide +kernel
theorem dX3_arm_78 : decode cX3_arm 78 = .ok (.bipush 16, 2) := by decide +kernel
theorem dX3_arm_80 : decode cX3_arm 80 = .ok (.ishr, 1) := by decide +kernel
theorem dX3_arm_81 : decode cX3_arm 81 = .ok (.invokevirtual 81, 3) := by decide +kernel
theorem dX3_arm_84 : decode cX3_arm 84 = .ok (.aload_n 0, 1) := by decide +kernel
theorem dX3_arm_85 : decode cX3_arm 85 = .ok (.getfield 32, 3) := by decide +kernel
theorem dX3_arm_88 : decode cX3_arm 88 = .ok (.iload_n 1, 1) := by decide +kernel
theorem dX3_arm_89 : decode cX3_arm 89 = .ok (.dup2, 1) := by decide +kernel
theorem dX3_arm_90 : decode cX3_arm 90 = .ok (.iaload, 1) := by decide +kernel
theorem dX3_arm_91 : decode cX3_arm 91 = .ok (.iconst 1, 1) := by decide +kernel
theorem dX3_arm_92 : decode cX3_arm 92 = .ok (.iadd, 1) := by decide +kernel
theorem dX3_arm_93 : decode cX3_arm 93 = .ok (.iastore, 1) := by decide +kernel
theorem dX3_arm_94 : decode cX3_arm 94 = .ok (.aload_n 0, 1) := by decide +kernel
theorem dX3_arm_95 : decode cX3_arm 95 = .ok (.iload_n 1, 1) := by decide +kernel
theorem dX3_arm_96 : decode cX3_arm 96 = .ok (.iconst 4, 1) := by decide +kernel
theorem dX3_arm_97 : decode cX3_arm 97 = .ok (.invokevirtual 88, 3) := by decide +kernel
theorem dX3_arm_100 : decode cX3_arm 100 = .ok (.return_, 1) := by decide +kernel
set_option maxRecDepth 20000 in
theorem ggX3_thumb_X3_at : GoodIn wsX3_thumb wsX3_at := goodIn_r _ [6, 7, 30, 31, 32, 33, 34, 35, 36, 37, 38, 39, 40, 41, 42, 43, 44, 45, 46, 47, 48, 49] (by decide +kernel) (by decide +kernel)
set_option maxRecDepth 20000 in
theorem gX3_thumb_X3_at : GoodIn wsX3_thumb (wsV RX3 77 RX3 yX3_at wsX3_at) := goodIn_app (goodIn_of _ (by decide +kernel)) ggX3_thumb_X3_at
set_option maxRecDepth 20000 in
theorem ggX3_thumb_X3_give : GoodIn wsX3_thumb wsX3_give := goodIn_r _ [11, 12, 13, 14, 15, 2, 3, 4, 5, 6, 7, 16, 17, 18, 19, 30, 31, 32, 33, 34, 35, 36, 37, 38, 39, 40, 41, 42, 43, 44, 45, 46, 47, 48, 49] (by decide +kernel) (by decide +kernel)
set_option maxRecDepth 20000 in
theorem gX3_thumb_X3_give : GoodIn wsX3_thumb (wsV RX3 88 RX3 yX3_give wsX3_give) := goodIn_app (goodIn_of _ (by decide +kernel)) ggX3_thumb_X3_give
set_option maxRecDepth 20000 in
theorem ggX3_thumb_X3_place : GoodIn wsX3_thumb wsX3_place := goodIn_r _ [23, 24, 15, 30, 31, 32, 33, 34, 35, 36, 37, 38, 39, 40, 41, 42, 43, 44, 45, 46, 47, 48, 49] (by decide +kernel) (by decide +kernel)
set_option maxRecDepth 20000 in
theorem gX3_thumb_X3_place : GoodIn wsX3_thumb (wsV RX3 92 RX3 yX3_place wsX3_place) := goodIn_app (goodIn_of _ (by decide +kernel)) ggX3_thumb_X3_place
set_option maxRecDepth 20000 in
theorem ggX3_thumb_X3_moved : GoodIn wsX3_thumb wsX3_moved := goodIn_r _ [28, 29, 30, 31, 32, 33, 34, 35, 36, 37, 38, 39, 40, 41, 42, 43, 44, 45, 46, 47, 48, 49] (by decide +kernel) (by decide +kernel)
set_option maxRecDepth 20000 in
theorem gX3_thumb_X3_moved : GoodIn wsX3_thumb (wsV RX3 96 RX3 yX3_moved wsX3_moved) := goodIn_app (goodIn_of _ (by decide +kernel)) ggX3_thumb_X3_moved
set_option maxRecDepth 20000 in
theorem ggX3_thumb_X3_change : GoodIn wsX3_thumb wsX3_change := goodIn_r _ [19, 7, 30, 31, 32, 33, 34, 35, 36, 37, 38, 39, 40, 41, 42, 43, 44, 45, 46, 47, 48, 49] (by decide +kernel) (by decide +kernel)
set_option maxRecDepth 20000 in
theorem gX3_thumb_X3_change : GoodIn wsX3_thumb (wsV RX3 81 RX3 yX3_change wsX3_change) := goodIn_app (goodIn_of _ (by decide +kernel)) ggX3_thumb_X3_change
theorem dX3_thumb_0 : decode cX3_thumb 0 = .ok (.aload_n 0, 1) := by decide +kernel
theorem dX3_thumb_1 : decode cX3_thumb 1 = .ok (.iload_n 1, 1) := by decide +kernel
theorem dX3_thumb_2 : decode cX3_thumb 2 = .ok (.iconst 1, 1) := by decide +kernel
theorem dX3_thumb_3 : decode cX3_thumb 3 = .ok (.invokevirtual 77, 3) := by decide +kernel
theorem dX3_thumb_6 : decode cX3_thumb 6 = .ok (.iconst 3, 1) := by decide +kernel
theorem dX3_thumb_7 : decode cX3_thumb 7 = .ok (.ishr, 1) := by decide +kernel
theorem dX3_thumb_8 : decode cX3_thumb 8 = .ok (.bipush 30, 2) := by decide +kernel
theorem dX3_thumb_10 : decode cX3_thumb 10 = .ok (.if_icmp .ne 16, 3) := by decide +kernel
theorem dX3_thumb_13 : decode cX3_thumb 13 = .ok (.aload_n 0, 1) := by decide +kernel
theorem dX3_thumb_14 : decode cX3_thumb 14 = .ok (.iload_n 1, 1) := by decide +kernel
theorem dX3_thumb_15 : decode cX3_thumb 15 = .ok (.iconst 3, 1) := by decide +kernel
theorem dX3_thumb_16 : decode cX3_thumb 16 = .ok (.invokevirtual 77, 3) := by decide +kernel
theorem dX3_thumb_19 : decode cX3_thumb 19 = .ok (.iconst 3, 1) := by decide +kernel
theorem dX3_thumb_20 : decode cX3_thumb 20 = .ok (.ishr, 1) := by decide +kernel
theorem dX3_thumb_21 : decode cX3_thumb 21 = .ok (.bipush 31, 2) := by decide +kernel
theorem dX3_thumb_23 : decode cX3_thumb 23 = .ok (.if_icmp .eq 10, 3) := by decide +kernel
theorem dX3_thumb_26 : decode cX3_thumb 26 = .ok (.aload_n 0, 1) := by decide +kernel
theorem dX3_thumb_27 : decode cX3_thumb 27 = .ok (.iload_n 1, 1) := by decide +kernel
theorem dX3_thumb_28 : decode cX3_thumb 28 = .ok (.iconst 2, 1) := by decide +kernel
theorem dX3_thumb_29 : decode cX3_thumb 29 = .ok (.invokevirtual 88, 3) := by decide +kernel
theorem dX3_thumb_32 : decode cX3_thumb 32 = .ok (.return_, 1) := by decide +kernel
theorem dX3_thumb_33 : decode cX3_thumb 33 = .ok (.aload_n 0, 1) := by decide +kernel
theorem dX3_thumb_34 : decode cX3_thumb 34 = .ok (.iload_n 1, 1) := by decide +kernel
theorem dX3_thumb_35 : decode cX3_thumb 35 = .ok (.iconst 1, 1) := by decide +kernel
theorem dX3_thumb_36 : decode cX3_thumb 36 = .ok (.invokevirtual 77, 3) := by decide +kernel
theorem dX3_thumb_39 : decode cX3_thumb 39 = .ok (.bipush 7, 2) := by decide +kernel
theorem dX3_thumb_41 : decode cX3_thumb 41 = .ok (.iand, 1) := by decide +kernel
theorem dX3_thumb_42 : decode cX3_thumb 42 = .ok (.bipush 19, 2) := by decide +kernel
theorem dX3_thumb_44 : decode cX3_thumb 44 = .ok (.ishl, 1) := by decide +kernel
theorem dX3_thumb_45 : decode cX3_thumb 45 = .ok (.aload_n 0, 1) := by decide +kernel
theorem dX3_thumb_46 : decode cX3_thumb 46 = .ok (.iload_n 1, 1) := by decide +kernel
theorem dX3_thumb_47 : decode cX3_thumb 47 = .ok (.iconst 0, 1) := by decide +kernel
theorem dX3_thumb_48 : decode cX3_thumb 48 = .ok (.invokevirtual 77, 3) := by decide +kernel
theorem dX3_thumb_51 : decode cX3_thumb 51 = .ok (.bipush 11, 2) := by decide +kernel
theorem dX3_thumb_53 : decode cX3_thumb 53 = .ok (.ishl, 1) := by decide +kernel
theorem dX3_thumb_54 : decode cX3_thumb 54 = .ok (.ior, 1) := by decide +kernel
theorem dX3_thumb_55 : decode cX3_thumb 55 = .ok (.aload_n 0, 1) := by decide +kernel
theorem dX3_thumb_56 : decode cX3_thumb 56 = .ok (.iload_n 1, 1) := by decide +kernel
theorem dX3_thumb_57 : decode cX3_thumb 57 = .ok (.iconst 3, 1) := by decide +kernel
theorem dX3_thumb_58 : decode cX3_thumb 58 = .ok (.invokevirtual 77, 3) := by decide +kernel
theorem dX3_thumb_61 : decode cX3_thumb 61 = .ok (.bipush 7, 2) := by decide +kernel
theorem dX3_thumb_63 : decode cX3_thumb 63 = .ok (.iand, 1) := by decide +kernel
theorem dX3_thumb_64 : decode cX3_thumb 64 = .ok (.bipush 8, 2) := by decide +kernel
theorem dX3_thumb_66 : decode cX3_thumb 66 = .ok (.ishl, 1) := by decide +kernel
theorem dX3_thumb_67 : decode cX3_thumb 67 = .ok (.ior, 1) := by decide +kernel
theorem dX3_thumb_68 : decode cX3_thumb 68 = .ok (.aload_n 0, 1) := by decide +kernel
theorem dX3_thumb_69 : decode cX3_thumb 69 = .ok (.iload_n 1, 1) := by decide +kernel
theorem dX3_thumb_70 : decode cX3_thumb 70 = .ok (.iconst 2, 1) := by decide +kernel
theorem dX3_thumb_71 : decode cX3_thumb 71 = .ok (.invokevirtual 77, 3) := by decide +kernel
theorem dX3_thumb_74 : decode cX3_thumb 74 = .ok (.ior, 1) := by decide +kernel
theorem dX3_thumb_75 : decode cX3_thumb 75 = .ok (.istore_n 2, 1) := by decide +kernel
theorem dX3_thumb_76 : decode cX3_thumb 76 = .ok (.aload_n 0, 1) := by decide +kernel
theorem dX3_thumb_77 : decode cX3_thumb 77 = .ok (.iconst 2, 1) := by decide +kernel
theorem dX3_thumb_78 : decode cX3_thumb 78 = .ok (.iload_n 2, 1) := by decide +kernel
theorem dX3_thumb_79 : decode cX3_thumb 79 = .ok (.imul, 1) := by decide +kernel
theorem dX3_thumb_80 : decode cX3_thumb 80 = .ok (.aload_n 0, 1) := by decide +kernel
theorem dX3_thumb_81 : decode cX3_thumb 81 = .ok (.iload_n 1, 1) := by decide +kernel
theorem dX3_thumb_82 : decode cX3_thumb 82 = .ok (.invokevirtual 92, 3) := by decide +kernel
theorem dX3_thumb_85 : decode cX3_thumb 85 = .ok (.iconst 4, 1) := by decide +kernel
theorem dX3_thumb_86 : decode cX3_thumb 86 = .ok (.iadd, 1) := by decide +kernel
theorem dX3_thumb_87 : decode cX3_thumb 87 = .ok (.invokevirtual 96, 3) := by decide +kernel
theorem dX3_thumb_90 : decode cX3_thumb 90 = .ok (.iconst 1, 1) := by decide +kernel
theorem dX3_thumb_91 : decode cX3_thumb 91 = .ok (.iushr, 1) := by decide +kernel
theorem dX3_thumb_92 : decode cX3_thumb 92 = .ok (.istore_n 2, 1) := by decide +kernel
theorem dX3_thumb_93 : decode cX3_thumb 93 = .ok (.aload_n 0, 1) := by decide +kernel
theorem dX3_thumb_94 : decode cX3_thumb 94 = .ok (.iload_n 1, 1) := by decide +kernel
theorem dX3_thumb_95 : decode cX3_thumb 95 = .ok (.iconst 1, 1) := by decide +kernel
theorem dX3_thumb_96 : decode cX3_thumb 96 = .ok (.sipush 240, 3) := by decide +kernel
theorem dX3_thumb_99 : decode cX3_thumb 99 = .ok (.iload_n 2, 1) := by decide +kernel
theorem dX3_thumb_100 : decode cX3_thumb 100 = .ok (.bipush 19, 2) := by decide +kernel
theorem dX3_thumb_102 : decode cX3_thumb 102 = .ok (.ishr, 1) := by decide +kernel
theorem dX3_thumb_103 : decode cX3_thumb 103 = .ok (.bipush 7, 2) := by decide +kernel
theorem dX3_thumb_105 : decode cX3_thumb 105 = .ok (.iand, 1) := by decide +kernel
theorem dX3_thumb_106 : decode cX3_thumb 106 = .ok (.ior, 1) := by decide +kernel
theorem dX3_thumb_107 : decode cX3_thumb 107 = .ok (.invokevirtual 81, 3) := by decide +kernel
theorem dX3_thumb_110 : decode cX3_thumb 110 = .ok (.aload_n 0, 1) := by decide +kernel
theorem dX3_thumb_111 : decode cX3_thumb 111 = .ok (.iload_n 1, 1) := by decide +kernel
theorem dX3_thumb_112 : decode cX3_thumb 112 = .ok (.iconst 0, 1) := by decide +kernel
theorem dX3_thumb_113 : decode cX3_thumb 113 = .ok (.iload_n 2, 1) := by decide +kernel
theorem dX3_thumb_114 : decode cX3_thumb 114 = .ok (.bipush 11, 2) := by decide +kernel
theorem dX3_thumb_116 : decode cX3_thumb 116 = .ok (.ishr, 1) := by decide +kernel
theorem dX3_thumb_117 : decode cX3_thumb 117 = .ok (.invokevirtual 81, 3) := by decide +kernel
theorem dX3_thumb_120 : decode cX3_thumb 120 = .ok (.aload_n 0, 1) := by decide +kernel
theorem dX3_thumb_121 : decode cX3_thumb 121 = .ok (.iload_n 1, 1) := by decide +kernel
theorem dX3_thumb_122 : decode cX3_thumb 122 = .ok (.iconst 3, 1) := by decide +kernel
theorem dX3_thumb_123 : decode cX3_thumb 123 = .ok (.sipush 248, 3) := by decide +kernel
theorem dX3_thumb_126 : decode cX3_thumb 126 = .ok (.iload_n 2, 1) := by decide +kernel
theorem dX3_thumb_127 : decode cX3_thumb 127 = .ok (.bipush 8, 2) := by decide +kernel
theorem dX3_thumb_129 : decode cX3_thumb 129 = .ok (.ishr, 1) := by decide +kernel
theorem dX3_thumb_130 : decode cX3_thumb 130 = .ok (.bipush 7, 2) := by decide +kernel
theorem dX3_thumb_132 : decode cX3_thumb 132 = .ok (.iand, 1) := by decide +kernel
theorem dX3_thumb_133 : decode cX3_thumb 133 = .ok (.ior, 1) := by decide +kernel
theorem dX3_thumb_134 : decode cX3_thumb 134 = .ok (.invokevirtual 81, 3) := by decide +kernel
theorem dX3_thumb_137 : decode cX3_thumb 137 = .ok (.aload_n 0, 1) := by decide +kernel
theorem dX3_thumb_138 : decode cX3_thumb 138 = .ok (.iload_n 1, 1) := by decide +kernel
theorem dX3_thumb_139 : decode cX3_thumb 139 = .ok (.iconst 2, 1) := by decide +kernel
theorem dX3_thumb_140 : decode cX3_thumb 140 = .ok (.iload_n 2, 1) := by decide +kernel
theorem dX3_thumb_141 : decode cX3_thumb 141 = .ok (.invokevirtual 81, 3) := by decide +kernel
theorem dX3_thumb_144 : decode cX3_thumb 144 = .ok (.aload_n 0, 1) := by decide +kernel
theorem dX3_thumb_145 : decode cX3_thumb 145 = .ok (.getfield 32, 3) := by decide +kernel
theorem dX3_thumb_148 : decode cX3_thumb 148 = .ok (.iload_n 1, 1) := by decide +kernel
theorem dX3_thumb_149 : decode cX3_thumb 149 = .ok (.dup2, 1) := by decide +kernel
theorem dX3_thumb_150 : decode cX3_thumb 150 = .ok (.iaload, 1) := by decide +kernel
theorem dX3_thumb_151 : decode cX3_thumb 151 = .ok (.iconst 1, 1) := by decide +kernel
theorem dX3_thumb_152 : decode cX3_thumb 152 = .ok (.iadd, 1) := by decide +kernel
theorem dX3_thumb_153 : decode cX3_thumb 153 = .ok (.iastore, 1) := by decide +kernel
theorem dX3_thumb_154 : decode cX3_thumb 154 = .ok (.aload_n 0, 1) := by decide +kernel
theorem dX3_thumb_155 : decode cX3_thumb 155 = .ok (.iload_n 1, 1) := by decide +kernel
theorem dX3_thumb_156 : decode cX3_thumb 156 = .ok (.iconst 4, 1) := by decide +kernel
theorem dX3_thumb_157 : decode cX3_thumb 157 = .ok (.invokevirtual 88, 3) := by decide +kernel
theorem dX3_thumb_160 : decode cX3_thumb 160 = .ok (.return_, 1) := by decide +kernel
set_option maxRecDepth 20000 in
theorem ggX3_power_X3_high : GoodIn wsX3_power wsX3_high := goodIn_r _ [8, 9, 10, 11, 7, 12, 13, 40, 41, 42, 43, 44, 45, 46, 47, 48, 49, 50, 51, 52, 53, 54, 55, 56, 57, 58, 59] (by decide +kernel) (by decide +kernel)
set_option maxRecDepth 20000 in
theorem gX3_power_X3_high : GoodIn wsX3_power (wsV RX3 99 RX3 yX3_high wsX3_high) := goodIn_app (goodIn_of _ (by decide +kernel)) ggX3_power_X3_high
set_option maxRecDepth 20000 in
theorem ggX3_power_X3_place : GoodIn wsX3_power wsX3_place := goodIn_r _ [17, 18, 19, 40, 41, 42, 43, 44, 45, 46, 47, 48, 49, 50, 51, 52, 53, 54, 55, 56, 57, 58, 59] (by decide +kernel) (by decide +kernel)
set_option maxRecDepth 20000 in
theorem gX3_power_X3_place : GoodIn wsX3_power (wsV RX3 92 RX3 yX3_place wsX3_place) := goodIn_app (goodIn_of _ (by decide +kernel)) ggX3_power_X3_place
set_option maxRecDepth 20000 in
theorem ggX3_power_X3_moved : GoodIn wsX3_power wsX3_moved := goodIn_r _ [23, 24, 40, 41, 42, 43, 44, 45, 46, 47, 48, 49, 50, 51, 52, 53, 54, 55, 56, 57, 58, 59] (by decide +kernel) (by decide +kernel)
set_option maxRecDepth 20000 in
theorem gX3_power_X3_moved : GoodIn wsX3_power (wsV RX3 96 RX3 yX3_moved wsX3_moved) := goodIn_app (goodIn_of _ (by decide +kernel)) ggX3_power_X3_moved
set_option maxRecDepth 20000 in
theorem ggX3_power_X3_setHigh : GoodIn wsX3_power wsX3_setHigh := goodIn_r _ [28, 29, 30, 31, 7, 32, 13, 40, 41, 42, 43, 44, 45, 46, 47, 48, 49, 50, 51, 52, 53, 54, 55, 56, 57, 58, 59] (by decide +kernel) (by decide +kernel)
set_option maxRecDepth 20000 in
theorem gX3_power_X3_setHigh : GoodIn wsX3_power (wsV RX3 104 RX3 yX3_setHigh wsX3_setHigh) := goodIn_app (goodIn_of _ (by decide +kernel)) ggX3_power_X3_setHigh
set_option maxRecDepth 20000 in
theorem ggX3_power_X3_give : GoodIn wsX3_power wsX3_give := goodIn_r _ [36, 37, 38, 39, 19, 9, 10, 11, 7, 12, 13, 29, 30, 31, 32, 40, 41, 42, 43, 44, 45, 46, 47, 48, 49, 50, 51, 52, 53, 54, 55, 56, 57, 58, 59] (by decide +kernel) (by decide +kernel)
set_option maxRecDepth 20000 in
theorem gX3_power_X3_give : GoodIn wsX3_power (wsV RX3 88 RX3 yX3_give wsX3_give) := goodIn_app (goodIn_of _ (by decide +kernel)) ggX3_power_X3_give
theorem dX3_power_0 : decode cX3_power 0 = .ok (.aload_n 0, 1) := by decide +kernel
theorem dX3_power_1 : decode cX3_power 1 = .ok (.iload_n 1, 1) := by decide +kernel
theorem dX3_power_2 : decode cX3_power 2 = .ok (.iconst 0, 1) := by decide +kernel
theorem dX3_power_3 : decode cX3_power 3 = .ok (.invokevirtual 99, 3) := by decide +kernel
theorem dX3_power_6 : decode cX3_power 6 = .ok (.istore_n 2, 1) := by decide +kernel
theorem dX3_power_7 : decode cX3_power 7 = .ok (.iload_n 2, 1) := by decide +kernel
theorem dX3_power_8 : decode cX3_power 8 = .ok (.bipush 26, 2) := by decide +kernel
theorem dX3_power_10 : decode cX3_power 10 = .ok (.iushr, 1) := by decide +kernel
theorem dX3_power_11 : decode cX3_power 11 = .ok (.bipush 18, 2) := by decide +kernel
theorem dX3_power_13 : decode cX3_power 13 = .ok (.if_icmp .ne 49, 3) := by decide +kernel
theorem dX3_power_16 : decode cX3_power 16 = .ok (.iload_n 2, 1) := by decide +kernel
theorem dX3_power_17 : decode cX3_power 17 = .ok (.iconst 3, 1) := by decide +kernel
theorem dX3_power_18 : decode cX3_power 18 = .ok (.iand, 1) := by decide +kernel
theorem dX3_power_19 : decode cX3_power 19 = .ok (.iconst 1, 1) := by decide +kernel
theorem dX3_power_20 : decode cX3_power 20 = .ok (.if_icmp .ne 42, 3) := by decide +kernel
theorem dX3_power_23 : decode cX3_power 23 = .ok (.aload_n 0, 1) := by decide +kernel
theorem dX3_power_24 : decode cX3_power 24 = .ok (.iload_n 2, 1) := by decide +kernel
theorem dX3_power_25 : decode cX3_power 25 = .ok (.ldc 102, 2) := by decide +kernel
theorem dX3_power_27 : decode cX3_power 27 = .ok (.iand, 1) := by decide +kernel
theorem dX3_power_28 : decode cX3_power 28 = .ok (.aload_n 0, 1) := by decide +kernel
theorem dX3_power_29 : decode cX3_power 29 = .ok (.iload_n 1, 1) := by decide +kernel
theorem dX3_power_30 : decode cX3_power 30 = .ok (.invokevirtual 92, 3) := by decide +kernel
theorem dX3_power_33 : decode cX3_power 33 = .ok (.invokevirtual 96, 3) := by decide +kernel
theorem dX3_power_36 : decode cX3_power 36 = .ok (.istore_n 3, 1) := by decide +kernel
theorem dX3_power_37 : decode cX3_power 37 = .ok (.aload_n 0, 1) := by decide +kernel
theorem dX3_power_38 : decode cX3_power 38 = .ok (.iload_n 1, 1) := by decide +kernel
theorem dX3_power_39 : decode cX3_power 39 = .ok (.iconst 0, 1) := by decide +kernel
theorem dX3_power_40 : decode cX3_power 40 = .ok (.iload_n 2, 1) := by decide +kernel
theorem dX3_power_41 : decode cX3_power 41 = .ok (.ldc 103, 2) := by decide +kernel
theorem dX3_power_43 : decode cX3_power 43 = .ok (.iand, 1) := by decide +kernel
theorem dX3_power_44 : decode cX3_power 44 = .ok (.iload_n 3, 1) := by decide +kernel
theorem dX3_power_45 : decode cX3_power 45 = .ok (.ldc 102, 2) := by decide +kernel
theorem dX3_power_47 : decode cX3_power 47 = .ok (.iand, 1) := by decide +kernel
theorem dX3_power_48 : decode cX3_power 48 = .ok (.ior, 1) := by decide +kernel
theorem dX3_power_49 : decode cX3_power 49 = .ok (.invokevirtual 104, 3) := by decide +kernel
theorem dX3_power_52 : decode cX3_power 52 = .ok (.aload_n 0, 1) := by decide +kernel
theorem dX3_power_53 : decode cX3_power 53 = .ok (.getfield 32, 3) := by decide +kernel
theorem dX3_power_56 : decode cX3_power 56 = .ok (.iload_n 1, 1) := by decide +kernel
theorem dX3_power_57 : decode cX3_power 57 = .ok (.dup2, 1) := by decide +kernel
theorem dX3_power_58 : decode cX3_power 58 = .ok (.iaload, 1) := by decide +kernel
theorem dX3_power_59 : decode cX3_power 59 = .ok (.iconst 1, 1) := by decide +kernel
theorem dX3_power_60 : decode cX3_power 60 = .ok (.iadd, 1) := by decide +kernel
theorem dX3_power_61 : decode cX3_power 61 = .ok (.iastore, 1) := by decide +kernel
theorem dX3_power_62 : decode cX3_power 62 = .ok (.aload_n 0, 1) := by decide +kernel
theorem dX3_power_63 : decode cX3_power 63 = .ok (.iload_n 1, 1) := by decide +kernel
theorem dX3_power_64 : decode cX3_power 64 = .ok (.iconst 4, 1) := by decide +kernel
theorem dX3_power_65 : decode cX3_power 65 = .ok (.invokevirtual 88, 3) := by decide +kernel
theorem dX3_power_68 : decode cX3_power 68 = .ok (.return_, 1) := by decide +kernel
set_option maxRecDepth 20000 in
theorem ggX3_sparc_X3_at : GoodIn wsX3_sparc wsX3_at := goodIn_r _ [8, 9, 40, 41, 42, 43, 44, 45, 46, 47, 48, 49, 50, 51, 52, 53, 54, 55, 56, 57, 58, 59] (by decide +kernel) (by decide +kernel)
set_option maxRecDepth 20000 in
theorem gX3_sparc_X3_at : GoodIn wsX3_sparc (wsV RX3 77 RX3 yX3_at wsX3_at) := goodIn_app (goodIn_of _ (by decide +kernel)) ggX3_sparc_X3_at
set_option maxRecDepth 20000 in
theorem ggX3_sparc_X3_high : GoodIn wsX3_sparc wsX3_high := goodIn_r _ [13, 4, 5, 6, 7, 8, 9, 40, 41, 42, 43, 44, 45, 46, 47, 48, 49, 50, 51, 52, 53, 54, 55, 56, 57, 58, 59] (by decide +kernel) (by decide +kernel)
set_option maxRecDepth 20000 in
theorem gX3_sparc_X3_high : GoodIn wsX3_sparc (wsV RX3 99 RX3 yX3_high wsX3_high) := goodIn_app (goodIn_of _ (by decide +kernel)) ggX3_sparc_X3_high
set_option maxRecDepth 20000 in
theorem ggX3_sparc_X3_place : GoodIn wsX3_sparc wsX3_place := goodIn_r _ [17, 18, 19, 40, 41, 42, 43, 44, 45, 46, 47, 48, 49, 50, 51, 52, 53, 54, 55, 56, 57, 58, 59] (by decide +kernel) (by decide +kernel)
set_option maxRecDepth 20000 in
theorem gX3_sparc_X3_place : GoodIn wsX3_sparc (wsV RX3 92 RX3 yX3_place wsX3_place) := goodIn_app (goodIn_of _ (by decide +kernel)) ggX3_sparc_X3_place
set_option maxRecDepth 20000 in
theorem ggX3_sparc_X3_moved : GoodIn wsX3_sparc wsX3_moved := goodIn_r _ [23, 24, 40, 41, 42, 43, 44, 45, 46, 47, 48, 49, 50, 51, 52, 53, 54, 55, 56, 57, 58, 59] (by decide +kernel) (by decide +kernel)
set_option maxRecDepth 20000 in
theorem gX3_sparc_X3_moved : GoodIn wsX3_sparc (wsV RX3 96 RX3 yX3_moved wsX3_moved) := goodIn_app (goodIn_of _ (by decide +kernel)) ggX3_sparc_X3_moved
set_option maxRecDepth 20000 in
theorem ggX3_sparc_X3_setHigh : GoodIn wsX3_sparc wsX3_setHigh := goodIn_r _ [28, 29, 30, 31, 7, 32, 9, 40, 41, 42, 43, 44, 45, 46, 47, 48, 49, 50, 51, 52, 53, 54, 55, 56, 57, 58, 59] (by decide +kernel) (by decide +kernel)
set_option maxRecDepth 20000 in
theorem gX3_sparc_X3_setHigh : GoodIn wsX3_sparc (wsV RX3 104 RX3 yX3_setHigh wsX3_setHigh) := goodIn_app (goodIn_of _ (by decide +kernel)) ggX3_sparc_X3_setHigh
set_option maxRecDepth 20000 in
theorem ggX3_sparc_X3_give : GoodIn wsX3_sparc wsX3_give := goodIn_r _ [36, 37, 38, 39, 19, 4, 5, 6, 7, 8, 9, 29, 30, 31, 32, 40, 41, 42, 43, 44, 45, 46, 47, 48, 49, 50, 51, 52, 53, 54, 55, 56, 57, 58, 59] (by decide +kernel) (by decide +kernel)
set_option maxRecDepth 20000 in
theorem gX3_sparc_X3_give : GoodIn wsX3_sparc (wsV RX3 88 RX3 yX3_give wsX3_give) := goodIn_app (goodIn_of _ (by decide +kernel)) ggX3_sparc_X3_give
theorem dX3_sparc_0 : decode cX3_sparc 0 = .ok (.aload_n 0, 1) := by decide +kernel
theorem dX3_sparc_1 : decode cX3_sparc 1 = .ok (.iload_n 1, 1) := by decide +kernel
theorem dX3_sparc_2 : decode cX3_sparc 2 = .ok (.iconst 1, 1) := by decide +kernel
theorem dX3_sparc_3 : decode cX3_sparc 3 = .ok (.invokevirtual 77, 3) := by decide +kernel
theorem dX3_sparc_6 : decode cX3_sparc 6 = .ok (.bipush 6, 2) := by decide +kernel
theorem dX3_sparc_8 : decode cX3_sparc 8 = .ok (.ishr, 1) := by decide +kernel
theorem dX3_sparc_9 : decode cX3_sparc 9 = .ok (.istore_n 2, 1) := by decide +kernel
theorem dX3_sparc_10 : decode cX3_sparc 10 = .ok (.aload_n 0, 1) := by decide +kernel
theorem dX3_sparc_11 : decode cX3_sparc 11 = .ok (.iload_n 1, 1) := by decide +kernel
theorem dX3_sparc_12 : decode cX3_sparc 12 = .ok (.iconst 0, 1) := by decide +kernel
theorem dX3_sparc_13 : decode cX3_sparc 13 = .ok (.invokevirtual 77, 3) := by decide +kernel
theorem dX3_sparc_16 : decode cX3_sparc 16 = .ok (.bipush 64, 2) := by decide +kernel
theorem dX3_sparc_18 : decode cX3_sparc 18 = .ok (.if_icmp .ne 7, 3) := by decide +kernel
theorem dX3_sparc_21 : decode cX3_sparc 21 = .ok (.iload_n 2, 1) := by decide +kernel
theorem dX3_sparc_22 : decode cX3_sparc 22 = .ok (.ifCond .eq 19, 3) := by decide +kernel
theorem dX3_sparc_25 : decode cX3_sparc 25 = .ok (.aload_n 0, 1) := by decide +kernel
theorem dX3_sparc_26 : decode cX3_sparc 26 = .ok (.iload_n 1, 1) := by decide +kernel
theorem dX3_sparc_27 : decode cX3_sparc 27 = .ok (.iconst 0, 1) := by decide +kernel
theorem dX3_sparc_28 : decode cX3_sparc 28 = .ok (.invokevirtual 77, 3) := by decide +kernel
theorem dX3_sparc_31 : decode cX3_sparc 31 = .ok (.bipush 127, 2) := by decide +kernel
theorem dX3_sparc_33 : decode cX3_sparc 33 = .ok (.if_icmp .ne 76, 3) := by decide +kernel
theorem dX3_sparc_36 : decode cX3_sparc 36 = .ok (.iload_n 2, 1) := by decide +kernel
theorem dX3_sparc_37 : decode cX3_sparc 37 = .ok (.iconst 3, 1) := by decide +kernel
theorem dX3_sparc_38 : decode cX3_sparc 38 = .ok (.if_icmp .ne 71, 3) := by decide +kernel
theorem dX3_sparc_41 : decode cX3_sparc 41 = .ok (.aload_n 0, 1) := by decide +kernel
theorem dX3_sparc_42 : decode cX3_sparc 42 = .ok (.aload_n 0, 1) := by decide +kernel
theorem dX3_sparc_43 : decode cX3_sparc 43 = .ok (.iload_n 1, 1) := by decide +kernel
theorem dX3_sparc_44 : decode cX3_sparc 44 = .ok (.iconst 0, 1) := by decide +kernel
theorem dX3_sparc_45 : decode cX3_sparc 45 = .ok (.invokevirtual 99, 3) := by decide +kernel
theorem dX3_sparc_48 : decode cX3_sparc 48 = .ok (.iconst 4, 1) := by decide +kernel
theorem dX3_sparc_49 : decode cX3_sparc 49 = .ok (.imul, 1) := by decide +kernel
theorem dX3_sparc_50 : decode cX3_sparc 50 = .ok (.aload_n 0, 1) := by decide +kernel
theorem dX3_sparc_51 : decode cX3_sparc 51 = .ok (.iload_n 1, 1) := by decide +kernel
theorem dX3_sparc_52 : decode cX3_sparc 52 = .ok (.invokevirtual 92, 3) := by decide +kernel
theorem dX3_sparc_55 : decode cX3_sparc 55 = .ok (.invokevirtual 96, 3) := by decide +kernel
theorem dX3_sparc_58 : decode cX3_sparc 58 = .ok (.iconst 2, 1) := by decide +kernel
