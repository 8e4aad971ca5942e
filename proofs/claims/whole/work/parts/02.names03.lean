theorem dX1_setHighestFirst_43 : decode cX1_setHighestFirst 43 = .ok (.getfield 7, 3) := by decide +kernel
theorem dX1_setHighestFirst_46 : decode cX1_setHighestFirst 46 = .ok (.iload_n 1, 1) := by decide +kernel
theorem dX1_setHighestFirst_47 : decode cX1_setHighestFirst 47 = .ok (.iconst 3, 1) := by decide +kernel
theorem dX1_setHighestFirst_48 : decode cX1_setHighestFirst 48 = .ok (.iadd, 1) := by decide +kernel
theorem dX1_setHighestFirst_49 : decode cX1_setHighestFirst 49 = .ok (.iload_n 2, 1) := by decide +kernel
theorem dX1_setHighestFirst_50 : decode cX1_setHighestFirst 50 = .ok (.sipush 255, 3) := by decide +kernel
theorem dX1_setHighestFirst_53 : decode cX1_setHighestFirst 53 = .ok (.iand, 1) := by decide +kernel
theorem dX1_setHighestFirst_54 : decode cX1_setHighestFirst 54 = .ok (.iastore, 1) := by decide +kernel
theorem dX1_setHighestFirst_55 : decode cX1_setHighestFirst 55 = .ok (.return_, 1) := by decide +kernel
theorem dX1_moveTo_0 : decode cX1_moveTo 0 = .ok (.aload_n 0, 1) := by decide +kernel
theorem dX1_moveTo_1 : decode cX1_moveTo 1 = .ok (.getfield 7, 3) := by decide +kernel
theorem dX1_moveTo_4 : decode cX1_moveTo 4 = .ok (.iconst 0, 1) := by decide +kernel
theorem dX1_moveTo_5 : decode cX1_moveTo 5 = .ok (.aload_n 1, 1) := by decide +kernel
theorem dX1_moveTo_6 : decode cX1_moveTo 6 = .ok (.getfield 7, 3) := by decide +kernel
theorem dX1_moveTo_9 : decode cX1_moveTo 9 = .ok (.aload_n 1, 1) := by decide +kernel
theorem dX1_moveTo_10 : decode cX1_moveTo 10 = .ok (.getfield 13, 3) := by decide +kernel
theorem dX1_moveTo_13 : decode cX1_moveTo 13 = .ok (.iload_n 2, 1) := by decide +kernel
theorem dX1_moveTo_14 : decode cX1_moveTo 14 = .ok (.invokestatic 17, 3) := by decide +kernel
theorem dX1_moveTo_17 : decode cX1_moveTo 17 = .ok (.aload_n 1, 1) := by decide +kernel
theorem dX1_moveTo_18 : decode cX1_moveTo 18 = .ok (.dup, 1) := by decide +kernel
theorem dX1_moveTo_19 : decode cX1_moveTo 19 = .ok (.getfield 13, 3) := by decide +kernel
theorem dX1_moveTo_22 : decode cX1_moveTo 22 = .ok (.iload_n 2, 1) := by decide +kernel
theorem dX1_moveTo_23 : decode cX1_moveTo 23 = .ok (.iadd, 1) := by decide +kernel
theorem dX1_moveTo_24 : decode cX1_moveTo 24 = .ok (.putfield 13, 3) := by decide +kernel
theorem dX1_moveTo_27 : decode cX1_moveTo 27 = .ok (.aload_n 0, 1) := by decide +kernel
theorem dX1_moveTo_28 : decode cX1_moveTo 28 = .ok (.dup, 1) := by decide +kernel
theorem dX1_moveTo_29 : decode cX1_moveTo 29 = .ok (.getfield 13, 3) := by decide +kernel
theorem dX1_moveTo_32 : decode cX1_moveTo 32 = .ok (.iload_n 2, 1) := by decide +kernel
theorem dX1_moveTo_33 : decode cX1_moveTo 33 = .ok (.isub, 1) := by decide +kernel
theorem dX1_moveTo_34 : decode cX1_moveTo 34 = .ok (.putfield 13, 3) := by decide +kernel
theorem dX1_moveTo_37 : decode cX1_moveTo 37 = .ok (.aload_n 0, 1) := by decide +kernel
theorem dX1_moveTo_38 : decode cX1_moveTo 38 = .ok (.getfield 7, 3) := by decide +kernel
theorem dX1_moveTo_41 : decode cX1_moveTo 41 = .ok (.iload_n 2, 1) := by decide +kernel
theorem dX1_moveTo_42 : decode cX1_moveTo 42 = .ok (.aload_n 0, 1) := by decide +kernel
theorem dX1_moveTo_43 : decode cX1_moveTo 43 = .ok (.getfield 7, 3) := by decide +kernel
theorem dX1_moveTo_46 : decode cX1_moveTo 46 = .ok (.iconst 0, 1) := by decide +kernel
theorem dX1_moveTo_47 : decode cX1_moveTo 47 = .ok (.aload_n 0, 1) := by decide +kernel
theorem dX1_moveTo_48 : decode cX1_moveTo 48 = .ok (.getfield 13, 3) := by decide +kernel
theorem dX1_moveTo_51 : decode cX1_moveTo 51 = .ok (.invokestatic 17, 3) := by decide +kernel
theorem dX1_moveTo_54 : decode cX1_moveTo 54 = .ok (.return_, 1) := by decide +kernel
set_option maxRecDepth 20000 in
theorem ggX2_init_X0_init : GoodIn wsX2_init wsX0_init := goodIn_r _ [16, 17, 2, 3, 18, 9, 10, 19, 20, 21, 22, 23, 24, 25, 26, 27, 28, 29, 30, 7, 31, 32, 33, 34, 35, 36, 37, 38, 39, 40, 41, 42, 62, 63, 51, 52, 53, 54, 55, 56, 57, 58, 59, 60, 61] (by decide +kernel) (by decide +kernel)
set_option maxRecDepth 20000 in
theorem gX2_init_X0_init : GoodIn wsX2_init (wsX0_init) := ggX2_init_X0_init
set_option maxRecDepth 20000 in
theorem ggX2_init_X1_init : GoodIn wsX2_init wsX1_init := goodIn_r _ [25, 26, 2, 3, 20, 27, 62, 63] (by decide +kernel) (by decide +kernel)
set_option maxRecDepth 20000 in
theorem gX2_init_X1_init : GoodIn wsX2_init (wsX1_init) := ggX2_init_X1_init
theorem dX2_init_0 : decode cX2_init 0 = .ok (.aload_n 0, 1) := by decide +kernel
theorem dX2_init_1 : decode cX2_init 1 = .ok (.invokespecial 1, 3) := by decide +kernel
theorem dX2_init_4 : decode cX2_init 4 = .ok (.aload_n 0, 1) := by decide +kernel
theorem dX2_init_5 : decode cX2_init 5 = .ok (.iconst 4, 1) := by decide +kernel
theorem dX2_init_6 : decode cX2_init 6 = .ok (.anewarray 9, 3) := by decide +kernel
theorem dX2_init_9 : decode cX2_init 9 = .ok (.putfield 11, 3) := by decide +kernel
theorem dX2_init_12 : decode cX2_init 12 = .ok (.iconst 0, 1) := by decide +kernel
theorem dX2_init_13 : decode cX2_init 13 = .ok (.istore_n 1, 1) := by decide +kernel
theorem dX2_init_14 : decode cX2_init 14 = .ok (.iload_n 1, 1) := by decide +kernel
theorem dX2_init_15 : decode cX2_init 15 = .ok (.iconst 4, 1) := by decide +kernel
theorem dX2_init_16 : decode cX2_init 16 = .ok (.if_icmp .ge 22, 3) := by decide +kernel
theorem dX2_init_19 : decode cX2_init 19 = .ok (.aload_n 0, 1) := by decide +kernel
theorem dX2_init_20 : decode cX2_init 20 = .ok (.getfield 11, 3) := by decide +kernel
theorem dX2_init_23 : decode cX2_init 23 = .ok (.iload_n 1, 1) := by decide +kernel
theorem dX2_init_24 : decode cX2_init 24 = .ok (.new 9, 3) := by decide +kernel
theorem dX2_init_27 : decode cX2_init 27 = .ok (.dup, 1) := by decide +kernel
theorem dX2_init_28 : decode cX2_init 28 = .ok (.invokespecial 15, 3) := by decide +kernel
theorem dX2_init_31 : decode cX2_init 31 = .ok (.aastore, 1) := by decide +kernel
theorem dX2_init_32 : decode cX2_init 32 = .ok (.iinc 1 1, 3) := by decide +kernel
theorem dX2_init_35 : decode cX2_init 35 = .ok (.goto (-21), 3) := by decide +kernel
theorem dX2_init_38 : decode cX2_init 38 = .ok (.aload_n 0, 1) := by decide +kernel
theorem dX2_init_39 : decode cX2_init 39 = .ok (.new 16, 3) := by decide +kernel
theorem dX2_init_42 : decode cX2_init 42 = .ok (.dup, 1) := by decide +kernel
theorem dX2_init_43 : decode cX2_init 43 = .ok (.bipush 64, 2) := by decide +kernel
theorem dX2_init_45 : decode cX2_init 45 = .ok (.invokespecial 18, 3) := by decide +kernel
theorem dX2_init_48 : decode cX2_init 48 = .ok (.putfield 21, 3) := by decide +kernel
theorem dX2_init_51 : decode cX2_init 51 = .ok (.aload_n 0, 1) := by decide +kernel
theorem dX2_init_52 : decode cX2_init 52 = .ok (.new 16, 3) := by decide +kernel
theorem dX2_init_55 : decode cX2_init 55 = .ok (.dup, 1) := by decide +kernel
theorem dX2_init_56 : decode cX2_init 56 = .ok (.sipush 2000, 3) := by decide +kernel
theorem dX2_init_59 : decode cX2_init 59 = .ok (.invokespecial 18, 3) := by decide +kernel
theorem dX2_init_62 : decode cX2_init 62 = .ok (.putfield 25, 3) := by decide +kernel
theorem dX2_init_65 : decode cX2_init 65 = .ok (.aload_n 0, 1) := by decide +kernel
theorem dX2_init_66 : decode cX2_init 66 = .ok (.iconst 1, 1) := by decide +kernel
theorem dX2_init_67 : decode cX2_init 67 = .ok (.putfield 28, 3) := by decide +kernel
theorem dX2_init_70 : decode cX2_init 70 = .ok (.return_, 1) := by decide +kernel
set_option maxRecDepth 20000 in
theorem ggX2_filter_X0_become : GoodIn wsX2_filter wsX0_become := goodIn_r _ [8, 9, 10, 47, 48, 49, 50, 51, 52, 53, 54, 55, 56, 57] (by decide +kernel) (by decide +kernel)
set_option maxRecDepth 20000 in
theorem gX2_filter_X0_become : GoodIn wsX2_filter (wsV RX2 43 RX0 yX0_become wsX0_become) := goodIn_app (goodIn_of _ (by decide +kernel)) ggX2_filter_X0_become
set_option maxRecDepth 20000 in
theorem ggX2_filter_X2_beginAnew : GoodIn wsX2_filter wsX2_beginAnew := goodIn_r _ [15, 16, 17, 18, 3, 19, 20, 21, 22, 23, 24, 25, 26, 27, 28, 29, 7, 30, 31, 32, 33, 34, 35, 36, 37, 38, 39, 40, 41, 42, 43, 44, 45, 46, 58, 59, 47, 48, 49, 50, 51, 52, 53, 54, 55, 56, 57] (by decide +kernel) (by decide +kernel)
set_option maxRecDepth 20000 in
theorem gX2_filter_X2_beginAnew : GoodIn wsX2_filter (wsV RX2 47 RX2 yX2_beginAnew wsX2_beginAnew) := goodIn_app (goodIn_of _ (by decide +kernel)) ggX2_filter_X2_beginAnew
theorem dX2_filter_0 : decode cX2_filter 0 = .ok (.iload_n 1, 1) := by decide +kernel
theorem dX2_filter_1 : decode cX2_filter 1 = .ok (.ifCond .lt 8, 3) := by decide +kernel
theorem dX2_filter_4 : decode cX2_filter 4 = .ok (.iload_n 1, 1) := by decide +kernel
theorem dX2_filter_5 : decode cX2_filter 5 = .ok (.iconst 4, 1) := by decide +kernel
theorem dX2_filter_6 : decode cX2_filter 6 = .ok (.if_icmp .lt 13, 3) := by decide +kernel
theorem dX2_filter_9 : decode cX2_filter 9 = .ok (.new 32, 3) := by decide +kernel
theorem dX2_filter_12 : decode cX2_filter 12 = .ok (.dup, 1) := by decide +kernel
theorem dX2_filter_13 : decode cX2_filter 13 = .ok (.ldc 34, 2) := by decide +kernel
theorem dX2_filter_15 : decode cX2_filter 15 = .ok (.invokespecial 36, 3) := by decide +kernel
theorem dX2_filter_18 : decode cX2_filter 18 = .ok (.athrow, 1) := by decide +kernel
theorem dX2_filter_19 : decode cX2_filter 19 = .ok (.iload_n 2, 1) := by decide +kernel
theorem dX2_filter_20 : decode cX2_filter 20 = .ok (.ifCond .lt 9, 3) := by decide +kernel
theorem dX2_filter_23 : decode cX2_filter 23 = .ok (.iload_n 2, 1) := by decide +kernel
theorem dX2_filter_24 : decode cX2_filter 24 = .ok (.bipush 8, 2) := by decide +kernel
theorem dX2_filter_26 : decode cX2_filter 26 = .ok (.if_icmp .lt 13, 3) := by decide +kernel
theorem dX2_filter_29 : decode cX2_filter 29 = .ok (.new 32, 3) := by decide +kernel
theorem dX2_filter_32 : decode cX2_filter 32 = .ok (.dup, 1) := by decide +kernel
theorem dX2_filter_33 : decode cX2_filter 33 = .ok (.ldc 39, 2) := by decide +kernel
theorem dX2_filter_35 : decode cX2_filter 35 = .ok (.invokespecial 36, 3) := by decide +kernel
theorem dX2_filter_38 : decode cX2_filter 38 = .ok (.athrow, 1) := by decide +kernel
theorem dX2_filter_39 : decode cX2_filter 39 = .ok (.iload_n 3, 1) := by decide +kernel
theorem dX2_filter_40 : decode cX2_filter 40 = .ok (.iconst 1, 1) := by decide +kernel
theorem dX2_filter_41 : decode cX2_filter 41 = .ok (.if_icmp .lt 9, 3) := by decide +kernel
theorem dX2_filter_44 : decode cX2_filter 44 = .ok (.iload_n 3, 1) := by decide +kernel
theorem dX2_filter_45 : decode cX2_filter 45 = .ok (.bipush 32, 2) := by decide +kernel
theorem dX2_filter_47 : decode cX2_filter 47 = .ok (.if_icmp .le 13, 3) := by decide +kernel
theorem dX2_filter_50 : decode cX2_filter 50 = .ok (.new 32, 3) := by decide +kernel
theorem dX2_filter_53 : decode cX2_filter 53 = .ok (.dup, 1) := by decide +kernel
theorem dX2_filter_54 : decode cX2_filter 54 = .ok (.ldc 41, 2) := by decide +kernel
theorem dX2_filter_56 : decode cX2_filter 56 = .ok (.invokespecial 36, 3) := by decide +kernel
theorem dX2_filter_59 : decode cX2_filter 59 = .ok (.athrow, 1) := by decide +kernel
theorem dX2_filter_60 : decode cX2_filter 60 = .ok (.aload_n 0, 1) := by decide +kernel
theorem dX2_filter_61 : decode cX2_filter 61 = .ok (.getfield 11, 3) := by decide +kernel
theorem dX2_filter_64 : decode cX2_filter 64 = .ok (.iload_n 1, 1) := by decide +kernel
theorem dX2_filter_65 : decode cX2_filter 65 = .ok (.aaload, 1) := by decide +kernel
theorem dX2_filter_66 : decode cX2_filter 66 = .ok (.iload_n 2, 1) := by decide +kernel
theorem dX2_filter_67 : decode cX2_filter 67 = .ok (.iload_n 3, 1) := by decide +kernel
theorem dX2_filter_68 : decode cX2_filter 68 = .ok (.invokevirtual 43, 3) := by decide +kernel
theorem dX2_filter_71 : decode cX2_filter 71 = .ok (.aload_n 0, 1) := by decide +kernel
theorem dX2_filter_72 : decode cX2_filter 72 = .ok (.invokevirtual 47, 3) := by decide +kernel
theorem dX2_filter_75 : decode cX2_filter 75 = .ok (.return_, 1) := by decide +kernel
set_option maxRecDepth 20000 in
theorem ggX2_begin_X2_beginAnew : GoodIn wsX2_begin wsX2_beginAnew := goodIn_r _ [7, 8, 9, 10, 11, 1, 2, 12, 13, 14, 15, 16, 17, 18, 19, 20, 21, 22, 23, 24, 25, 26, 27, 28, 29, 30, 31, 32, 33, 34, 35, 36, 37, 38, 39, 40, 41, 42, 43, 44, 45, 46, 47, 48, 49, 50, 51] (by decide +kernel) (by decide +kernel)
set_option maxRecDepth 20000 in
theorem gX2_begin_X2_beginAnew : GoodIn wsX2_begin (wsV RX2 47 RX2 yX2_beginAnew wsX2_beginAnew) := goodIn_app (goodIn_of _ (by decide +kernel)) ggX2_begin_X2_beginAnew
theorem dX2_begin_0 : decode cX2_begin 0 = .ok (.aload_n 0, 1) := by decide +kernel
theorem dX2_begin_1 : decode cX2_begin 1 = .ok (.iload_n 1, 1) := by decide +kernel
theorem dX2_begin_2 : decode cX2_begin 2 = .ok (.putfield 50, 3) := by decide +kernel
theorem dX2_begin_5 : decode cX2_begin 5 = .ok (.aload_n 0, 1) := by decide +kernel
theorem dX2_begin_6 : decode cX2_begin 6 = .ok (.iload_n 2, 1) := by decide +kernel
theorem dX2_begin_7 : decode cX2_begin 7 = .ok (.putfield 28, 3) := by decide +kernel
theorem dX2_begin_10 : decode cX2_begin 10 = .ok (.aload_n 0, 1) := by decide +kernel
theorem dX2_begin_11 : decode cX2_begin 11 = .ok (.invokevirtual 47, 3) := by decide +kernel
theorem dX2_begin_14 : decode cX2_begin 14 = .ok (.return_, 1) := by decide +kernel
set_option maxRecDepth 20000 in
theorem ggX2_feed_X1_add : GoodIn wsX2_feed wsX1_add := goodIn_r _ [13, 14, 15, 157, 158] (by decide +kernel) (by decide +kernel)
set_option maxRecDepth 20000 in
theorem gX2_feed_X1_add : GoodIn wsX2_feed (wsV RX2 68 RX1 yX1_add wsX1_add) := goodIn_app (goodIn_of _ (by decide +kernel)) ggX2_feed_X1_add
set_option maxRecDepth 20000 in
theorem ggX2_feed_X2_sendThroughChain : GoodIn wsX2_feed wsX2_sendThroughChain := goodIn_r _ [20, 21, 22, 7, 8, 23, 24, 25, 26, 27, 28, 29, 30, 31, 32, 33, 34, 35, 36, 12, 37, 15, 38, 39, 40, 41, 14, 42, 43, 44, 45, 46, 47, 48, 49, 50, 51, 52, 53, 54, 55, 56, 57, 58, 59, 60, 61, 62, 63, 64, 65, 66, 67, 68, 69, 70, 71, 72, 73, 74, 75, 76, 77, 78, 79, 80, 81, 82, 83, 84, 85, 86, 87, 88, 89, 90, 91, 92, 93, 94, 95, 96, 97, 98, 99, 100, 101, 102, 103, 104, 105, 106, 107, 108, 109, 110, 111, 112, 113, 114, 115, 116, 117, 118, 119, 120, 121, 122, 123, 124, 125, 126, 127, 128, 129, 130, 131, 132, 133, 134, 135, 136, 137, 138, 139, 140, 141, 142, 143, 144, 145, 146, 147, 148, 149, 150, 151, 152, 153, 154, 155, 156, 159, 160, 161, 162, 163, 164, 165, 166, 167, 168, 169, 157, 158] (by decide +kernel) (by decide +kernel)
set_option maxRecDepth 20000 in
theorem gX2_feed_X2_sendThroughChain : GoodIn wsX2_feed (wsV RX2 71 RX2 yX2_sendThroughChain wsX2_sendThroughChain) := goodIn_app (goodIn_of _ (by decide +kernel)) ggX2_feed_X2_sendThroughChain
set_option maxRecDepth 20000 in
theorem ggX2_feed_X1_size : GoodIn wsX2_feed wsX1_size := goodIn_r _ [37, 15, 157, 158] (by decide +kernel) (by decide +kernel)
set_option maxRecDepth 20000 in
theorem gX2_feed_X1_size : GoodIn wsX2_feed (wsV RX2 75 RX1 yX1_size wsX1_size) := goodIn_app (goodIn_of _ (by decide +kernel)) ggX2_feed_X1_size
theorem dX2_feed_0 : decode cX2_feed 0 = .ok (.iload_n 1, 1) := by decide +kernel
theorem dX2_feed_1 : decode cX2_feed 1 = .ok (.ifCond .lt 9, 3) := by decide +kernel
theorem dX2_feed_4 : decode cX2_feed 4 = .ok (.iload_n 1, 1) := by decide +kernel
theorem dX2_feed_5 : decode cX2_feed 5 = .ok (.bipush 16, 2) := by decide +kernel
theorem dX2_feed_7 : decode cX2_feed 7 = .ok (.if_icmp .le 13, 3) := by decide +kernel
theorem dX2_feed_10 : decode cX2_feed 10 = .ok (.new 32, 3) := by decide +kernel
theorem dX2_feed_13 : decode cX2_feed 13 = .ok (.dup, 1) := by decide +kernel
theorem dX2_feed_14 : decode cX2_feed 14 = .ok (.ldc 54, 2) := by decide +kernel
theorem dX2_feed_16 : decode cX2_feed 16 = .ok (.invokespecial 36, 3) := by decide +kernel
theorem dX2_feed_19 : decode cX2_feed 19 = .ok (.athrow, 1) := by decide +kernel
theorem dX2_feed_20 : decode cX2_feed 20 = .ok (.aload_n 0, 1) := by decide +kernel
theorem dX2_feed_21 : decode cX2_feed 21 = .ok (.getfield 56, 3) := by decide +kernel
theorem dX2_feed_24 : decode cX2_feed 24 = .ok (.ifCond .eq 13, 3) := by decide +kernel
theorem dX2_feed_27 : decode cX2_feed 27 = .ok (.new 59, 3) := by decide +kernel
theorem dX2_feed_30 : decode cX2_feed 30 = .ok (.dup, 1) := by decide +kernel
theorem dX2_feed_31 : decode cX2_feed 31 = .ok (.ldc 61, 2) := by decide +kernel
theorem dX2_feed_33 : decode cX2_feed 33 = .ok (.invokespecial 62, 3) := by decide +kernel
theorem dX2_feed_36 : decode cX2_feed 36 = .ok (.athrow, 1) := by decide +kernel
theorem dX2_feed_37 : decode cX2_feed 37 = .ok (.aload_n 0, 1) := by decide +kernel
theorem dX2_feed_38 : decode cX2_feed 38 = .ok (.getfield 63, 3) := by decide +kernel
theorem dX2_feed_41 : decode cX2_feed 41 = .ok (.iload_n 1, 1) := by decide +kernel
theorem dX2_feed_42 : decode cX2_feed 42 = .ok (.iadd, 1) := by decide +kernel
theorem dX2_feed_43 : decode cX2_feed 43 = .ok (.sipush 2000, 3) := by decide +kernel
theorem dX2_feed_46 : decode cX2_feed 46 = .ok (.if_icmp .le 13, 3) := by decide +kernel
theorem dX2_feed_49 : decode cX2_feed 49 = .ok (.new 59, 3) := by decide +kernel
theorem dX2_feed_52 : decode cX2_feed 52 = .ok (.dup, 1) := by decide +kernel
theorem dX2_feed_53 : decode cX2_feed 53 = .ok (.ldc 66, 2) := by decide +kernel
theorem dX2_feed_55 : decode cX2_feed 55 = .ok (.invokespecial 62, 3) := by decide +kernel
theorem dX2_feed_58 : decode cX2_feed 58 = .ok (.athrow, 1) := by decide +kernel
theorem dX2_feed_59 : decode cX2_feed 59 = .ok (.aload_n 0, 1) := by decide +kernel
theorem dX2_feed_60 : decode cX2_feed 60 = .ok (.dup, 1) := by decide +kernel
theorem dX2_feed_61 : decode cX2_feed 61 = .ok (.getfield 63, 3) := by decide +kernel
theorem dX2_feed_64 : decode cX2_feed 64 = .ok (.iload_n 1, 1) := by decide +kernel
theorem dX2_feed_65 : decode cX2_feed 65 = .ok (.iadd, 1) := by decide +kernel
theorem dX2_feed_66 : decode cX2_feed 66 = .ok (.putfield 63, 3) := by decide +kernel
theorem dX2_feed_69 : decode cX2_feed 69 = .ok (.iconst 0, 1) := by decide +kernel
theorem dX2_feed_70 : decode cX2_feed 70 = .ok (.istore 6, 2) := by decide +kernel
theorem dX2_feed_72 : decode cX2_feed 72 = .ok (.iload 6, 2) := by decide +kernel
theorem dX2_feed_74 : decode cX2_feed 74 = .ok (.iload_n 1, 1) := by decide +kernel
theorem dX2_feed_75 : decode cX2_feed 75 = .ok (.if_icmp .ge 66, 3) := by decide +kernel
theorem dX2_feed_78 : decode cX2_feed 78 = .ok (.iload 6, 2) := by decide +kernel
theorem dX2_feed_80 : decode cX2_feed 80 = .ok (.iconst 4, 1) := by decide +kernel
theorem dX2_feed_81 : decode cX2_feed 81 = .ok (.if_icmp .ge 7, 3) := by decide +kernel
theorem dX2_feed_84 : decode cX2_feed 84 = .ok (.iload_n 2, 1) := by decide +kernel
theorem dX2_feed_85 : decode cX2_feed 85 = .ok (.goto 28, 3) := by decide +kernel
theorem dX2_feed_88 : decode cX2_feed 88 = .ok (.iload 6, 2) := by decide +kernel
theorem dX2_feed_90 : decode cX2_feed 90 = .ok (.bipush 8, 2) := by decide +kernel
theorem dX2_feed_92 : decode cX2_feed 92 = .ok (.if_icmp .ge 7, 3) := by decide +kernel
theorem dX2_feed_95 : decode cX2_feed 95 = .ok (.iload_n 3, 1) := by decide +kernel
theorem dX2_feed_96 : decode cX2_feed 96 = .ok (.goto 17, 3) := by decide +kernel
theorem dX2_feed_99 : decode cX2_feed 99 = .ok (.iload 6, 2) := by decide +kernel
theorem dX2_feed_101 : decode cX2_feed 101 = .ok (.bipush 12, 2) := by decide +kernel
theorem dX2_feed_103 : decode cX2_feed 103 = .ok (.if_icmp .ge 8, 3) := by decide +kernel
theorem dX2_feed_106 : decode cX2_feed 106 = .ok (.iload 4, 2) := by decide +kernel
theorem dX2_feed_108 : decode cX2_feed 108 = .ok (.goto 5, 3) := by decide +kernel
theorem dX2_feed_111 : decode cX2_feed 111 = .ok (.iload 5, 2) := by decide +kernel
theorem dX2_feed_113 : decode cX2_feed 113 = .ok (.istore 7, 2) := by decide +kernel
theorem dX2_feed_115 : decode cX2_feed 115 = .ok (.aload_n 0, 1) := by decide +kernel
theorem dX2_feed_116 : decode cX2_feed 116 = .ok (.getfield 21, 3) := by decide +kernel
theorem dX2_feed_119 : decode cX2_feed 119 = .ok (.iload 7, 2) := by decide +kernel
theorem dX2_feed_121 : decode cX2_feed 121 = .ok (.bipush 24, 2) := by decide +kernel
theorem dX2_feed_123 : decode cX2_feed 123 = .ok (.bipush 8, 2) := by decide +kernel
theorem dX2_feed_125 : decode cX2_feed 125 = .ok (.iload 6, 2) := by decide +kernel
theorem dX2_feed_127 : decode cX2_feed 127 = .ok (.iconst 4, 1) := by decide +kernel
theorem dX2_feed_128 : decode cX2_feed 128 = .ok (.irem, 1) := by decide +kernel
theorem dX2_feed_129 : decode cX2_feed 129 = .ok (.imul, 1) := by decide +kernel
theorem dX2_feed_130 : decode cX2_feed 130 = .ok (.isub, 1) := by decide +kernel
theorem dX2_feed_131 : decode cX2_feed 131 = .ok (.iushr, 1) := by decide +kernel
theorem dX2_feed_132 : decode cX2_feed 132 = .ok (.invokevirtual 68, 3) := by decide +kernel
theorem dX2_feed_135 : decode cX2_feed 135 = .ok (.iinc 6 1, 3) := by decide +kernel
theorem dX2_feed_138 : decode cX2_feed 138 = .ok (.goto (-66), 3) := by decide +kernel
theorem dX2_feed_141 : decode cX2_feed 141 = .ok (.aload_n 0, 1) := by decide +kernel
theorem dX2_feed_142 : decode cX2_feed 142 = .ok (.iconst 0, 1) := by decide +kernel
theorem dX2_feed_143 : decode cX2_feed 143 = .ok (.invokevirtual 71, 3) := by decide +kernel
theorem dX2_feed_146 : decode cX2_feed 146 = .ok (.aload_n 0, 1) := by decide +kernel
theorem dX2_feed_147 : decode cX2_feed 147 = .ok (.getfield 25, 3) := by decide +kernel
theorem dX2_feed_150 : decode cX2_feed 150 = .ok (.invokevirtual 75, 3) := by decide +kernel
theorem dX2_feed_153 : decode cX2_feed 153 = .ok (.ireturn, 1) := by decide +kernel
set_option maxRecDepth 20000 in
theorem ggX2_finish_X2_sendThroughChain : GoodIn wsX2_finish wsX2_sendThroughChain := goodIn_r _ [9, 10, 11, 12, 4, 13, 14, 15, 16, 17, 18, 19, 20, 21, 22, 23, 24, 25, 26, 27, 28, 29, 30, 31, 32, 33, 34, 35, 36, 37, 38, 39, 40, 41, 42, 43, 44, 45, 46, 47, 48, 49, 50, 51, 52, 53, 54, 55, 56, 57, 58, 59, 60, 61, 62, 63, 64, 65, 66, 67, 68, 69, 70, 71, 72, 73, 74, 75, 76, 77, 78, 79, 80, 81, 82, 83, 84, 85, 86, 87, 88, 89, 90, 91, 92, 93, 94, 95, 96, 97, 98, 99, 100, 101, 102, 103, 104, 105, 106, 107, 108, 109, 110, 111, 112, 113, 114, 115, 116, 117, 118, 119, 120, 121, 122, 123, 124, 125, 126, 127, 128, 129, 130, 131, 132, 133, 134, 135, 136, 137, 138, 139, 140, 141, 142, 143, 144, 145, 146, 147, 148, 149, 150, 151, 152, 153, 154, 155, 156, 157, 158, 159, 160, 161, 162] (by decide +kernel) (by decide +kernel)
set_option maxRecDepth 20000 in
theorem gX2_finish_X2_sendThroughChain : GoodIn wsX2_finish (wsV RX2 71 RX2 yX2_sendThroughChain wsX2_sendThroughChain) := goodIn_app (goodIn_of _ (by decide +kernel)) ggX2_finish_X2_sendThroughChain
set_option maxRecDepth 20000 in
theorem ggX2_finish_X1_size : GoodIn wsX2_finish wsX1_size := goodIn_r _ [28, 29, 161, 162] (by decide +kernel) (by decide +kernel)
set_option maxRecDepth 20000 in
theorem gX2_finish_X1_size : GoodIn wsX2_finish (wsV RX2 75 RX1 yX1_size wsX1_size) := goodIn_app (goodIn_of _ (by decide +kernel)) ggX2_finish_X1_size
theorem dX2_finish_0 : decode cX2_finish 0 = .ok (.aload_n 0, 1) := by decide +kernel
theorem dX2_finish_1 : decode cX2_finish 1 = .ok (.getfield 56, 3) := by decide +kernel
theorem dX2_finish_4 : decode cX2_finish 4 = .ok (.ifCond .eq 13, 3) := by decide +kernel
theorem dX2_finish_7 : decode cX2_finish 7 = .ok (.new 59, 3) := by decide +kernel
theorem dX2_finish_10 : decode cX2_finish 10 = .ok (.dup, 1) := by decide +kernel
theorem dX2_finish_11 : decode cX2_finish 11 = .ok (.ldc 61, 2) := by decide +kernel
theorem dX2_finish_13 : decode cX2_finish 13 = .ok (.invokespecial 62, 3) := by decide +kernel
theorem dX2_finish_16 : decode cX2_finish 16 = .ok (.athrow, 1) := by decide +kernel
theorem dX2_finish_17 : decode cX2_finish 17 = .ok (.aload_n 0, 1) := by decide +kernel
theorem dX2_finish_18 : decode cX2_finish 18 = .ok (.iconst 1, 1) := by decide +kernel
theorem dX2_finish_19 : decode cX2_finish 19 = .ok (.putfield 56, 3) := by decide +kernel
theorem dX2_finish_22 : decode cX2_finish 22 = .ok (.aload_n 0, 1) := by decide +kernel
theorem dX2_finish_23 : decode cX2_finish 23 = .ok (.iconst 1, 1) := by decide +kernel
theorem dX2_finish_24 : decode cX2_finish 24 = .ok (.invokevirtual 71, 3) := by decide +kernel
theorem dX2_finish_27 : decode cX2_finish 27 = .ok (.aload_n 0, 1) := by decide +kernel
theorem dX2_finish_28 : decode cX2_finish 28 = .ok (.getfield 25, 3) := by decide +kernel
theorem dX2_finish_31 : decode cX2_finish 31 = .ok (.invokevirtual 75, 3) := by decide +kernel
theorem dX2_finish_34 : decode cX2_finish 34 = .ok (.ireturn, 1) := by decide +kernel
set_option maxRecDepth 20000 in
theorem ggX2_output_X1_size : GoodIn wsX2_output wsX1_size := goodIn_r _ [6, 7, 20, 21] (by decide +kernel) (by decide +kernel)
set_option maxRecDepth 20000 in
theorem gX2_output_X1_size : GoodIn wsX2_output (wsV RX2 75 RX1 yX1_size wsX1_size) := goodIn_app (goodIn_of _ (by decide +kernel)) ggX2_output_X1_size
set_option maxRecDepth 20000 in
theorem ggX2_output_X1_at : GoodIn wsX2_output wsX1_at := goodIn_r _ [11, 12, 20, 21] (by decide +kernel) (by decide +kernel)
set_option maxRecDepth 20000 in
theorem gX2_output_X1_at : GoodIn wsX2_output (wsV RX2 79 RX1 yX1_at wsX1_at) := goodIn_app (goodIn_of _ (by decide +kernel)) ggX2_output_X1_at
theorem dX2_output_0 : decode cX2_output 0 = .ok (.iload_n 1, 1) := by decide +kernel
theorem dX2_output_1 : decode cX2_output 1 = .ok (.ifCond .lt 14, 3) := by decide +kernel
theorem dX2_output_4 : decode cX2_output 4 = .ok (.iload_n 1, 1) := by decide +kernel
theorem dX2_output_5 : decode cX2_output 5 = .ok (.aload_n 0, 1) := by decide +kernel
theorem dX2_output_6 : decode cX2_output 6 = .ok (.getfield 25, 3) := by decide +kernel
theorem dX2_output_9 : decode cX2_output 9 = .ok (.invokevirtual 75, 3) := by decide +kernel
theorem dX2_output_12 : decode cX2_output 12 = .ok (.if_icmp .lt 7, 3) := by decide +kernel
theorem dX2_output_15 : decode cX2_output 15 = .ok (.iconst (-1), 1) := by decide +kernel
theorem dX2_output_16 : decode cX2_output 16 = .ok (.goto 11, 3) := by decide +kernel
theorem dX2_output_19 : decode cX2_output 19 = .ok (.aload_n 0, 1) := by decide +kernel
theorem dX2_output_20 : decode cX2_output 20 = .ok (.getfield 25, 3) := by decide +kernel
theorem dX2_output_23 : decode cX2_output 23 = .ok (.iload_n 1, 1) := by decide +kernel
theorem dX2_output_24 : decode cX2_output 24 = .ok (.invokevirtual 79, 3) := by decide +kernel
theorem dX2_output_27 : decode cX2_output 27 = .ok (.ireturn, 1) := by decide +kernel
set_option maxRecDepth 20000 in
theorem ggX2_count_X1_size : GoodIn wsX2_count wsX1_size := goodIn_r _ [8, 9, 28, 29] (by decide +kernel) (by decide +kernel)
set_option maxRecDepth 20000 in
theorem gX2_count_X1_size : GoodIn wsX2_count (wsV RX2 75 RX1 yX1_size wsX1_size) := goodIn_app (goodIn_of _ (by decide +kernel)) ggX2_count_X1_size
theorem dX2_count_0 : decode cX2_count 0 = .ok (.iload_n 1, 1) := by decide +kernel
theorem dX2_count_1 : decode cX2_count 1 = .ok (.ifCond .lt 8, 3) := by decide +kernel
theorem dX2_count_4 : decode cX2_count 4 = .ok (.iload_n 1, 1) := by decide +kernel
theorem dX2_count_5 : decode cX2_count 5 = .ok (.iconst 4, 1) := by decide +kernel
theorem dX2_count_6 : decode cX2_count 6 = .ok (.if_icmp .lt 13, 3) := by decide +kernel
theorem dX2_count_9 : decode cX2_count 9 = .ok (.new 32, 3) := by decide +kernel
theorem dX2_count_12 : decode cX2_count 12 = .ok (.dup, 1) := by decide +kernel
theorem dX2_count_13 : decode cX2_count 13 = .ok (.ldc 34, 2) := by decide +kernel
theorem dX2_count_15 : decode cX2_count 15 = .ok (.invokespecial 36, 3) := by decide +kernel
theorem dX2_count_18 : decode cX2_count 18 = .ok (.athrow, 1) := by decide +kernel
theorem dX2_count_19 : decode cX2_count 19 = .ok (.aload_n 0, 1) := by decide +kernel
theorem dX2_count_20 : decode cX2_count 20 = .ok (.getfield 11, 3) := by decide +kernel
theorem dX2_count_23 : decode cX2_count 23 = .ok (.iload_n 1, 1) := by decide +kernel
theorem dX2_count_24 : decode cX2_count 24 = .ok (.aaload, 1) := by decide +kernel
theorem dX2_count_25 : decode cX2_count 25 = .ok (.astore_n 3, 1) := by decide +kernel
theorem dX2_count_26 : decode cX2_count 26 = .ok (.iload_n 2, 1) := by decide +kernel
theorem dX2_count_27 : decode cX2_count 27 = .ok (.tableswitch 70 0 5 #[37, 42, 47, 55, 60, 65], 37) := by decide +kernel
theorem dX2_count_64 : decode cX2_count 64 = .ok (.aload_n 3, 1) := by decide +kernel
theorem dX2_count_65 : decode cX2_count 65 = .ok (.getfield 83, 3) := by decide +kernel
theorem dX2_count_68 : decode cX2_count 68 = .ok (.ireturn, 1) := by decide +kernel
theorem dX2_count_69 : decode cX2_count 69 = .ok (.aload_n 3, 1) := by decide +kernel
theorem dX2_count_70 : decode cX2_count 70 = .ok (.getfield 86, 3) := by decide +kernel
theorem dX2_count_73 : decode cX2_count 73 = .ok (.ireturn, 1) := by decide +kernel
theorem dX2_count_74 : decode cX2_count 74 = .ok (.aload_n 3, 1) := by decide +kernel
theorem dX2_count_75 : decode cX2_count 75 = .ok (.getfield 89, 3) := by decide +kernel
theorem dX2_count_78 : decode cX2_count 78 = .ok (.invokevirtual 75, 3) := by decide +kernel
theorem dX2_count_81 : decode cX2_count 81 = .ok (.ireturn, 1) := by decide +kernel
theorem dX2_count_82 : decode cX2_count 82 = .ok (.aload_n 3, 1) := by decide +kernel
theorem dX2_count_83 : decode cX2_count 83 = .ok (.getfield 92, 3) := by decide +kernel
theorem dX2_count_86 : decode cX2_count 86 = .ok (.ireturn, 1) := by decide +kernel
theorem dX2_count_87 : decode cX2_count 87 = .ok (.aload_n 3, 1) := by decide +kernel
theorem dX2_count_88 : decode cX2_count 88 = .ok (.getfield 95, 3) := by decide +kernel
theorem dX2_count_91 : decode cX2_count 91 = .ok (.ireturn, 1) := by decide +kernel
theorem dX2_count_92 : decode cX2_count 92 = .ok (.aload_n 3, 1) := by decide +kernel
theorem dX2_count_93 : decode cX2_count 93 = .ok (.getfield 98, 3) := by decide +kernel
theorem dX2_count_96 : decode cX2_count 96 = .ok (.ireturn, 1) := by decide +kernel
theorem dX2_count_97 : decode cX2_count 97 = .ok (.new 32, 3) := by decide +kernel
theorem dX2_count_100 : decode cX2_count 100 = .ok (.dup, 1) := by decide +kernel
theorem dX2_count_101 : decode cX2_count 101 = .ok (.ldc 101, 2) := by decide +kernel
theorem dX2_count_103 : decode cX2_count 103 = .ok (.invokespecial 36, 3) := by decide +kernel
theorem dX2_count_106 : decode cX2_count 106 = .ok (.athrow, 1) := by decide +kernel
set_option maxRecDepth 20000 in
theorem ggX2_word_X1_size : GoodIn wsX2_word wsX1_size := goodIn_r _ [8, 9, 22, 23] (by decide +kernel) (by decide +kernel)
set_option maxRecDepth 20000 in
theorem gX2_word_X1_size : GoodIn wsX2_word (wsV RX2 75 RX1 yX1_size wsX1_size) := goodIn_app (goodIn_of _ (by decide +kernel)) ggX2_word_X1_size
set_option maxRecDepth 20000 in
theorem ggX2_word_X1_lowestFirst : GoodIn wsX2_word wsX1_lowestFirst := goodIn_r _ [13, 14, 22, 23] (by decide +kernel) (by decide +kernel)
set_option maxRecDepth 20000 in
theorem gX2_word_X1_lowestFirst : GoodIn wsX2_word (wsV RX2 108 RX1 yX1_lowestFirst wsX1_lowestFirst) := goodIn_app (goodIn_of _ (by decide +kernel)) ggX2_word_X1_lowestFirst
theorem dX2_word_0 : decode cX2_word 0 = .ok (.iload_n 1, 1) := by decide +kernel
theorem dX2_word_1 : decode cX2_word 1 = .ok (.ifCond .lt 16, 3) := by decide +kernel
theorem dX2_word_4 : decode cX2_word 4 = .ok (.iload_n 1, 1) := by decide +kernel
theorem dX2_word_5 : decode cX2_word 5 = .ok (.aload_n 0, 1) := by decide +kernel
theorem dX2_word_6 : decode cX2_word 6 = .ok (.getfield 25, 3) := by decide +kernel
theorem dX2_word_9 : decode cX2_word 9 = .ok (.invokevirtual 75, 3) := by decide +kernel
theorem dX2_word_12 : decode cX2_word 12 = .ok (.iconst 4, 1) := by decide +kernel
theorem dX2_word_13 : decode cX2_word 13 = .ok (.isub, 1) := by decide +kernel
theorem dX2_word_14 : decode cX2_word 14 = .ok (.if_icmp .le 13, 3) := by decide +kernel
theorem dX2_word_17 : decode cX2_word 17 = .ok (.new 103, 3) := by decide +kernel
theorem dX2_word_20 : decode cX2_word 20 = .ok (.dup, 1) := by decide +kernel
theorem dX2_word_21 : decode cX2_word 21 = .ok (.ldc 105, 2) := by decide +kernel
theorem dX2_word_23 : decode cX2_word 23 = .ok (.invokespecial 107, 3) := by decide +kernel
theorem dX2_word_26 : decode cX2_word 26 = .ok (.athrow, 1) := by decide +kernel
theorem dX2_word_27 : decode cX2_word 27 = .ok (.aload_n 0, 1) := by decide +kernel
theorem dX2_word_28 : decode cX2_word 28 = .ok (.getfield 25, 3) := by decide +kernel
theorem dX2_word_31 : decode cX2_word 31 = .ok (.iload_n 1, 1) := by decide +kernel
theorem dX2_word_32 : decode cX2_word 32 = .ok (.invokevirtual 108, 3) := by decide +kernel
theorem dX2_word_35 : decode cX2_word 35 = .ok (.ireturn, 1) := by decide +kernel
set_option maxRecDepth 20000 in
theorem ggX2_beginAnew_X1_clear : GoodIn wsX2_beginAnew wsX1_clear := goodIn_r _ [11, 12, 34, 35] (by decide +kernel) (by decide +kernel)
set_option maxRecDepth 20000 in
theorem gX2_beginAnew_X1_clear : GoodIn wsX2_beginAnew (wsV RX2 111 RX1 yX1_clear wsX1_clear) := goodIn_app (goodIn_of _ (by decide +kernel)) ggX2_beginAnew_X1_clear
set_option maxRecDepth 20000 in
theorem ggX2_beginAnew_X0_restart : GoodIn wsX2_beginAnew wsX0_restart := goodIn_r _ [17, 18, 19, 20, 21, 22, 23, 24, 25, 26, 8, 9, 10, 11, 12, 36, 37, 38, 39, 40, 41, 42, 43, 44, 45, 46, 34, 35] (by decide +kernel) (by decide +kernel)
set_option maxRecDepth 20000 in
theorem gX2_beginAnew_X0_restart : GoodIn wsX2_beginAnew (wsV RX2 114 RX0 yX0_restart wsX0_restart) := goodIn_app (goodIn_of _ (by decide +kernel)) ggX2_beginAnew_X0_restart
theorem dX2_beginAnew_0 : decode cX2_beginAnew 0 = .ok (.aload_n 0, 1) := by decide +kernel
theorem dX2_beginAnew_1 : decode cX2_beginAnew 1 = .ok (.getfield 25, 3) := by decide +kernel
theorem dX2_beginAnew_4 : decode cX2_beginAnew 4 = .ok (.invokevirtual 111, 3) := by decide +kernel
theorem dX2_beginAnew_7 : decode cX2_beginAnew 7 = .ok (.aload_n 0, 1) := by decide +kernel
theorem dX2_beginAnew_8 : decode cX2_beginAnew 8 = .ok (.iconst 0, 1) := by decide +kernel
theorem dX2_beginAnew_9 : decode cX2_beginAnew 9 = .ok (.putfield 56, 3) := by decide +kernel
theorem dX2_beginAnew_12 : decode cX2_beginAnew 12 = .ok (.aload_n 0, 1) := by decide +kernel
theorem dX2_beginAnew_13 : decode cX2_beginAnew 13 = .ok (.iconst 0, 1) := by decide +kernel
theorem dX2_beginAnew_14 : decode cX2_beginAnew 14 = .ok (.putfield 63, 3) := by decide +kernel
theorem dX2_beginAnew_17 : decode cX2_beginAnew 17 = .ok (.iconst 0, 1) := by decide +kernel
theorem dX2_beginAnew_18 : decode cX2_beginAnew 18 = .ok (.istore_n 1, 1) := by decide +kernel
theorem dX2_beginAnew_19 : decode cX2_beginAnew 19 = .ok (.iload_n 1, 1) := by decide +kernel
theorem dX2_beginAnew_20 : decode cX2_beginAnew 20 = .ok (.iconst 4, 1) := by decide +kernel
theorem dX2_beginAnew_21 : decode cX2_beginAnew 21 = .ok (.if_icmp .ge 26, 3) := by decide +kernel
theorem dX2_beginAnew_24 : decode cX2_beginAnew 24 = .ok (.aload_n 0, 1) := by decide +kernel
theorem dX2_beginAnew_25 : decode cX2_beginAnew 25 = .ok (.getfield 11, 3) := by decide +kernel
theorem dX2_beginAnew_28 : decode cX2_beginAnew 28 = .ok (.iload_n 1, 1) := by decide +kernel
theorem dX2_beginAnew_29 : decode cX2_beginAnew 29 = .ok (.aaload, 1) := by decide +kernel
theorem dX2_beginAnew_30 : decode cX2_beginAnew 30 = .ok (.aload_n 0, 1) := by decide +kernel
theorem dX2_beginAnew_31 : decode cX2_beginAnew 31 = .ok (.getfield 50, 3) := by decide +kernel
theorem dX2_beginAnew_34 : decode cX2_beginAnew 34 = .ok (.aload_n 0, 1) := by decide +kernel
theorem dX2_beginAnew_35 : decode cX2_beginAnew 35 = .ok (.getfield 28, 3) := by decide +kernel
theorem dX2_beginAnew_38 : decode cX2_beginAnew 38 = .ok (.invokevirtual 114, 3) := by decide +kernel
theorem dX2_beginAnew_41 : decode cX2_beginAnew 41 = .ok (.iinc 1 1, 3) := by decide +kernel
theorem dX2_beginAnew_44 : decode cX2_beginAnew 44 = .ok (.goto (-25), 3) := by decide +kernel
theorem dX2_beginAnew_47 : decode cX2_beginAnew 47 = .ok (.return_, 1) := by decide +kernel
set_option maxRecDepth 20000 in
theorem ggX2_sendThroughChain_X0_pass : GoodIn wsX2_sendThroughChain wsX0_pass := goodIn_r _ [9, 10, 11, 12, 13, 14, 15, 16, 17, 18, 19, 20, 21, 22, 23, 24, 25, 26, 27, 28, 29, 30, 31, 32, 33, 8, 34, 35, 36, 37, 38, 39, 40, 41, 42, 43, 44, 45, 46, 47, 48, 49, 50, 51, 52, 53, 54, 55, 56, 57, 58, 59, 60, 61, 62, 63, 64, 65, 66, 67, 68, 69, 70, 71, 72, 73, 74, 75, 76, 77, 78, 79, 80, 81, 82, 83, 84, 85, 86, 87, 88, 89, 90, 91, 92, 93, 94, 95, 96, 97, 98, 99, 100, 101, 102, 103, 104, 105, 106, 107, 108, 109, 110, 111, 112, 113, 114, 115, 116, 117, 118, 119, 120, 121, 122, 123, 124, 125, 126, 127, 128, 142, 143, 144, 145, 146, 147, 148, 149, 150, 151, 152, 153, 154] (by decide +kernel) (by decide +kernel)
set_option maxRecDepth 20000 in
theorem gX2_sendThroughChain_X0_pass : GoodIn wsX2_sendThroughChain (wsV RX2 118 RX0 yX0_pass wsX0_pass) := goodIn_app (goodIn_of _ (by decide +kernel)) ggX2_sendThroughChain_X0_pass
set_option maxRecDepth 20000 in
theorem ggX2_sendThroughChain_X0_giveRest : GoodIn wsX2_sendThroughChain wsX0_giveRest := goodIn_r _ [132, 10, 14, 15, 16, 17, 18, 19, 20, 21, 22, 23, 24, 25, 26, 27, 28, 29, 30, 142, 143, 144, 145, 146, 147, 148, 149, 150, 151, 152, 153, 154] (by decide +kernel) (by decide +kernel)
set_option maxRecDepth 20000 in
theorem gX2_sendThroughChain_X0_giveRest : GoodIn wsX2_sendThroughChain (wsV RX2 122 RX0 yX0_giveRest wsX0_giveRest) := goodIn_app (goodIn_of _ (by decide +kernel)) ggX2_sendThroughChain_X0_giveRest
set_option maxRecDepth 20000 in
theorem ggX2_sendThroughChain_X1_size : GoodIn wsX2_sendThroughChain wsX1_size := goodIn_r _ [20, 21, 153, 154] (by decide +kernel) (by decide +kernel)
set_option maxRecDepth 20000 in
theorem gX2_sendThroughChain_X1_size : GoodIn wsX2_sendThroughChain (wsV RX2 75 RX1 yX1_size wsX1_size) := goodIn_app (goodIn_of _ (by decide +kernel)) ggX2_sendThroughChain_X1_size
set_option maxRecDepth 20000 in
theorem ggX2_sendThroughChain_X1_moveTo : GoodIn wsX2_sendThroughChain wsX1_moveTo := goodIn_r _ [25, 26, 21, 27, 28, 29, 30, 153, 154] (by decide +kernel) (by decide +kernel)
set_option maxRecDepth 20000 in
theorem gX2_sendThroughChain_X1_moveTo : GoodIn wsX2_sendThroughChain (wsV RX2 125 RX1 yX1_moveTo wsX1_moveTo) := goodIn_app (goodIn_of _ (by decide +kernel)) ggX2_sendThroughChain_X1_moveTo
theorem dX2_sendThroughChain_0 : decode cX2_sendThroughChain 0 = .ok (.iconst 0, 1) := by decide +kernel
theorem dX2_sendThroughChain_1 : decode cX2_sendThroughChain 1 = .ok (.istore_n 2, 1) := by decide +kernel
theorem dX2_sendThroughChain_2 : decode cX2_sendThroughChain 2 = .ok (.iload_n 2, 1) := by decide +kernel
theorem dX2_sendThroughChain_3 : decode cX2_sendThroughChain 3 = .ok (.iconst 4, 1) := by decide +kernel
theorem dX2_sendThroughChain_4 : decode cX2_sendThroughChain 4 = .ok (.if_icmp .ge 49, 3) := by decide +kernel
theorem dX2_sendThroughChain_7 : decode cX2_sendThroughChain 7 = .ok (.aload_n 0, 1) := by decide +kernel
theorem dX2_sendThroughChain_8 : decode cX2_sendThroughChain 8 = .ok (.getfield 11, 3) := by decide +kernel
theorem dX2_sendThroughChain_11 : decode cX2_sendThroughChain 11 = .ok (.aload_n 0, 1) := by decide +kernel
theorem dX2_sendThroughChain_12 : decode cX2_sendThroughChain 12 = .ok (.getfield 28, 3) := by decide +kernel
theorem dX2_sendThroughChain_15 : decode cX2_sendThroughChain 15 = .ok (.ifCond .eq 7, 3) := by decide +kernel
theorem dX2_sendThroughChain_18 : decode cX2_sendThroughChain 18 = .ok (.iload_n 2, 1) := by decide +kernel
theorem dX2_sendThroughChain_19 : decode cX2_sendThroughChain 19 = .ok (.goto 6, 3) := by decide +kernel
theorem dX2_sendThroughChain_22 : decode cX2_sendThroughChain 22 = .ok (.iconst 3, 1) := by decide +kernel
theorem dX2_sendThroughChain_23 : decode cX2_sendThroughChain 23 = .ok (.iload_n 2, 1) := by decide +kernel
theorem dX2_sendThroughChain_24 : decode cX2_sendThroughChain 24 = .ok (.isub, 1) := by decide +kernel
theorem dX2_sendThroughChain_25 : decode cX2_sendThroughChain 25 = .ok (.aaload, 1) := by decide +kernel
theorem dX2_sendThroughChain_26 : decode cX2_sendThroughChain 26 = .ok (.astore_n 3, 1) := by decide +kernel
theorem dX2_sendThroughChain_27 : decode cX2_sendThroughChain 27 = .ok (.aload_n 3, 1) := by decide +kernel
theorem dX2_sendThroughChain_28 : decode cX2_sendThroughChain 28 = .ok (.aload_n 0, 1) := by decide +kernel
theorem dX2_sendThroughChain_29 : decode cX2_sendThroughChain 29 = .ok (.getfield 21, 3) := by decide +kernel
theorem dX2_sendThroughChain_32 : decode cX2_sendThroughChain 32 = .ok (.invokevirtual 118, 3) := by decide +kernel
theorem dX2_sendThroughChain_35 : decode cX2_sendThroughChain 35 = .ok (.iload_n 1, 1) := by decide +kernel
theorem dX2_sendThroughChain_36 : decode cX2_sendThroughChain 36 = .ok (.ifCond .eq 11, 3) := by decide +kernel
theorem dX2_sendThroughChain_39 : decode cX2_sendThroughChain 39 = .ok (.aload_n 3, 1) := by decide +kernel
theorem dX2_sendThroughChain_40 : decode cX2_sendThroughChain 40 = .ok (.aload_n 0, 1) := by decide +kernel
theorem dX2_sendThroughChain_41 : decode cX2_sendThroughChain 41 = .ok (.getfield 21, 3) := by decide +kernel
theorem dX2_sendThroughChain_44 : decode cX2_sendThroughChain 44 = .ok (.invokevirtual 122, 3) := by decide +kernel
theorem dX2_sendThroughChain_47 : decode cX2_sendThroughChain 47 = .ok (.iinc 2 1, 3) := by decide +kernel
theorem dX2_sendThroughChain_50 : decode cX2_sendThroughChain 50 = .ok (.goto (-48), 3) := by decide +kernel
theorem dX2_sendThroughChain_53 : decode cX2_sendThroughChain 53 = .ok (.aload_n 0, 1) := by decide +kernel
theorem dX2_sendThroughChain_54 : decode cX2_sendThroughChain 54 = .ok (.getfield 21, 3) := by decide +kernel
theorem dX2_sendThroughChain_57 : decode cX2_sendThroughChain 57 = .ok (.aload_n 0, 1) := by decide +kernel
theorem dX2_sendThroughChain_58 : decode cX2_sendThroughChain 58 = .ok (.getfield 25, 3) := by decide +kernel
theorem dX2_sendThroughChain_61 : decode cX2_sendThroughChain 61 = .ok (.aload_n 0, 1) := by decide +kernel
theorem dX2_sendThroughChain_62 : decode cX2_sendThroughChain 62 = .ok (.getfield 21, 3) := by decide +kernel
theorem dX2_sendThroughChain_65 : decode cX2_sendThroughChain 65 = .ok (.invokevirtual 75, 3) := by decide +kernel
theorem dX2_sendThroughChain_68 : decode cX2_sendThroughChain 68 = .ok (.invokevirtual 125, 3) := by decide +kernel
theorem dX2_sendThroughChain_71 : decode cX2_sendThroughChain 71 = .ok (.return_, 1) := by decide +kernel
set_option maxRecDepth 20000 in
theorem ggX3_init_X3_anew : GoodIn wsX3_init wsX3_anew := goodIn_r _ [22, 23, 24, 25, 9, 11, 12, 13, 14, 26, 10, 27, 28, 29, 30, 31, 32, 33, 34, 35, 36, 37, 38, 39, 40, 41, 42, 43, 44, 45, 46] (by decide +kernel) (by decide +kernel)
set_option maxRecDepth 20000 in
theorem gX3_init_X3_anew : GoodIn wsX3_init (wsV RX3 50 RX3 yX3_anew wsX3_anew) := goodIn_app (goodIn_of _ (by decide +kernel)) ggX3_init_X3_anew
theorem dX3_init_0 : decode cX3_init 0 = .ok (.aload_n 0, 1) := by decide +kernel
theorem dX3_init_1 : decode cX3_init 1 = .ok (.invokespecial 1, 3) := by decide +kernel
theorem dX3_init_4 : decode cX3_init 4 = .ok (.aload_n 0, 1) := by decide +kernel
theorem dX3_init_5 : decode cX3_init 5 = .ok (.iconst 4, 1) := by decide +kernel
theorem dX3_init_6 : decode cX3_init 6 = .ok (.newarray .int, 2) := by decide +kernel
theorem dX3_init_8 : decode cX3_init 8 = .ok (.putfield 7, 3) := by decide +kernel
theorem dX3_init_11 : decode cX3_init 11 = .ok (.aload_n 0, 1) := by decide +kernel
theorem dX3_init_12 : decode cX3_init 12 = .ok (.iconst 4, 1) := by decide +kernel
theorem dX3_init_13 : decode cX3_init 13 = .ok (.newarray .int, 2) := by decide +kernel
theorem dX3_init_15 : decode cX3_init 15 = .ok (.putfield 13, 3) := by decide +kernel
theorem dX3_init_18 : decode cX3_init 18 = .ok (.aload_n 0, 1) := by decide +kernel
theorem dX3_init_19 : decode cX3_init 19 = .ok (.iconst 1, 1) := by decide +kernel
theorem dX3_init_20 : decode cX3_init 20 = .ok (.putfield 16, 3) := by decide +kernel
theorem dX3_init_23 : decode cX3_init 23 = .ok (.aload_n 0, 1) := by decide +kernel
theorem dX3_init_24 : decode cX3_init 24 = .ok (.bipush 64, 2) := by decide +kernel
theorem dX3_init_26 : decode cX3_init 26 = .ok (.newarray .int, 2) := by decide +kernel
theorem dX3_init_28 : decode cX3_init 28 = .ok (.putfield 20, 3) := by decide +kernel
theorem dX3_init_31 : decode cX3_init 31 = .ok (.aload_n 0, 1) := by decide +kernel
theorem dX3_init_32 : decode cX3_init 32 = .ok (.iconst 4, 1) := by decide +kernel
theorem dX3_init_33 : decode cX3_init 33 = .ok (.newarray .int, 2) := by decide +kernel
theorem dX3_init_35 : decode cX3_init 35 = .ok (.putfield 23, 3) := by decide +kernel
theorem dX3_init_38 : decode cX3_init 38 = .ok (.aload_n 0, 1) := by decide +kernel
theorem dX3_init_39 : decode cX3_init 39 = .ok (.sipush 128, 3) := by decide +kernel
theorem dX3_init_42 : decode cX3_init 42 = .ok (.newarray .int, 2) := by decide +kernel
theorem dX3_init_44 : decode cX3_init 44 = .ok (.putfield 26, 3) := by decide +kernel
theorem dX3_init_47 : decode cX3_init 47 = .ok (.aload_n 0, 1) := by decide +kernel
theorem dX3_init_48 : decode cX3_init 48 = .ok (.iconst 4, 1) := by decide +kernel
theorem dX3_init_49 : decode cX3_init 49 = .ok (.newarray .int, 2) := by decide +kernel
theorem dX3_init_51 : decode cX3_init 51 = .ok (.putfield 29, 3) := by decide +kernel
theorem dX3_init_54 : decode cX3_init 54 = .ok (.aload_n 0, 1) := by decide +kernel
theorem dX3_init_55 : decode cX3_init 55 = .ok (.iconst 4, 1) := by decide +kernel
theorem dX3_init_56 : decode cX3_init 56 = .ok (.newarray .int, 2) := by decide +kernel
theorem dX3_init_58 : decode cX3_init 58 = .ok (.putfield 32, 3) := by decide +kernel
theorem dX3_init_61 : decode cX3_init 61 = .ok (.aload_n 0, 1) := by decide +kernel
theorem dX3_init_62 : decode cX3_init 62 = .ok (.iconst 4, 1) := by decide +kernel
theorem dX3_init_63 : decode cX3_init 63 = .ok (.newarray .int, 2) := by decide +kernel
theorem dX3_init_65 : decode cX3_init 65 = .ok (.putfield 35, 3) := by decide +kernel
theorem dX3_init_68 : decode cX3_init 68 = .ok (.aload_n 0, 1) := by decide +kernel
theorem dX3_init_69 : decode cX3_init 69 = .ok (.iconst 4, 1) := by decide +kernel
theorem dX3_init_70 : decode cX3_init 70 = .ok (.newarray .int, 2) := by decide +kernel
theorem dX3_init_72 : decode cX3_init 72 = .ok (.putfield 38, 3) := by decide +kernel
theorem dX3_init_75 : decode cX3_init 75 = .ok (.aload_n 0, 1) := by decide +kernel
theorem dX3_init_76 : decode cX3_init 76 = .ok (.bipush 64, 2) := by decide +kernel
theorem dX3_init_78 : decode cX3_init 78 = .ok (.newarray .int, 2) := by decide +kernel
theorem dX3_init_80 : decode cX3_init 80 = .ok (.putfield 41, 3) := by decide +kernel
theorem dX3_init_83 : decode cX3_init 83 = .ok (.aload_n 0, 1) := by decide +kernel
theorem dX3_init_84 : decode cX3_init 84 = .ok (.bipush 64, 2) := by decide +kernel
theorem dX3_init_86 : decode cX3_init 86 = .ok (.newarray .int, 2) := by decide +kernel
theorem dX3_init_88 : decode cX3_init 88 = .ok (.putfield 44, 3) := by decide +kernel
theorem dX3_init_91 : decode cX3_init 91 = .ok (.aload_n 0, 1) := by decide +kernel
theorem dX3_init_92 : decode cX3_init 92 = .ok (.sipush 2000, 3) := by decide +kernel
theorem dX3_init_95 : decode cX3_init 95 = .ok (.newarray .int, 2) := by decide +kernel
theorem dX3_init_97 : decode cX3_init 97 = .ok (.putfield 47, 3) := by decide +kernel
theorem dX3_init_100 : decode cX3_init 100 = .ok (.iconst 0, 1) := by decide +kernel
theorem dX3_init_101 : decode cX3_init 101 = .ok (.istore_n 1, 1) := by decide +kernel
theorem dX3_init_102 : decode cX3_init 102 = .ok (.iload_n 1, 1) := by decide +kernel
theorem dX3_init_103 : decode cX3_init 103 = .ok (.iconst 4, 1) := by decide +kernel
theorem dX3_init_104 : decode cX3_init 104 = .ok (.if_icmp .ge 16, 3) := by decide +kernel
theorem dX3_init_107 : decode cX3_init 107 = .ok (.aload_n 0, 1) := by decide +kernel
theorem dX3_init_108 : decode cX3_init 108 = .ok (.getfield 13, 3) := by decide +kernel
theorem dX3_init_111 : decode cX3_init 111 = .ok (.iload_n 1, 1) := by decide +kernel
theorem dX3_init_112 : decode cX3_init 112 = .ok (.iconst 1, 1) := by decide +kernel
theorem dX3_init_113 : decode cX3_init 113 = .ok (.iastore, 1) := by decide +kernel
theorem dX3_init_114 : decode cX3_init 114 = .ok (.iinc 1 1, 3) := by decide +kernel
theorem dX3_init_117 : decode cX3_init 117 = .ok (.goto (-15), 3) := by decide +kernel
theorem dX3_init_120 : decode cX3_init 120 = .ok (.aload_n 0, 1) := by decide +kernel
theorem dX3_init_121 : decode cX3_init 121 = .ok (.invokevirtual 50, 3) := by decide +kernel
theorem dX3_init_124 : decode cX3_init 124 = .ok (.return_, 1) := by decide +kernel
theorem dX3_thrown_0 : decode cX3_thrown 0 = .ok (.aload_n 0, 1) := by decide +kernel
theorem dX3_thrown_1 : decode cX3_thrown 1 = .ok (.getfield 53, 3) := by decide +kernel
theorem dX3_thrown_4 : decode cX3_thrown 4 = .ok (.ireturn, 1) := by decide +kernel
theorem dX3_refused_0 : decode cX3_refused 0 = .ok (.aload_n 0, 1) := by decide +kernel
theorem dX3_refused_1 : decode cX3_refused 1 = .ok (.iload_n 1, 1) := by decide +kernel
theorem dX3_refused_2 : decode cX3_refused 2 = .ok (.putfield 53, 3) := by decide +kernel
theorem dX3_refused_5 : decode cX3_refused 5 = .ok (.iload_n 1, 1) := by decide +kernel
theorem dX3_refused_6 : decode cX3_refused 6 = .ok (.ifCond .le 7, 3) := by decide +kernel
theorem dX3_refused_9 : decode cX3_refused 9 = .ok (.iconst 1, 1) := by decide +kernel
theorem dX3_refused_10 : decode cX3_refused 10 = .ok (.goto 4, 3) := by decide +kernel
theorem dX3_refused_13 : decode cX3_refused 13 = .ok (.iconst 0, 1) := by decide +kernel
theorem dX3_refused_14 : decode cX3_refused 14 = .ok (.ireturn, 1) := by decide +kernel
theorem dX3_isIn_0 : decode cX3_isIn 0 = .ok (.iload_n 0, 1) := by decide +kernel
theorem dX3_isIn_1 : decode cX3_isIn 1 = .ok (.iload_n 1, 1) := by decide +kernel
theorem dX3_isIn_2 : decode cX3_isIn 2 = .ok (.if_icmp .lt 12, 3) := by decide +kernel
theorem dX3_isIn_5 : decode cX3_isIn 5 = .ok (.iload_n 0, 1) := by decide +kernel
theorem dX3_isIn_6 : decode cX3_isIn 6 = .ok (.iload_n 2, 1) := by decide +kernel
theorem dX3_isIn_7 : decode cX3_isIn 7 = .ok (.if_icmp .gt 7, 3) := by decide +kernel
theorem dX3_isIn_10 : decode cX3_isIn 10 = .ok (.iconst 1, 1) := by decide +kernel
theorem dX3_isIn_11 : decode cX3_isIn 11 = .ok (.goto 4, 3) := by decide +kernel
theorem dX3_isIn_14 : decode cX3_isIn 14 = .ok (.iconst 0, 1) := by decide +kernel
theorem dX3_isIn_15 : decode cX3_isIn 15 = .ok (.ireturn, 1) := by decide +kernel
theorem dX3_anew_0 : decode cX3_anew 0 = .ok (.aload_n 0, 1) := by decide +kernel
theorem dX3_anew_1 : decode cX3_anew 1 = .ok (.iconst 0, 1) := by decide +kernel
theorem dX3_anew_2 : decode cX3_anew 2 = .ok (.putfield 57, 3) := by decide +kernel
theorem dX3_anew_5 : decode cX3_anew 5 = .ok (.aload_n 0, 1) := by decide +kernel
theorem dX3_anew_6 : decode cX3_anew 6 = .ok (.iconst 0, 1) := by decide +kernel
theorem dX3_anew_7 : decode cX3_anew 7 = .ok (.putfield 60, 3) := by decide +kernel
theorem dX3_anew_10 : decode cX3_anew 10 = .ok (.aload_n 0, 1) := by decide +kernel
theorem dX3_anew_11 : decode cX3_anew 11 = .ok (.iconst 0, 1) := by decide +kernel
theorem dX3_anew_12 : decode cX3_anew 12 = .ok (.putfield 63, 3) := by decide +kernel
theorem dX3_anew_15 : decode cX3_anew 15 = .ok (.iconst 0, 1) := by decide +kernel
theorem dX3_anew_16 : decode cX3_anew 16 = .ok (.istore_n 1, 1) := by decide +kernel
theorem dX3_anew_17 : decode cX3_anew 17 = .ok (.iload_n 1, 1) := by decide +kernel
theorem dX3_anew_18 : decode cX3_anew 18 = .ok (.iconst 4, 1) := by decide +kernel
theorem dX3_anew_19 : decode cX3_anew 19 = .ok (.if_icmp .ge 49, 3) := by decide +kernel
theorem dX3_anew_22 : decode cX3_anew 22 = .ok (.aload_n 0, 1) := by decide +kernel
theorem dX3_anew_23 : decode cX3_anew 23 = .ok (.getfield 23, 3) := by decide +kernel
theorem dX3_anew_26 : decode cX3_anew 26 = .ok (.iload_n 1, 1) := by decide +kernel
theorem dX3_anew_27 : decode cX3_anew 27 = .ok (.iconst 0, 1) := by decide +kernel
theorem dX3_anew_28 : decode cX3_anew 28 = .ok (.iastore, 1) := by decide +kernel
theorem dX3_anew_29 : decode cX3_anew 29 = .ok (.aload_n 0, 1) := by decide +kernel
theorem dX3_anew_30 : decode cX3_anew 30 = .ok (.getfield 29, 3) := by decide +kernel
theorem dX3_anew_33 : decode cX3_anew 33 = .ok (.iload_n 1, 1) := by decide +kernel
theorem dX3_anew_34 : decode cX3_anew 34 = .ok (.iconst 0, 1) := by decide +kernel
theorem dX3_anew_35 : decode cX3_anew 35 = .ok (.iastore, 1) := by decide +kernel
theorem dX3_anew_36 : decode cX3_anew 36 = .ok (.aload_n 0, 1) := by decide +kernel
theorem dX3_anew_37 : decode cX3_anew 37 = .ok (.getfield 32, 3) := by decide +kernel
theorem dX3_anew_40 : decode cX3_anew 40 = .ok (.iload_n 1, 1) := by decide +kernel
theorem dX3_anew_41 : decode cX3_anew 41 = .ok (.iconst 0, 1) := by decide +kernel
theorem dX3_anew_42 : decode cX3_anew 42 = .ok (.iastore, 1) := by decide +kernel
theorem dX3_anew_43 : decode cX3_anew 43 = .ok (.aload_n 0, 1) := by decide +kernel
theorem dX3_anew_44 : decode cX3_anew 44 = .ok (.getfield 35, 3) := by decide +kernel
theorem dX3_anew_47 : decode cX3_anew 47 = .ok (.iload_n 1, 1) := by decide +kernel
theorem dX3_anew_48 : decode cX3_anew 48 = .ok (.iconst 0, 1) := by decide +kernel
theorem dX3_anew_49 : decode cX3_anew 49 = .ok (.iastore, 1) := by decide +kernel
theorem dX3_anew_50 : decode cX3_anew 50 = .ok (.aload_n 0, 1) := by decide +kernel
theorem dX3_anew_51 : decode cX3_anew 51 = .ok (.getfield 38, 3) := by decide +kernel
theorem dX3_anew_54 : decode cX3_anew 54 = .ok (.iload_n 1, 1) := by decide +kernel
theorem dX3_anew_55 : decode cX3_anew 55 = .ok (.aload_n 0, 1) := by decide +kernel
theorem dX3_anew_56 : decode cX3_anew 56 = .ok (.getfield 66, 3) := by decide +kernel
theorem dX3_anew_59 : decode cX3_anew 59 = .ok (.iconst 5, 1) := by decide +kernel
theorem dX3_anew_60 : decode cX3_anew 60 = .ok (.isub, 1) := by decide +kernel
theorem dX3_anew_61 : decode cX3_anew 61 = .ok (.iastore, 1) := by decide +kernel
theorem dX3_anew_62 : decode cX3_anew 62 = .ok (.iinc 1 1, 3) := by decide +kernel
theorem dX3_anew_65 : decode cX3_anew 65 = .ok (.goto (-48), 3) := by decide +kernel
theorem dX3_anew_68 : decode cX3_anew 68 = .ok (.iconst 0, 1) := by decide +kernel
theorem dX3_anew_69 : decode cX3_anew 69 = .ok (.istore_n 1, 1) := by decide +kernel
theorem dX3_anew_70 : decode cX3_anew 70 = .ok (.iload_n 1, 1) := by decide +kernel
theorem dX3_anew_71 : decode cX3_anew 71 = .ok (.sipush 128, 3) := by decide +kernel
theorem dX3_anew_74 : decode cX3_anew 74 = .ok (.if_icmp .ge 16, 3) := by decide +kernel
theorem dX3_anew_77 : decode cX3_anew 77 = .ok (.aload_n 0, 1) := by decide +kernel
theorem dX3_anew_78 : decode cX3_anew 78 = .ok (.getfield 26, 3) := by decide +kernel
theorem dX3_anew_81 : decode cX3_anew 81 = .ok (.iload_n 1, 1) := by decide +kernel
theorem dX3_anew_82 : decode cX3_anew 82 = .ok (.iconst 0, 1) := by decide +kernel
theorem dX3_anew_83 : decode cX3_anew 83 = .ok (.iastore, 1) := by decide +kernel
theorem dX3_anew_84 : decode cX3_anew 84 = .ok (.iinc 1 1, 3) := by decide +kernel
theorem dX3_anew_87 : decode cX3_anew 87 = .ok (.goto (-17), 3) := by decide +kernel
theorem dX3_anew_90 : decode cX3_anew 90 = .ok (.return_, 1) := by decide +kernel
set_option maxRecDepth 20000 in
theorem ggX3_filter_X3_isIn : GoodIn wsX3_filter wsX3_isIn := goodIn_r _ [6] (by decide +kernel) (by decide +kernel)
set_option maxRecDepth 20000 in
theorem gX3_filter_X3_isIn : GoodIn wsX3_filter (va_wsS RX3 69 yX3_isIn wsX3_isIn) := goodIn_app (goodIn_of _ (by decide +kernel)) ggX3_filter_X3_isIn
set_option maxRecDepth 20000 in
theorem ggX3_filter_X3_refused : GoodIn wsX3_filter wsX3_refused := goodIn_r _ [10, 11, 26, 27, 28, 29, 30, 31, 32, 33, 34, 35, 36, 37, 38, 39, 40, 41, 42, 43, 44, 45] (by decide +kernel) (by decide +kernel)
set_option maxRecDepth 20000 in
theorem gX3_filter_X3_refused : GoodIn wsX3_filter (wsV RX3 73 RX3 yX3_refused wsX3_refused) := goodIn_app (goodIn_of _ (by decide +kernel)) ggX3_filter_X3_refused
set_option maxRecDepth 20000 in
theorem ggX3_filter_X3_anew : GoodIn wsX3_filter wsX3_anew := goodIn_r _ [15, 16, 17, 18, 19, 20, 21, 22, 23, 24, 25, 26, 27, 28, 29, 30, 31, 32, 33, 34, 35, 36, 37, 38, 39, 40, 41, 42, 43, 44, 45] (by decide +kernel) (by decide +kernel)
set_option maxRecDepth 20000 in
theorem gX3_filter_X3_anew : GoodIn wsX3_filter (wsV RX3 50 RX3 yX3_anew wsX3_anew) := goodIn_app (goodIn_of _ (by decide +kernel)) ggX3_filter_X3_anew
theorem dX3_filter_0 : decode cX3_filter 0 = .ok (.aload_n 0, 1) := by decide +kernel
theorem dX3_filter_1 : decode cX3_filter 1 = .ok (.iload_n 1, 1) := by decide +kernel
theorem dX3_filter_2 : decode cX3_filter 2 = .ok (.iconst 0, 1) := by decide +kernel
theorem dX3_filter_3 : decode cX3_filter 3 = .ok (.iconst 3, 1) := by decide +kernel
theorem dX3_filter_4 : decode cX3_filter 4 = .ok (.invokestatic 69, 3) := by decide +kernel
theorem dX3_filter_7 : decode cX3_filter 7 = .ok (.ifCond .eq 27, 3) := by decide +kernel
theorem dX3_filter_10 : decode cX3_filter 10 = .ok (.iload_n 2, 1) := by decide +kernel
theorem dX3_filter_11 : decode cX3_filter 11 = .ok (.iconst 0, 1) := by decide +kernel
theorem dX3_filter_12 : decode cX3_filter 12 = .ok (.bipush 7, 2) := by decide +kernel
theorem dX3_filter_14 : decode cX3_filter 14 = .ok (.invokestatic 69, 3) := by decide +kernel
theorem dX3_filter_17 : decode cX3_filter 17 = .ok (.ifCond .eq 17, 3) := by decide +kernel
theorem dX3_filter_20 : decode cX3_filter 20 = .ok (.iload_n 3, 1) := by decide +kernel
theorem dX3_filter_21 : decode cX3_filter 21 = .ok (.iconst 1, 1) := by decide +kernel
theorem dX3_filter_22 : decode cX3_filter 22 = .ok (.bipush 32, 2) := by decide +kernel
theorem dX3_filter_24 : decode cX3_filter 24 = .ok (.invokestatic 69, 3) := by decide +kernel
theorem dX3_filter_27 : decode cX3_filter 27 = .ok (.ifCond .eq 7, 3) := by decide +kernel
theorem dX3_filter_30 : decode cX3_filter 30 = .ok (.iconst 0, 1) := by decide +kernel
theorem dX3_filter_31 : decode cX3_filter 31 = .ok (.goto 4, 3) := by decide +kernel
theorem dX3_filter_34 : decode cX3_filter 34 = .ok (.iconst 1, 1) := by decide +kernel
theorem dX3_filter_35 : decode cX3_filter 35 = .ok (.invokevirtual 73, 3) := by decide +kernel
theorem dX3_filter_38 : decode cX3_filter 38 = .ok (.ifCond .eq 4, 3) := by decide +kernel
theorem dX3_filter_41 : decode cX3_filter 41 = .ok (.return_, 1) := by decide +kernel
theorem dX3_filter_42 : decode cX3_filter 42 = .ok (.aload_n 0, 1) := by decide +kernel
theorem dX3_filter_43 : decode cX3_filter 43 = .ok (.getfield 7, 3) := by decide +kernel
theorem dX3_filter_46 : decode cX3_filter 46 = .ok (.iload_n 1, 1) := by decide +kernel
theorem dX3_filter_47 : decode cX3_filter 47 = .ok (.iload_n 2, 1) := by decide +kernel
theorem dX3_filter_48 : decode cX3_filter 48 = .ok (.iastore, 1) := by decide +kernel
theorem dX3_filter_49 : decode cX3_filter 49 = .ok (.aload_n 0, 1) := by decide +kernel
theorem dX3_filter_50 : decode cX3_filter 50 = .ok (.getfield 13, 3) := by decide +kernel
theorem dX3_filter_53 : decode cX3_filter 53 = .ok (.iload_n 1, 1) := by decide +kernel
theorem dX3_filter_54 : decode cX3_filter 54 = .ok (.iload_n 3, 1) := by decide +kernel
theorem dX3_filter_55 : decode cX3_filter 55 = .ok (.iastore, 1) := by decide +kernel
theorem dX3_filter_56 : decode cX3_filter 56 = .ok (.aload_n 0, 1) := by decide +kernel
theorem dX3_filter_57 : decode cX3_filter 57 = .ok (.invokevirtual 50, 3) := by decide +kernel
theorem dX3_filter_60 : decode cX3_filter 60 = .ok (.return_, 1) := by decide +kernel
set_option maxRecDepth 20000 in
theorem ggX3_begin_X3_anew : GoodIn wsX3_begin wsX3_anew := goodIn_r _ [8, 9, 10, 11, 12, 13, 14, 15, 16, 2, 17, 18, 19, 20, 21, 22, 23, 24, 25, 26, 27, 28, 29, 30, 31, 32, 33, 34, 35, 36, 37] (by decide +kernel) (by decide +kernel)
set_option maxRecDepth 20000 in
theorem gX3_begin_X3_anew : GoodIn wsX3_begin (wsV RX3 50 RX3 yX3_anew wsX3_anew) := goodIn_app (goodIn_of _ (by decide +kernel)) ggX3_begin_X3_anew
theorem dX3_begin_0 : decode cX3_begin 0 = .ok (.aload_n 0, 1) := by decide +kernel
theorem dX3_begin_1 : decode cX3_begin 1 = .ok (.iconst 0, 1) := by decide +kernel
theorem dX3_begin_2 : decode cX3_begin 2 = .ok (.putfield 53, 3) := by decide +kernel
theorem dX3_begin_5 : decode cX3_begin 5 = .ok (.aload_n 0, 1) := by decide +kernel
theorem dX3_begin_6 : decode cX3_begin 6 = .ok (.iload_n 1, 1) := by decide +kernel
theorem dX3_begin_7 : decode cX3_begin 7 = .ok (.putfield 66, 3) := by decide +kernel
theorem dX3_begin_10 : decode cX3_begin 10 = .ok (.aload_n 0, 1) := by decide +kernel
theorem dX3_begin_11 : decode cX3_begin 11 = .ok (.iload_n 2, 1) := by decide +kernel
theorem dX3_begin_12 : decode cX3_begin 12 = .ok (.putfield 16, 3) := by decide +kernel
theorem dX3_begin_15 : decode cX3_begin 15 = .ok (.aload_n 0, 1) := by decide +kernel
theorem dX3_begin_16 : decode cX3_begin 16 = .ok (.invokevirtual 50, 3) := by decide +kernel
theorem dX3_begin_19 : decode cX3_begin 19 = .ok (.return_, 1) := by decide +kernel
theorem dX3_at_0 : decode cX3_at 0 = .ok (.aload_n 0, 1) := by decide +kernel
theorem dX3_at_1 : decode cX3_at 1 = .ok (.getfield 20, 3) := by decide +kernel
theorem dX3_at_4 : decode cX3_at 4 = .ok (.bipush 16, 2) := by decide +kernel
theorem dX3_at_6 : decode cX3_at 6 = .ok (.iload_n 1, 1) := by decide +kernel
theorem dX3_at_7 : decode cX3_at 7 = .ok (.imul, 1) := by decide +kernel
theorem dX3_at_8 : decode cX3_at 8 = .ok (.iload_n 2, 1) := by decide +kernel
theorem dX3_at_9 : decode cX3_at 9 = .ok (.iadd, 1) := by decide +kernel
theorem dX3_at_10 : decode cX3_at 10 = .ok (.iaload, 1) := by decide +kernel
theorem dX3_at_11 : decode cX3_at 11 = .ok (.ireturn, 1) := by decide +kernel
theorem dX3_change_0 : decode cX3_change 0 = .ok (.aload_n 0, 1) := by decide +kernel
theorem dX3_change_1 : decode cX3_change 1 = .ok (.getfield 20, 3) := by decide +kernel
theorem dX3_change_4 : decode cX3_change 4 = .ok (.bipush 16, 2) := by decide +kernel
theorem dX3_change_6 : decode cX3_change 6 = .ok (.iload_n 1, 1) := by decide +kernel
theorem dX3_change_7 : decode cX3_change 7 = .ok (.imul, 1) := by decide +kernel
theorem dX3_change_8 : decode cX3_change 8 = .ok (.iload_n 2, 1) := by decide +kernel
theorem dX3_change_9 : decode cX3_change 9 = .ok (.iadd, 1) := by decide +kernel
theorem dX3_change_10 : decode cX3_change 10 = .ok (.iload_n 3, 1) := by decide +kernel
theorem dX3_change_11 : decode cX3_change 11 = .ok (.sipush 255, 3) := by decide +kernel
theorem dX3_change_14 : decode cX3_change 14 = .ok (.iand, 1) := by decide +kernel
theorem dX3_change_15 : decode cX3_change 15 = .ok (.iastore, 1) := by decide +kernel
theorem dX3_change_16 : decode cX3_change 16 = .ok (.return_, 1) := by decide +kernel
set_option maxRecDepth 20000 in
theorem ggX3_high_X3_at : GoodIn wsX3_high wsX3_at := goodIn_r _ [5, 6, 7, 8, 9, 10, 11, 12, 13, 14, 15, 16, 17, 18, 19, 20, 21, 22, 23, 24, 25, 26] (by decide +kernel) (by decide +kernel)
set_option maxRecDepth 20000 in
theorem gX3_high_X3_at : GoodIn wsX3_high (wsV RX3 77 RX3 yX3_at wsX3_at) := goodIn_app (goodIn_of _ (by decide +kernel)) ggX3_high_X3_at
theorem dX3_high_0 : decode cX3_high 0 = .ok (.aload_n 0, 1) := by decide +kernel
theorem dX3_high_1 : decode cX3_high 1 = .ok (.iload_n 1, 1) := by decide +kernel
theorem dX3_high_2 : decode cX3_high 2 = .ok (.iload_n 2, 1) := by decide +kernel
theorem dX3_high_3 : decode cX3_high 3 = .ok (.invokevirtual 77, 3) := by decide +kernel
theorem dX3_high_6 : decode cX3_high 6 = .ok (.bipush 24, 2) := by decide +kernel
theorem dX3_high_8 : decode cX3_high 8 = .ok (.ishl, 1) := by decide +kernel
theorem dX3_high_9 : decode cX3_high 9 = .ok (.aload_n 0, 1) := by decide +kernel
theorem dX3_high_10 : decode cX3_high 10 = .ok (.iload_n 1, 1) := by decide +kernel
theorem dX3_high_11 : decode cX3_high 11 = .ok (.iload_n 2, 1) := by decide +kernel
theorem dX3_high_12 : decode cX3_high 12 = .ok (.iconst 1, 1) := by decide +kernel
theorem dX3_high_13 : decode cX3_high 13 = .ok (.iadd, 1) := by decide +kernel
theorem dX3_high_14 : decode cX3_high 14 = .ok (.invokevirtual 77, 3) := by decide +kernel
theorem dX3_high_17 : decode cX3_high 17 = .ok (.bipush 16, 2) := by decide +kernel
theorem dX3_high_19 : decode cX3_high 19 = .ok (.ishl, 1) := by decide +kernel
theorem dX3_high_20 : decode cX3_high 20 = .ok (.ior, 1) := by decide +kernel
theorem dX3_high_21 : decode cX3_high 21 = .ok (.aload_n 0, 1) := by decide +kernel
theorem dX3_high_22 : decode cX3_high 22 = .ok (.iload_n 1, 1) := by decide +kernel
theorem dX3_high_23 : decode cX3_high 23 = .ok (.iload_n 2, 1) := by decide +kernel
theorem dX3_high_24 : decode cX3_high 24 = .ok (.iconst 2, 1) := by decide +kernel
theorem dX3_high_25 : decode cX3_high 25 = .ok (.iadd, 1) := by decide +kernel
theorem dX3_high_26 : decode cX3_high 26 = .ok (.invokevirtual 77, 3) := by decide +kernel
theorem dX3_high_29 : decode cX3_high 29 = .ok (.bipush 8, 2) := by decide +kernel
theorem dX3_high_31 : decode cX3_high 31 = .ok (.ishl, 1) := by decide +kernel
theorem dX3_high_32 : decode cX3_high 32 = .ok (.ior, 1) := by decide +kernel
theorem dX3_high_33 : decode cX3_high 33 = .ok (.aload_n 0, 1) := by decide +kernel
theorem dX3_high_34 : decode cX3_high 34 = .ok (.iload_n 1, 1) := by decide +kernel
theorem dX3_high_35 : decode cX3_high 35 = .ok (.iload_n 2, 1) := by decide +kernel
theorem dX3_high_36 : decode cX3_high 36 = .ok (.iconst 3, 1) := by decide +kernel
theorem dX3_high_37 : decode cX3_high 37 = .ok (.iadd, 1) := by decide +kernel
theorem dX3_high_38 : decode cX3_high 38 = .ok (.invokevirtual 77, 3) := by decide +kernel
theorem dX3_high_41 : decode cX3_high 41 = .ok (.ior, 1) := by decide +kernel
theorem dX3_high_42 : decode cX3_high 42 = .ok (.ireturn, 1) := by decide +kernel
set_option maxRecDepth 20000 in
theorem ggX3_low_X3_at : GoodIn wsX3_low wsX3_at := goodIn_r _ [5, 6, 7, 8, 9, 10, 11, 12, 13, 14, 15, 16, 17, 18, 19, 20, 21, 22, 23, 24, 25, 26] (by decide +kernel) (by decide +kernel)
set_option maxRecDepth 20000 in
theorem gX3_low_X3_at : GoodIn wsX3_low (wsV RX3 77 RX3 yX3_at wsX3_at) := goodIn_app (goodIn_of _ (by decide +kernel)) ggX3_low_X3_at
theorem dX3_low_0 : decode cX3_low 0 = .ok (.aload_n 0, 1) := by decide +kernel
theorem dX3_low_1 : decode cX3_low 1 = .ok (.iload_n 1, 1) := by decide +kernel
theorem dX3_low_2 : decode cX3_low 2 = .ok (.iload_n 2, 1) := by decide +kernel
theorem dX3_low_3 : decode cX3_low 3 = .ok (.iconst 3, 1) := by decide +kernel
theorem dX3_low_4 : decode cX3_low 4 = .ok (.iadd, 1) := by decide +kernel
theorem dX3_low_5 : decode cX3_low 5 = .ok (.invokevirtual 77, 3) := by decide +kernel
theorem dX3_low_8 : decode cX3_low 8 = .ok (.bipush 24, 2) := by decide +kernel
theorem dX3_low_10 : decode cX3_low 10 = .ok (.ishl, 1) := by decide +kernel
theorem dX3_low_11 : decode cX3_low 11 = .ok (.aload_n 0, 1) := by decide +kernel
theorem dX3_low_12 : decode cX3_low 12 = .ok (.iload_n 1, 1) := by decide +kernel
theorem dX3_low_13 : decode cX3_low 13 = .ok (.iload_n 2, 1) := by decide +kernel
theorem dX3_low_14 : decode cX3_low 14 = .ok (.iconst 2, 1) := by decide +kernel
theorem dX3_low_15 : decode cX3_low 15 = .ok (.iadd, 1) := by decide +kernel
theorem dX3_low_16 : decode cX3_low 16 = .ok (.invokevirtual 77, 3) := by decide +kernel
theorem dX3_low_19 : decode cX3_low 19 = .ok (.bipush 16, 2) := by decide +kernel
theorem dX3_low_21 : decode cX3_low 21 = .ok (.ishl, 1) := by decide +kernel
theorem dX3_low_22 : decode cX3_low 22 = .ok (.ior, 1) := by decide +kernel
theorem dX3_low_23 : decode cX3_low 23 = .ok (.aload_n 0, 1) := by decide +kernel
theorem dX3_low_24 : decode cX3_low 24 = .ok (.iload_n 1, 1) := by decide +kernel
theorem dX3_low_25 : decode cX3_low 25 = .ok (.iload_n 2, 1) := by decide +kernel
theorem dX3_low_26 : decode cX3_low 26 = .ok (.iconst 1, 1) := by decide +kernel
theorem dX3_low_27 : decode cX3_low 27 = .ok (.iadd, 1) := by decide +kernel
theorem dX3_low_28 : decode cX3_low 28 = .ok (.invokevirtual 77, 3) := by decide +kernel
theorem dX3_low_31 : decode cX3_low 31 = .ok (.bipush 8, 2) := by decide +kernel
theorem dX3_low_33 : decode cX3_low 33 = .ok (.ishl, 1) := by decide +kernel
theorem dX3_low_34 : decode cX3_low 34 = .ok (.ior, 1) := by decide +kernel
theorem dX3_low_35 : decode cX3_low 35 = .ok (.aload_n 0, 1) := by decide +kernel
theorem dX3_low_36 : decode cX3_low 36 = .ok (.iload_n 1, 1) := by decide +kernel
theorem dX3_low_37 : decode cX3_low 37 = .ok (.iload_n 2, 1) := by decide +kernel
theorem dX3_low_38 : decode cX3_low 38 = .ok (.invokevirtual 77, 3) := by decide +kernel
theorem dX3_low_41 : decode cX3_low 41 = .ok (.ior, 1) := by decide +kernel
theorem dX3_low_42 : decode cX3_low 42 = .ok (.ireturn, 1) := by decide +kernel
set_option maxRecDepth 20000 in
theorem ggX3_setHigh_X3_change : GoodIn wsX3_setHigh wsX3_change := goodIn_r _ [5, 6, 7, 8, 9, 10, 11, 12, 13, 14, 15, 16, 17, 18, 19, 20, 21, 22, 23, 24, 25, 26] (by decide +kernel) (by decide +kernel)
set_option maxRecDepth 20000 in
theorem gX3_setHigh_X3_change : GoodIn wsX3_setHigh (wsV RX3 81 RX3 yX3_change wsX3_change) := goodIn_app (goodIn_of _ (by decide +kernel)) ggX3_setHigh_X3_change
theorem dX3_setHigh_0 : decode cX3_setHigh 0 = .ok (.iconst 0, 1) := by decide +kernel
theorem dX3_setHigh_1 : decode cX3_setHigh 1 = .ok (.istore 4, 2) := by decide +kernel
theorem dX3_setHigh_3 : decode cX3_setHigh 3 = .ok (.iload 4, 2) := by decide +kernel
theorem dX3_setHigh_5 : decode cX3_setHigh 5 = .ok (.iconst 4, 1) := by decide +kernel
theorem dX3_setHigh_6 : decode cX3_setHigh 6 = .ok (.if_icmp .ge 28, 3) := by decide +kernel
theorem dX3_setHigh_9 : decode cX3_setHigh 9 = .ok (.aload_n 0, 1) := by decide +kernel
theorem dX3_setHigh_10 : decode cX3_setHigh 10 = .ok (.iload_n 1, 1) := by decide +kernel
theorem dX3_setHigh_11 : decode cX3_setHigh 11 = .ok (.iload_n 2, 1) := by decide +kernel
theorem dX3_setHigh_12 : decode cX3_setHigh 12 = .ok (.iload 4, 2) := by decide +kernel
theorem dX3_setHigh_14 : decode cX3_setHigh 14 = .ok (.iadd, 1) := by decide +kernel
theorem dX3_setHigh_15 : decode cX3_setHigh 15 = .ok (.iload_n 3, 1) := by decide +kernel
theorem dX3_setHigh_16 : decode cX3_setHigh 16 = .ok (.bipush 24, 2) := by decide +kernel
theorem dX3_setHigh_18 : decode cX3_setHigh 18 = .ok (.bipush 8, 2) := by decide +kernel
theorem dX3_setHigh_20 : decode cX3_setHigh 20 = .ok (.iload 4, 2) := by decide +kernel
theorem dX3_setHigh_22 : decode cX3_setHigh 22 = .ok (.imul, 1) := by decide +kernel
theorem dX3_setHigh_23 : decode cX3_setHigh 23 = .ok (.isub, 1) := by decide +kernel
theorem dX3_setHigh_24 : decode cX3_setHigh 24 = .ok (.ishr, 1) := by decide +kernel
theorem dX3_setHigh_25 : decode cX3_setHigh 25 = .ok (.invokevirtual 81, 3) := by decide +kernel
theorem dX3_setHigh_28 : decode cX3_setHigh 28 = .ok (.iinc 4 1, 3) := by decide +kernel
theorem dX3_setHigh_31 : decode cX3_setHigh 31 = .ok (.goto (-28), 3) := by decide +kernel
theorem dX3_setHigh_34 : decode cX3_setHigh 34 = .ok (.return_, 1) := by decide +kernel
set_option maxRecDepth 20000 in
theorem ggX3_setLow_X3_change : GoodIn wsX3_setLow wsX3_change := goodIn_r _ [5, 6, 7, 8, 9, 10, 11, 12, 13, 14, 15, 16, 17, 18, 19, 20, 21, 22, 23, 24, 25, 26] (by decide +kernel) (by decide +kernel)
set_option maxRecDepth 20000 in
theorem gX3_setLow_X3_change : GoodIn wsX3_setLow (wsV RX3 81 RX3 yX3_change wsX3_change) := goodIn_app (goodIn_of _ (by decide +kernel)) ggX3_setLow_X3_change
theorem dX3_setLow_0 : decode cX3_setLow 0 = .ok (.iconst 0, 1) := by decide +kernel
theorem dX3_setLow_1 : decode cX3_setLow 1 = .ok (.istore 4, 2) := by decide +kernel
theorem dX3_setLow_3 : decode cX3_setLow 3 = .ok (.iload 4, 2) := by decide +kernel
theorem dX3_setLow_5 : decode cX3_setLow 5 = .ok (.iconst 4, 1) := by decide +kernel
theorem dX3_setLow_6 : decode cX3_setLow 6 = .ok (.if_icmp .ge 25, 3) := by decide +kernel
theorem dX3_setLow_9 : decode cX3_setLow 9 = .ok (.aload_n 0, 1) := by decide +kernel
theorem dX3_setLow_10 : decode cX3_setLow 10 = .ok (.iload_n 1, 1) := by decide +kernel
theorem dX3_setLow_11 : decode cX3_setLow 11 = .ok (.iload_n 2, 1) := by decide +kernel
theorem dX3_setLow_12 : decode cX3_setLow 12 = .ok (.iload 4, 2) := by decide +kernel
theorem dX3_setLow_14 : decode cX3_setLow 14 = .ok (.iadd, 1) := by decide +kernel
theorem dX3_setLow_15 : decode cX3_setLow 15 = .ok (.iload_n 3, 1) := by decide +kernel
theorem dX3_setLow_16 : decode cX3_setLow 16 = .ok (.bipush 8, 2) := by decide +kernel
theorem dX3_setLow_18 : decode cX3_setLow 18 = .ok (.iload 4, 2) := by decide +kernel
theorem dX3_setLow_20 : decode cX3_setLow 20 = .ok (.imul, 1) := by decide +kernel
theorem dX3_setLow_21 : decode cX3_setLow 21 = .ok (.ishr, 1) := by decide +kernel
theorem dX3_setLow_22 : decode cX3_setLow 22 = .ok (.invokevirtual 81, 3) := by decide +kernel
theorem dX3_setLow_25 : decode cX3_setLow 25 = .ok (.iinc 4 1, 3) := by decide +kernel
theorem dX3_setLow_28 : decode cX3_setLow 28 = .ok (.goto (-25), 3) := by decide +kernel
theorem dX3_setLow_31 : decode cX3_setLow 31 = .ok (.return_, 1) := by decide +kernel
theorem dX3_place_0 : decode cX3_place 0 = .ok (.aload_n 0, 1) := by decide +kernel
theorem dX3_place_1 : decode cX3_place 1 = .ok (.getfield 66, 3) := by decide +kernel
theorem dX3_place_4 : decode cX3_place 4 = .ok (.aload_n 0, 1) := by decide +kernel
theorem dX3_place_5 : decode cX3_place 5 = .ok (.getfield 29, 3) := by decide +kernel
theorem dX3_place_8 : decode cX3_place 8 = .ok (.iload_n 1, 1) := by decide +kernel
theorem dX3_place_9 : decode cX3_place 9 = .ok (.iaload, 1) := by decide +kernel
theorem dX3_place_10 : decode cX3_place 10 = .ok (.iadd, 1) := by decide +kernel
theorem dX3_place_11 : decode cX3_place 11 = .ok (.ireturn, 1) := by decide +kernel
theorem dX3_moved_0 : decode cX3_moved 0 = .ok (.aload_n 0, 1) := by decide +kernel
theorem dX3_moved_1 : decode cX3_moved 1 = .ok (.getfield 16, 3) := by decide +kernel
theorem dX3_moved_4 : decode cX3_moved 4 = .ok (.ifCond .eq 9, 3) := by decide +kernel
theorem dX3_moved_7 : decode cX3_moved 7 = .ok (.iload_n 1, 1) := by decide +kernel
theorem dX3_moved_8 : decode cX3_moved 8 = .ok (.iload_n 2, 1) := by decide +kernel
theorem dX3_moved_9 : decode cX3_moved 9 = .ok (.iadd, 1) := by decide +kernel
theorem dX3_moved_10 : decode cX3_moved 10 = .ok (.goto 6, 3) := by decide +kernel
theorem dX3_moved_13 : decode cX3_moved 13 = .ok (.iload_n 1, 1) := by decide +kernel
theorem dX3_moved_14 : decode cX3_moved 14 = .ok (.iload_n 2, 1) := by decide +kernel
theorem dX3_moved_15 : decode cX3_moved 15 = .ok (.isub, 1) := by decide +kernel
theorem dX3_moved_16 : decode cX3_moved 16 = .ok (.ireturn, 1) := by decide +kernel
set_option maxRecDepth 20000 in
theorem ggX3_give_X3_at : GoodIn wsX3_give wsX3_at := goodIn_r _ [9, 10, 15, 16, 17, 18, 19, 20, 21, 22, 23, 24, 25, 26, 27, 28, 29, 30, 31, 32, 33, 34] (by decide +kernel) (by decide +kernel)
set_option maxRecDepth 20000 in
theorem gX3_give_X3_at : GoodIn wsX3_give (wsV RX3 77 RX3 yX3_at wsX3_at) := goodIn_app (goodIn_of _ (by decide +kernel)) ggX3_give_X3_at
set_option maxRecDepth 20000 in
theorem ggX3_give_X3_change : GoodIn wsX3_give wsX3_change := goodIn_r _ [14, 10, 15, 16, 17, 18, 19, 20, 21, 22, 23, 24, 25, 26, 27, 28, 29, 30, 31, 32, 33, 34] (by decide +kernel) (by decide +kernel)
set_option maxRecDepth 20000 in
theorem gX3_give_X3_change : GoodIn wsX3_give (wsV RX3 81 RX3 yX3_change wsX3_change) := goodIn_app (goodIn_of _ (by decide +kernel)) ggX3_give_X3_change
theorem dX3_give_0 : decode cX3_give 0 = .ok (.iconst 0, 1) := by decide +kernel
theorem dX3_give_1 : decode cX3_give 1 = .ok (.istore_n 3, 1) := by decide +kernel
theorem dX3_give_2 : decode cX3_give 2 = .ok (.iload_n 3, 1) := by decide +kernel
theorem dX3_give_3 : decode cX3_give 3 = .ok (.iload_n 2, 1) := by decide +kernel
theorem dX3_give_4 : decode cX3_give 4 = .ok (.if_icmp .ge 34, 3) := by decide +kernel
theorem dX3_give_7 : decode cX3_give 7 = .ok (.aload_n 0, 1) := by decide +kernel
theorem dX3_give_8 : decode cX3_give 8 = .ok (.getfield 44, 3) := by decide +kernel
theorem dX3_give_11 : decode cX3_give 11 = .ok (.aload_n 0, 1) := by decide +kernel
theorem dX3_give_12 : decode cX3_give 12 = .ok (.getfield 85, 3) := by decide +kernel
theorem dX3_give_15 : decode cX3_give 15 = .ok (.aload_n 0, 1) := by decide +kernel
theorem dX3_give_16 : decode cX3_give 16 = .ok (.iload_n 1, 1) := by decide +kernel
theorem dX3_give_17 : decode cX3_give 17 = .ok (.iload_n 3, 1) := by decide +kernel
theorem dX3_give_18 : decode cX3_give 18 = .ok (.invokevirtual 77, 3) := by decide +kernel
theorem dX3_give_21 : decode cX3_give 21 = .ok (.iastore, 1) := by decide +kernel
theorem dX3_give_22 : decode cX3_give 22 = .ok (.aload_n 0, 1) := by decide +kernel
theorem dX3_give_23 : decode cX3_give 23 = .ok (.dup, 1) := by decide +kernel
theorem dX3_give_24 : decode cX3_give 24 = .ok (.getfield 85, 3) := by decide +kernel
theorem dX3_give_27 : decode cX3_give 27 = .ok (.iconst 1, 1) := by decide +kernel
theorem dX3_give_28 : decode cX3_give 28 = .ok (.iadd, 1) := by decide +kernel
theorem dX3_give_29 : decode cX3_give 29 = .ok (.putfield 85, 3) := by decide +kernel
theorem dX3_give_32 : decode cX3_give 32 = .ok (.iinc 3 1, 3) := by decide +kernel
theorem dX3_give_35 : decode cX3_give 35 = .ok (.goto (-33), 3) := by decide +kernel
theorem dX3_give_38 : decode cX3_give 38 = .ok (.iload_n 2, 1) := by decide +kernel
theorem dX3_give_39 : decode cX3_give 39 = .ok (.istore_n 3, 1) := by decide +kernel
theorem dX3_give_40 : decode cX3_give 40 = .ok (.iload_n 3, 1) := by decide +kernel
theorem dX3_give_41 : decode cX3_give 41 = .ok (.aload_n 0, 1) := by decide +kernel
theorem dX3_give_42 : decode cX3_give 42 = .ok (.getfield 23, 3) := by decide +kernel
theorem dX3_give_45 : decode cX3_give 45 = .ok (.iload_n 1, 1) := by decide +kernel
theorem dX3_give_46 : decode cX3_give 46 = .ok (.iaload, 1) := by decide +kernel
theorem dX3_give_47 : decode cX3_give 47 = .ok (.if_icmp .ge 23, 3) := by decide +kernel
theorem dX3_give_50 : decode cX3_give 50 = .ok (.aload_n 0, 1) := by decide +kernel
theorem dX3_give_51 : decode cX3_give 51 = .ok (.iload_n 1, 1) := by decide +kernel
theorem dX3_give_52 : decode cX3_give 52 = .ok (.iload_n 3, 1) := by decide +kernel
theorem dX3_give_53 : decode cX3_give 53 = .ok (.iload_n 2, 1) := by decide +kernel
theorem dX3_give_54 : decode cX3_give 54 = .ok (.isub, 1) := by decide +kernel
theorem dX3_give_55 : decode cX3_give 55 = .ok (.aload_n 0, 1) := by decide +kernel
theorem dX3_give_56 : decode cX3_give 56 = .ok (.iload_n 1, 1) := by decide +kernel
theorem dX3_give_57 : decode cX3_give 57 = .ok (.iload_n 3, 1) := by decide +kernel
theorem dX3_give_58 : decode cX3_give 58 = .ok (.invokevirtual 77, 3) := by decide +kernel
theorem dX3_give_61 : decode cX3_give 61 = .ok (.invokevirtual 81, 3) := by decide +kernel
theorem dX3_give_64 : decode cX3_give 64 = .ok (.iinc 3 1, 3) := by decide +kernel
theorem dX3_give_67 : decode cX3_give 67 = .ok (.goto (-27), 3) := by decide +kernel
theorem dX3_give_70 : decode cX3_give 70 = .ok (.aload_n 0, 1) := by decide +kernel
theorem dX3_give_71 : decode cX3_give 71 = .ok (.getfield 23, 3) := by decide +kernel
theorem dX3_give_74 : decode cX3_give 74 = .ok (.iload_n 1, 1) := by decide +kernel
theorem dX3_give_75 : decode cX3_give 75 = .ok (.aload_n 0, 1) := by decide +kernel
theorem dX3_give_76 : decode cX3_give 76 = .ok (.getfield 23, 3) := by decide +kernel
theorem dX3_give_79 : decode cX3_give 79 = .ok (.iload_n 1, 1) := by decide +kernel
theorem dX3_give_80 : decode cX3_give 80 = .ok (.iaload, 1) := by decide +kernel
theorem dX3_give_81 : decode cX3_give 81 = .ok (.iload_n 2, 1) := by decide +kernel
theorem dX3_give_82 : decode cX3_give 82 = .ok (.isub, 1) := by decide +kernel
theorem dX3_give_83 : decode cX3_give 83 = .ok (.iastore, 1) := by decide +kernel
theorem dX3_give_84 : decode cX3_give 84 = .ok (.aload_n 0, 1) := by decide +kernel
theorem dX3_give_85 : decode cX3_give 85 = .ok (.getfield 29, 3) := by decide +kernel
theorem dX3_give_88 : decode cX3_give 88 = .ok (.iload_n 1, 1) := by decide +kernel
theorem dX3_give_89 : decode cX3_give 89 = .ok (.aload_n 0, 1) := by decide +kernel
theorem dX3_give_90 : decode cX3_give 90 = .ok (.getfield 29, 3) := by decide +kernel
theorem dX3_give_93 : decode cX3_give 93 = .ok (.iload_n 1, 1) := by decide +kernel
theorem dX3_give_94 : decode cX3_give 94 = .ok (.iaload, 1) := by decide +kernel
theorem dX3_give_95 : decode cX3_give 95 = .ok (.iload_n 2, 1) := by decide +kernel
theorem dX3_give_96 : decode cX3_give 96 = .ok (.iadd, 1) := by decide +kernel
theorem dX3_give_97 : decode cX3_give 97 = .ok (.iastore, 1) := by decide +kernel
theorem dX3_give_98 : decode cX3_give 98 = .ok (.return_, 1) := by decide +kernel
theorem dX3_needs_0 : decode cX3_needs 0 = .ok (.iload_n 0, 1) := by decide +kernel
theorem dX3_needs_1 : decode cX3_needs 1 = .ok (.iconst 2, 1) := by decide +kernel
theorem dX3_needs_2 : decode cX3_needs 2 = .ok (.if_icmp .ge 7, 3) := by decide +kernel
theorem dX3_needs_5 : decode cX3_needs 5 = .ok (.iconst 1, 1) := by decide +kernel
theorem dX3_needs_6 : decode cX3_needs 6 = .ok (.goto 24, 3) := by decide +kernel
theorem dX3_needs_9 : decode cX3_needs 9 = .ok (.iload_n 0, 1) := by decide +kernel
theorem dX3_needs_10 : decode cX3_needs 10 = .ok (.iconst 2, 1) := by decide +kernel
theorem dX3_needs_11 : decode cX3_needs 11 = .ok (.if_icmp .ne 7, 3) := by decide +kernel
theorem dX3_needs_14 : decode cX3_needs 14 = .ok (.iconst 5, 1) := by decide +kernel
theorem dX3_needs_15 : decode cX3_needs 15 = .ok (.goto 15, 3) := by decide +kernel
theorem dX3_needs_18 : decode cX3_needs 18 = .ok (.iload_n 0, 1) := by decide +kernel
theorem dX3_needs_19 : decode cX3_needs 19 = .ok (.bipush 7, 2) := by decide +kernel
theorem dX3_needs_21 : decode cX3_needs 21 = .ok (.if_icmp .ne 8, 3) := by decide +kernel
theorem dX3_needs_24 : decode cX3_needs 24 = .ok (.bipush 8, 2) := by decide +kernel
theorem dX3_needs_26 : decode cX3_needs 26 = .ok (.goto 4, 3) := by decide +kernel
theorem dX3_needs_29 : decode cX3_needs 29 = .ok (.iconst 4, 1) := by decide +kernel
theorem dX3_needs_30 : decode cX3_needs 30 = .ok (.ireturn, 1) := by decide +kernel
set_option maxRecDepth 20000 in
theorem ggX3_delta_X3_at : GoodIn wsX3_delta wsX3_at := goodIn_r _ [8, 9, 22, 23, 24, 25, 26, 27, 28, 29, 30, 31, 32, 33, 34, 35, 36, 37, 38, 39, 40, 41] (by decide +kernel) (by decide +kernel)
set_option maxRecDepth 20000 in
theorem gX3_delta_X3_at : GoodIn wsX3_delta (wsV RX3 77 RX3 yX3_at wsX3_at) := goodIn_app (goodIn_of _ (by decide +kernel)) ggX3_delta_X3_at
set_option maxRecDepth 20000 in
theorem ggX3_delta_X3_change : GoodIn wsX3_delta wsX3_change := goodIn_r _ [13, 9, 22, 23, 24, 25, 26, 27, 28, 29, 30, 31, 32, 33, 34, 35, 36, 37, 38, 39, 40, 41] (by decide +kernel) (by decide +kernel)
set_option maxRecDepth 20000 in
theorem gX3_delta_X3_change : GoodIn wsX3_delta (wsV RX3 81 RX3 yX3_change wsX3_change) := goodIn_app (goodIn_of _ (by decide +kernel)) ggX3_delta_X3_change
set_option maxRecDepth 20000 in
theorem ggX3_delta_X3_give : GoodIn wsX3_delta wsX3_give := goodIn_r _ [17, 18, 19, 20, 21, 4, 5, 6, 7, 8, 9, 10, 11, 12, 13, 22, 23, 24, 25, 26, 27, 28, 29, 30, 31, 32, 33, 34, 35, 36, 37, 38, 39, 40, 41] (by decide +kernel) (by decide +kernel)
set_option maxRecDepth 20000 in
theorem gX3_delta_X3_give : GoodIn wsX3_delta (wsV RX3 88 RX3 yX3_give wsX3_give) := goodIn_app (goodIn_of _ (by decide +kernel)) ggX3_delta_X3_give
theorem dX3_delta_0 : decode cX3_delta 0 = .ok (.aload_n 0, 1) := by decide +kernel
theorem dX3_delta_1 : decode cX3_delta 1 = .ok (.iload_n 1, 1) := by decide +kernel
theorem dX3_delta_2 : decode cX3_delta 2 = .ok (.iconst 0, 1) := by decide +kernel
theorem dX3_delta_3 : decode cX3_delta 3 = .ok (.invokevirtual 77, 3) := by decide +kernel
theorem dX3_delta_6 : decode cX3_delta 6 = .ok (.istore_n 2, 1) := by decide +kernel
theorem dX3_delta_7 : decode cX3_delta 7 = .ok (.aload_n 0, 1) := by decide +kernel
theorem dX3_delta_8 : decode cX3_delta 8 = .ok (.getfield 26, 3) := by decide +kernel
theorem dX3_delta_11 : decode cX3_delta 11 = .ok (.bipush 32, 2) := by decide +kernel
theorem dX3_delta_13 : decode cX3_delta 13 = .ok (.iload_n 1, 1) := by decide +kernel
theorem dX3_delta_14 : decode cX3_delta 14 = .ok (.imul, 1) := by decide +kernel
theorem dX3_delta_15 : decode cX3_delta 15 = .ok (.aload_n 0, 1) := by decide +kernel
theorem dX3_delta_16 : decode cX3_delta 16 = .ok (.getfield 13, 3) := by decide +kernel
theorem dX3_delta_19 : decode cX3_delta 19 = .ok (.iload_n 1, 1) := by decide +kernel
theorem dX3_delta_20 : decode cX3_delta 20 = .ok (.iaload, 1) := by decide +kernel
theorem dX3_delta_21 : decode cX3_delta 21 = .ok (.iadd, 1) := by decide +kernel
theorem dX3_delta_22 : decode cX3_delta 22 = .ok (.iconst 1, 1) := by decide +kernel
theorem dX3_delta_23 : decode cX3_delta 23 = .ok (.isub, 1) := by decide +kernel
theorem dX3_delta_24 : decode cX3_delta 24 = .ok (.iaload, 1) := by decide +kernel
theorem dX3_delta_25 : decode cX3_delta 25 = .ok (.istore_n 3, 1) := by decide +kernel
theorem dX3_delta_26 : decode cX3_delta 26 = .ok (.aload_n 0, 1) := by decide +kernel
theorem dX3_delta_27 : decode cX3_delta 27 = .ok (.getfield 16, 3) := by decide +kernel
theorem dX3_delta_30 : decode cX3_delta 30 = .ok (.ifCond .eq 13, 3) := by decide +kernel
theorem dX3_delta_33 : decode cX3_delta 33 = .ok (.iload_n 2, 1) := by decide +kernel
theorem dX3_delta_34 : decode cX3_delta 34 = .ok (.iload_n 3, 1) := by decide +kernel
theorem dX3_delta_35 : decode cX3_delta 35 = .ok (.isub, 1) := by decide +kernel
theorem dX3_delta_36 : decode cX3_delta 36 = .ok (.sipush 255, 3) := by decide +kernel
theorem dX3_delta_39 : decode cX3_delta 39 = .ok (.iand, 1) := by decide +kernel
theorem dX3_delta_40 : decode cX3_delta 40 = .ok (.goto 10, 3) := by decide +kernel
theorem dX3_delta_43 : decode cX3_delta 43 = .ok (.iload_n 2, 1) := by decide +kernel
theorem dX3_delta_44 : decode cX3_delta 44 = .ok (.iload_n 3, 1) := by decide +kernel
theorem dX3_delta_45 : decode cX3_delta 45 = .ok (.iadd, 1) := by decide +kernel
theorem dX3_delta_46 : decode cX3_delta 46 = .ok (.sipush 255, 3) := by decide +kernel
theorem dX3_delta_49 : decode cX3_delta 49 = .ok (.iand, 1) := by decide +kernel
theorem dX3_delta_50 : decode cX3_delta 50 = .ok (.istore 4, 2) := by decide +kernel
theorem dX3_delta_52 : decode cX3_delta 52 = .ok (.bipush 31, 2) := by decide +kernel
theorem dX3_delta_54 : decode cX3_delta 54 = .ok (.istore 5, 2) := by decide +kernel
theorem dX3_delta_56 : decode cX3_delta 56 = .ok (.iload 5, 2) := by decide +kernel
theorem dX3_delta_58 : decode cX3_delta 58 = .ok (.ifCond .le 35, 3) := by decide +kernel
theorem dX3_delta_61 : decode cX3_delta 61 = .ok (.aload_n 0, 1) := by decide +kernel
theorem dX3_delta_62 : decode cX3_delta 62 = .ok (.getfield 26, 3) := by decide +kernel
theorem dX3_delta_65 : decode cX3_delta 65 = .ok (.bipush 32, 2) := by decide +kernel
theorem dX3_delta_67 : decode cX3_delta 67 = .ok (.iload_n 1, 1) := by decide +kernel
theorem dX3_delta_68 : decode cX3_delta 68 = .ok (.imul, 1) := by decide +kernel
theorem dX3_delta_69 : decode cX3_delta 69 = .ok (.iload 5, 2) := by decide +kernel
theorem dX3_delta_71 : decode cX3_delta 71 = .ok (.iadd, 1) := by decide +kernel
theorem dX3_delta_72 : decode cX3_delta 72 = .ok (.aload_n 0, 1) := by decide +kernel
theorem dX3_delta_73 : decode cX3_delta 73 = .ok (.getfield 26, 3) := by decide +kernel
theorem dX3_delta_76 : decode cX3_delta 76 = .ok (.bipush 32, 2) := by decide +kernel
theorem dX3_delta_78 : decode cX3_delta 78 = .ok (.iload_n 1, 1) := by decide +kernel
theorem dX3_delta_79 : decode cX3_delta 79 = .ok (.imul, 1) := by decide +kernel
theorem dX3_delta_80 : decode cX3_delta 80 = .ok (.iload 5, 2) := by decide +kernel
theorem dX3_delta_82 : decode cX3_delta 82 = .ok (.iadd, 1) := by decide +kernel
theorem dX3_delta_83 : decode cX3_delta 83 = .ok (.iconst 1, 1) := by decide +kernel
theorem dX3_delta_84 : decode cX3_delta 84 = .ok (.isub, 1) := by decide +kernel
theorem dX3_delta_85 : decode cX3_delta 85 = .ok (.iaload, 1) := by decide +kernel
theorem dX3_delta_86 : decode cX3_delta 86 = .ok (.iastore, 1) := by decide +kernel
theorem dX3_delta_87 : decode cX3_delta 87 = .ok (.iinc 5 (-1), 3) := by decide +kernel
theorem dX3_delta_90 : decode cX3_delta 90 = .ok (.goto (-34), 3) := by decide +kernel
theorem dX3_delta_93 : decode cX3_delta 93 = .ok (.aload_n 0, 1) := by decide +kernel
theorem dX3_delta_94 : decode cX3_delta 94 = .ok (.getfield 26, 3) := by decide +kernel
theorem dX3_delta_97 : decode cX3_delta 97 = .ok (.bipush 32, 2) := by decide +kernel
theorem dX3_delta_99 : decode cX3_delta 99 = .ok (.iload_n 1, 1) := by decide +kernel
theorem dX3_delta_100 : decode cX3_delta 100 = .ok (.imul, 1) := by decide +kernel
theorem dX3_delta_101 : decode cX3_delta 101 = .ok (.aload_n 0, 1) := by decide +kernel
theorem dX3_delta_102 : decode cX3_delta 102 = .ok (.getfield 16, 3) := by decide +kernel
theorem dX3_delta_105 : decode cX3_delta 105 = .ok (.ifCond .eq 7, 3) := by decide +kernel
theorem dX3_delta_108 : decode cX3_delta 108 = .ok (.iload_n 2, 1) := by decide +kernel
theorem dX3_delta_109 : decode cX3_delta 109 = .ok (.goto 5, 3) := by decide +kernel
theorem dX3_delta_112 : decode cX3_delta 112 = .ok (.iload 4, 2) := by decide +kernel
theorem dX3_delta_114 : decode cX3_delta 114 = .ok (.iastore, 1) := by decide +kernel
theorem dX3_delta_115 : decode cX3_delta 115 = .ok (.aload_n 0, 1) := by decide +kernel
theorem dX3_delta_116 : decode cX3_delta 116 = .ok (.iload_n 1, 1) := by decide +kernel
theorem dX3_delta_117 : decode cX3_delta 117 = .ok (.iconst 0, 1) := by decide +kernel
theorem dX3_delta_118 : decode cX3_delta 118 = .ok (.iload 4, 2) := by decide +kernel
