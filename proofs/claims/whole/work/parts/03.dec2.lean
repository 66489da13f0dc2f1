set_option maxRecDepth 20000 in
theorem ggX6_init_X5_init : GoodIn wsX6_init wsX5_init := goodIn_r _ [28, 29, 2, 3, 30, 31, 32, 33, 34, 97, 98, 99, 100, 101] (by decide +kernel) (by decide +kernel)
set_option maxRecDepth 20000 in
theorem gX6_init_X5_init_n19 : GoodIn wsX6_init (wsX5_init) := ggX6_init_X5_init
set_option maxRecDepth 20000 in
theorem ggX6_init_X2_init : GoodIn wsX6_init wsX2_init := goodIn_r _ [37, 38, 2, 3, 4, 39, 40, 41, 42, 43, 44, 45, 46, 47, 48, 49, 50, 51, 52, 53, 54, 55, 56, 57, 58, 59, 60, 61, 62, 63, 64, 65, 66, 67, 68, 69, 70, 71, 72, 102, 103, 104, 105, 106, 107, 108, 109, 110, 111, 112, 119, 120, 121, 122, 123, 124, 125, 126, 127, 128, 129, 130, 131] (by decide +kernel) (by decide +kernel)
set_option maxRecDepth 20000 in
theorem gX6_init_X2_init : GoodIn wsX6_init (wsX2_init) := ggX6_init_X2_init
set_option maxRecDepth 20000 in
theorem ggX6_init_X3_init : GoodIn wsX6_init wsX3_init := goodIn_r _ [75, 76, 2, 3, 77, 78, 79, 80, 12, 13, 81, 36, 37, 38, 4, 39, 40, 41, 42, 43, 44, 45, 46, 47, 48, 49, 50, 51, 52, 53, 54, 55, 56, 57, 58, 59, 60, 61, 62, 63, 64, 65, 66, 67, 68, 69, 70, 71, 72, 113, 114, 115, 102, 103, 104, 105, 106, 107, 108, 109, 110, 111, 112, 119, 120, 121, 122, 123, 124, 125, 126, 127, 128, 129, 130, 131] (by decide +kernel) (by decide +kernel)
set_option maxRecDepth 20000 in
theorem gX6_init_X3_init : GoodIn wsX6_init (wsX3_init) := ggX6_init_X3_init
set_option maxRecDepth 20000 in
theorem ggX6_init_X0_init : GoodIn wsX6_init wsX0_init := goodIn_r _ [83, 84, 2, 3, 4, 85, 86, 87, 116, 117, 118] (by decide +kernel) (by decide +kernel)
set_option maxRecDepth 20000 in
theorem gX6_init_X0_init_n51 : GoodIn wsX6_init (wsX0_init) := ggX6_init_X0_init
theorem dX6_init_0 : decode cX6_init 0 = .ok (.aload_n 0, 1) := by decide +kernel
theorem dX6_init_1 : decode cX6_init 1 = .ok (.invokespecial 3, 3) := by decide +kernel
theorem dX6_init_4 : decode cX6_init 4 = .ok (.aload_n 0, 1) := by decide +kernel
theorem dX6_init_5 : decode cX6_init 5 = .ok (.sipush 140, 3) := by decide +kernel
theorem dX6_init_8 : decode cX6_init 8 = .ok (.newarray .int, 2) := by decide +kernel
theorem dX6_init_10 : decode cX6_init 10 = .ok (.putfield 9, 3) := by decide +kernel
theorem dX6_init_13 : decode cX6_init 13 = .ok (.aload_n 0, 1) := by decide +kernel
theorem dX6_init_14 : decode cX6_init 14 = .ok (.iconst 0, 1) := by decide +kernel
theorem dX6_init_15 : decode cX6_init 15 = .ok (.putfield 13, 3) := by decide +kernel
theorem dX6_init_18 : decode cX6_init 18 = .ok (.aload_n 0, 1) := by decide +kernel
theorem dX6_init_19 : decode cX6_init 19 = .ok (.new 17, 3) := by decide +kernel
theorem dX6_init_22 : decode cX6_init 22 = .ok (.dup, 1) := by decide +kernel
theorem dX6_init_23 : decode cX6_init 23 = .ok (.invokespecial 19, 3) := by decide +kernel
theorem dX6_init_26 : decode cX6_init 26 = .ok (.putfield 20, 3) := by decide +kernel
theorem dX6_init_29 : decode cX6_init 29 = .ok (.aload_n 0, 1) := by decide +kernel
theorem dX6_init_30 : decode cX6_init 30 = .ok (.new 24, 3) := by decide +kernel
theorem dX6_init_33 : decode cX6_init 33 = .ok (.dup, 1) := by decide +kernel
theorem dX6_init_34 : decode cX6_init 34 = .ok (.invokespecial 26, 3) := by decide +kernel
theorem dX6_init_37 : decode cX6_init 37 = .ok (.putfield 27, 3) := by decide +kernel
theorem dX6_init_40 : decode cX6_init 40 = .ok (.aload_n 0, 1) := by decide +kernel
theorem dX6_init_41 : decode cX6_init 41 = .ok (.new 24, 3) := by decide +kernel
theorem dX6_init_44 : decode cX6_init 44 = .ok (.dup, 1) := by decide +kernel
theorem dX6_init_45 : decode cX6_init 45 = .ok (.invokespecial 26, 3) := by decide +kernel
theorem dX6_init_48 : decode cX6_init 48 = .ok (.putfield 31, 3) := by decide +kernel
theorem dX6_init_51 : decode cX6_init 51 = .ok (.aload_n 0, 1) := by decide +kernel
theorem dX6_init_52 : decode cX6_init 52 = .ok (.new 34, 3) := by decide +kernel
theorem dX6_init_55 : decode cX6_init 55 = .ok (.dup, 1) := by decide +kernel
theorem dX6_init_56 : decode cX6_init 56 = .ok (.invokespecial 36, 3) := by decide +kernel
theorem dX6_init_59 : decode cX6_init 59 = .ok (.putfield 37, 3) := by decide +kernel
theorem dX6_init_62 : decode cX6_init 62 = .ok (.aload_n 0, 1) := by decide +kernel
theorem dX6_init_63 : decode cX6_init 63 = .ok (.iconst 2, 1) := by decide +kernel
theorem dX6_init_64 : decode cX6_init 64 = .ok (.anewarray 24, 3) := by decide +kernel
theorem dX6_init_67 : decode cX6_init 67 = .ok (.putfield 41, 3) := by decide +kernel
theorem dX6_init_70 : decode cX6_init 70 = .ok (.aload_n 0, 1) := by decide +kernel
theorem dX6_init_71 : decode cX6_init 71 = .ok (.iconst 2, 1) := by decide +kernel
theorem dX6_init_72 : decode cX6_init 72 = .ok (.newarray .boolean, 2) := by decide +kernel
theorem dX6_init_74 : decode cX6_init 74 = .ok (.putfield 45, 3) := by decide +kernel
theorem dX6_init_77 : decode cX6_init 77 = .ok (.aload_n 0, 1) := by decide +kernel
theorem dX6_init_78 : decode cX6_init 78 = .ok (.new 49, 3) := by decide +kernel
theorem dX6_init_81 : decode cX6_init 81 = .ok (.dup, 1) := by decide +kernel
theorem dX6_init_82 : decode cX6_init 82 = .ok (.invokespecial 51, 3) := by decide +kernel
theorem dX6_init_85 : decode cX6_init 85 = .ok (.putfield 52, 3) := by decide +kernel
theorem dX6_init_88 : decode cX6_init 88 = .ok (.iconst 0, 1) := by decide +kernel
theorem dX6_init_89 : decode cX6_init 89 = .ok (.istore_n 1, 1) := by decide +kernel
theorem dX6_init_90 : decode cX6_init 90 = .ok (.iload_n 1, 1) := by decide +kernel
theorem dX6_init_91 : decode cX6_init 91 = .ok (.iconst 2, 1) := by decide +kernel
theorem dX6_init_92 : decode cX6_init 92 = .ok (.if_icmp .ge 22, 3) := by decide +kernel
theorem dX6_init_95 : decode cX6_init 95 = .ok (.aload_n 0, 1) := by decide +kernel
theorem dX6_init_96 : decode cX6_init 96 = .ok (.getfield 41, 3) := by decide +kernel
theorem dX6_init_99 : decode cX6_init 99 = .ok (.iload_n 1, 1) := by decide +kernel
theorem dX6_init_100 : decode cX6_init 100 = .ok (.new 24, 3) := by decide +kernel
theorem dX6_init_103 : decode cX6_init 103 = .ok (.dup, 1) := by decide +kernel
theorem dX6_init_104 : decode cX6_init 104 = .ok (.invokespecial 26, 3) := by decide +kernel
theorem dX6_init_107 : decode cX6_init 107 = .ok (.aastore, 1) := by decide +kernel
theorem dX6_init_108 : decode cX6_init 108 = .ok (.iinc 1 1, 3) := by decide +kernel
theorem dX6_init_111 : decode cX6_init 111 = .ok (.goto (-21), 3) := by decide +kernel
theorem dX6_init_114 : decode cX6_init 114 = .ok (.return_, 1) := by decide +kernel
theorem dX6_append_0 : decode cX6_append 0 = .ok (.iload_n 1, 1) := by decide +kernel
theorem dX6_append_1 : decode cX6_append 1 = .ok (.ifCond .lt 10, 3) := by decide +kernel
theorem dX6_append_4 : decode cX6_append 4 = .ok (.iload_n 1, 1) := by decide +kernel
theorem dX6_append_5 : decode cX6_append 5 = .ok (.sipush 256, 3) := by decide +kernel
theorem dX6_append_8 : decode cX6_append 8 = .ok (.if_icmp .lt 13, 3) := by decide +kernel
theorem dX6_append_11 : decode cX6_append 11 = .ok (.new 56, 3) := by decide +kernel
theorem dX6_append_14 : decode cX6_append 14 = .ok (.dup, 1) := by decide +kernel
theorem dX6_append_15 : decode cX6_append 15 = .ok (.ldc 58, 2) := by decide +kernel
theorem dX6_append_17 : decode cX6_append 17 = .ok (.invokespecial 60, 3) := by decide +kernel
theorem dX6_append_20 : decode cX6_append 20 = .ok (.athrow, 1) := by decide +kernel
theorem dX6_append_21 : decode cX6_append 21 = .ok (.aload_n 0, 1) := by decide +kernel
theorem dX6_append_22 : decode cX6_append 22 = .ok (.getfield 13, 3) := by decide +kernel
theorem dX6_append_25 : decode cX6_append 25 = .ok (.sipush 140, 3) := by decide +kernel
theorem dX6_append_28 : decode cX6_append 28 = .ok (.if_icmp .lt 13, 3) := by decide +kernel
theorem dX6_append_31 : decode cX6_append 31 = .ok (.new 63, 3) := by decide +kernel
theorem dX6_append_34 : decode cX6_append 34 = .ok (.dup, 1) := by decide +kernel
theorem dX6_append_35 : decode cX6_append 35 = .ok (.ldc 65, 2) := by decide +kernel
theorem dX6_append_37 : decode cX6_append 37 = .ok (.invokespecial 67, 3) := by decide +kernel
theorem dX6_append_40 : decode cX6_append 40 = .ok (.athrow, 1) := by decide +kernel
theorem dX6_append_41 : decode cX6_append 41 = .ok (.aload_n 0, 1) := by decide +kernel
theorem dX6_append_42 : decode cX6_append 42 = .ok (.getfield 9, 3) := by decide +kernel
theorem dX6_append_45 : decode cX6_append 45 = .ok (.aload_n 0, 1) := by decide +kernel
theorem dX6_append_46 : decode cX6_append 46 = .ok (.getfield 13, 3) := by decide +kernel
theorem dX6_append_49 : decode cX6_append 49 = .ok (.iload_n 1, 1) := by decide +kernel
theorem dX6_append_50 : decode cX6_append 50 = .ok (.iastore, 1) := by decide +kernel
theorem dX6_append_51 : decode cX6_append 51 = .ok (.aload_n 0, 1) := by decide +kernel
theorem dX6_append_52 : decode cX6_append 52 = .ok (.dup, 1) := by decide +kernel
theorem dX6_append_53 : decode cX6_append 53 = .ok (.getfield 13, 3) := by decide +kernel
theorem dX6_append_56 : decode cX6_append 56 = .ok (.iconst 1, 1) := by decide +kernel
theorem dX6_append_57 : decode cX6_append 57 = .ok (.iadd, 1) := by decide +kernel
theorem dX6_append_58 : decode cX6_append 58 = .ok (.putfield 13, 3) := by decide +kernel
theorem dX6_append_61 : decode cX6_append 61 = .ok (.aload_n 0, 1) := by decide +kernel
theorem dX6_append_62 : decode cX6_append 62 = .ok (.getfield 13, 3) := by decide +kernel
theorem dX6_append_65 : decode cX6_append 65 = .ok (.ireturn, 1) := by decide +kernel
theorem dX6_clearText_0 : decode cX6_clearText 0 = .ok (.aload_n 0, 1) := by decide +kernel
theorem dX6_clearText_1 : decode cX6_clearText 1 = .ok (.getfield 13, 3) := by decide +kernel
theorem dX6_clearText_4 : decode cX6_clearText 4 = .ok (.istore_n 1, 1) := by decide +kernel
theorem dX6_clearText_5 : decode cX6_clearText 5 = .ok (.aload_n 0, 1) := by decide +kernel
theorem dX6_clearText_6 : decode cX6_clearText 6 = .ok (.iconst 0, 1) := by decide +kernel
theorem dX6_clearText_7 : decode cX6_clearText 7 = .ok (.putfield 13, 3) := by decide +kernel
theorem dX6_clearText_10 : decode cX6_clearText 10 = .ok (.iload_n 1, 1) := by decide +kernel
theorem dX6_clearText_11 : decode cX6_clearText 11 = .ok (.ireturn, 1) := by decide +kernel
set_option maxRecDepth 20000 in
theorem ggX6_errorPosition_X5_readInto : GoodIn wsX6_errorPosition wsX5_readInto := goodIn_r _ [9, 10, 11, 12, 13, 14, 15, 16, 17, 18, 19, 20, 21, 22, 23, 24, 25, 26, 27, 28, 29, 30, 31, 32, 33, 34, 35, 36, 37, 38, 39, 40, 41, 42, 43, 44, 45, 46, 47, 48, 49, 8, 50, 51, 52, 53, 54, 55, 56, 57, 58, 59, 60, 61, 62, 63, 64, 65, 66, 67, 68, 69, 70, 71, 72, 73, 74, 75, 76, 77, 78, 79, 80, 81, 82, 83, 84, 85, 86, 87, 88, 89, 90, 91, 92, 93, 94, 95, 96, 97, 98, 99, 100, 110, 111, 112, 113, 114, 115, 116, 117, 118, 119, 120, 121, 122, 123, 124, 125, 126, 127, 128, 129, 130, 131, 132, 133, 134, 135, 136, 137, 138] (by decide +kernel) (by decide +kernel)
set_option maxRecDepth 20000 in
theorem gX6_errorPosition_X5_readInto : GoodIn wsX6_errorPosition (wsV RX6 68 RX5 yX5_readInto wsX5_readInto) := goodIn_app (goodIn_of _ (by decide +kernel)) ggX6_errorPosition_X5_readInto
theorem dX6_errorPosition_0 : decode cX6_errorPosition 0 = .ok (.aload_n 0, 1) := by decide +kernel
theorem dX6_errorPosition_1 : decode cX6_errorPosition 1 = .ok (.getfield 20, 3) := by decide +kernel
theorem dX6_errorPosition_4 : decode cX6_errorPosition 4 = .ok (.aload_n 0, 1) := by decide +kernel
theorem dX6_errorPosition_5 : decode cX6_errorPosition 5 = .ok (.getfield 31, 3) := by decide +kernel
theorem dX6_errorPosition_8 : decode cX6_errorPosition 8 = .ok (.aload_n 0, 1) := by decide +kernel
theorem dX6_errorPosition_9 : decode cX6_errorPosition 9 = .ok (.getfield 9, 3) := by decide +kernel
theorem dX6_errorPosition_12 : decode cX6_errorPosition 12 = .ok (.aload_n 0, 1) := by decide +kernel
theorem dX6_errorPosition_13 : decode cX6_errorPosition 13 = .ok (.getfield 13, 3) := by decide +kernel
theorem dX6_errorPosition_16 : decode cX6_errorPosition 16 = .ok (.invokevirtual 68, 3) := by decide +kernel
theorem dX6_errorPosition_19 : decode cX6_errorPosition 19 = .ok (.ireturn, 1) := by decide +kernel
set_option maxRecDepth 20000 in
theorem ggX6_load_X5_readInto : GoodIn wsX6_load wsX5_readInto := goodIn_r _ [14, 15, 16, 17, 18, 19, 20, 21, 22, 23, 24, 25, 26, 27, 28, 29, 30, 31, 32, 33, 34, 35, 36, 37, 38, 39, 40, 41, 42, 43, 44, 45, 46, 47, 48, 49, 50, 51, 52, 53, 54, 13, 55, 56, 57, 58, 59, 60, 61, 62, 63, 64, 65, 66, 67, 68, 69, 70, 71, 72, 73, 74, 75, 76, 77, 78, 79, 80, 81, 82, 83, 84, 85, 86, 87, 88, 89, 90, 91, 92, 93, 94, 95, 96, 97, 98, 99, 100, 101, 102, 103, 104, 105, 150, 151, 152, 153, 154, 155, 156, 157, 158, 159, 160, 161, 162, 163, 164, 165, 166, 167, 168, 169, 170, 171, 172, 173, 174, 175, 176, 177, 178] (by decide +kernel) (by decide +kernel)
set_option maxRecDepth 20000 in
theorem gX6_load_X5_readInto : GoodIn wsX6_load (wsV RX6 68 RX5 yX5_readInto wsX5_readInto) := goodIn_app (goodIn_of _ (by decide +kernel)) ggX6_load_X5_readInto
set_option maxRecDepth 20000 in
theorem ggX6_load_X2_copyFrom : GoodIn wsX6_load wsX2_copyFrom := goodIn_r _ [109, 23, 110, 111, 112, 113, 24, 25, 26, 27, 28, 29, 30, 31, 114, 115, 116, 39, 117, 48, 41, 49, 42, 43, 50, 51, 118, 119, 120, 121, 122, 123, 124, 125, 126, 21, 127, 128, 129, 32, 33, 34, 35, 155, 156, 157, 158, 159, 160, 161, 162, 163, 164, 165, 166, 167, 168, 169, 170, 171, 172, 173, 174, 175, 176, 177, 178] (by decide +kernel) (by decide +kernel)
set_option maxRecDepth 20000 in
theorem gX6_load_X2_copyFrom : GoodIn wsX6_load (wsV RX6 74 RX2 yX2_copyFrom wsX2_copyFrom) := goodIn_app (goodIn_of _ (by decide +kernel)) ggX6_load_X2_copyFrom
set_option maxRecDepth 20000 in
theorem ggX6_load_X3_forget : GoodIn wsX6_load wsX3_forget := goodIn_r _ [134, 135, 179, 180, 181] (by decide +kernel) (by decide +kernel)
set_option maxRecDepth 20000 in
theorem gX6_load_X3_forget : GoodIn wsX6_load (wsV RX6 78 RX3 yX3_forget wsX3_forget) := goodIn_app (goodIn_of _ (by decide +kernel)) ggX6_load_X3_forget
set_option maxRecDepth 20000 in
theorem ggX6_load_X2_channelsThatAre : GoodIn wsX6_load wsX2_channelsThatAre := goodIn_r _ [139, 27, 140, 155, 156, 157, 158, 159, 160, 161, 162, 163, 164, 165, 166, 167, 168, 169, 170, 171, 172, 173, 174, 175, 176, 177, 178] (by decide +kernel) (by decide +kernel)
set_option maxRecDepth 20000 in
theorem gX6_load_X2_channelsThatAre : GoodIn wsX6_load (wsV RX6 81 RX2 yX2_channelsThatAre wsX2_channelsThatAre) := goodIn_app (goodIn_of _ (by decide +kernel)) ggX6_load_X2_channelsThatAre
theorem dX6_load_0 : decode cX6_load 0 = .ok (.aload_n 0, 1) := by decide +kernel
theorem dX6_load_1 : decode cX6_load 1 = .ok (.getfield 20, 3) := by decide +kernel
theorem dX6_load_4 : decode cX6_load 4 = .ok (.aload_n 0, 1) := by decide +kernel
theorem dX6_load_5 : decode cX6_load 5 = .ok (.getfield 31, 3) := by decide +kernel
theorem dX6_load_8 : decode cX6_load 8 = .ok (.aload_n 0, 1) := by decide +kernel
theorem dX6_load_9 : decode cX6_load 9 = .ok (.getfield 9, 3) := by decide +kernel
theorem dX6_load_12 : decode cX6_load 12 = .ok (.aload_n 0, 1) := by decide +kernel
theorem dX6_load_13 : decode cX6_load 13 = .ok (.getfield 13, 3) := by decide +kernel
theorem dX6_load_16 : decode cX6_load 16 = .ok (.invokevirtual 68, 3) := by decide +kernel
theorem dX6_load_19 : decode cX6_load 19 = .ok (.bipush (-9), 2) := by decide +kernel
theorem dX6_load_21 : decode cX6_load 21 = .ok (.if_icmp .eq 13, 3) := by decide +kernel
theorem dX6_load_24 : decode cX6_load 24 = .ok (.new 63, 3) := by decide +kernel
theorem dX6_load_27 : decode cX6_load 27 = .ok (.dup, 1) := by decide +kernel
theorem dX6_load_28 : decode cX6_load 28 = .ok (.ldc 72, 2) := by decide +kernel
theorem dX6_load_30 : decode cX6_load 30 = .ok (.invokespecial 67, 3) := by decide +kernel
theorem dX6_load_33 : decode cX6_load 33 = .ok (.athrow, 1) := by decide +kernel
theorem dX6_load_34 : decode cX6_load 34 = .ok (.aload_n 0, 1) := by decide +kernel
theorem dX6_load_35 : decode cX6_load 35 = .ok (.getfield 27, 3) := by decide +kernel
theorem dX6_load_38 : decode cX6_load 38 = .ok (.aload_n 0, 1) := by decide +kernel
theorem dX6_load_39 : decode cX6_load 39 = .ok (.getfield 31, 3) := by decide +kernel
theorem dX6_load_42 : decode cX6_load 42 = .ok (.invokevirtual 74, 3) := by decide +kernel
theorem dX6_load_45 : decode cX6_load 45 = .ok (.aload_n 0, 1) := by decide +kernel
theorem dX6_load_46 : decode cX6_load 46 = .ok (.getfield 37, 3) := by decide +kernel
theorem dX6_load_49 : decode cX6_load 49 = .ok (.invokevirtual 78, 3) := by decide +kernel
theorem dX6_load_52 : decode cX6_load 52 = .ok (.iconst 0, 1) := by decide +kernel
theorem dX6_load_53 : decode cX6_load 53 = .ok (.istore_n 1, 1) := by decide +kernel
theorem dX6_load_54 : decode cX6_load 54 = .ok (.iload_n 1, 1) := by decide +kernel
theorem dX6_load_55 : decode cX6_load 55 = .ok (.iconst 2, 1) := by decide +kernel
theorem dX6_load_56 : decode cX6_load 56 = .ok (.if_icmp .ge 16, 3) := by decide +kernel
theorem dX6_load_59 : decode cX6_load 59 = .ok (.aload_n 0, 1) := by decide +kernel
theorem dX6_load_60 : decode cX6_load 60 = .ok (.getfield 45, 3) := by decide +kernel
theorem dX6_load_63 : decode cX6_load 63 = .ok (.iload_n 1, 1) := by decide +kernel
theorem dX6_load_64 : decode cX6_load 64 = .ok (.iconst 0, 1) := by decide +kernel
theorem dX6_load_65 : decode cX6_load 65 = .ok (.bastore, 1) := by decide +kernel
theorem dX6_load_66 : decode cX6_load 66 = .ok (.iinc 1 1, 3) := by decide +kernel
theorem dX6_load_69 : decode cX6_load 69 = .ok (.goto (-15), 3) := by decide +kernel
theorem dX6_load_72 : decode cX6_load 72 = .ok (.aload_n 0, 1) := by decide +kernel
theorem dX6_load_73 : decode cX6_load 73 = .ok (.getfield 27, 3) := by decide +kernel
theorem dX6_load_76 : decode cX6_load 76 = .ok (.iconst 1, 1) := by decide +kernel
theorem dX6_load_77 : decode cX6_load 77 = .ok (.invokevirtual 81, 3) := by decide +kernel
theorem dX6_load_80 : decode cX6_load 80 = .ok (.ireturn, 1) := by decide +kernel
set_option maxRecDepth 20000 in
theorem ggX6_about_X2_channelsThatAre : GoodIn wsX6_about wsX2_channelsThatAre := goodIn_r _ [11, 12, 13, 43, 44, 45, 46, 47, 48, 49, 50, 51, 52, 53, 54, 55, 56, 57, 58, 59, 60, 61, 62, 63, 64, 65, 66] (by decide +kernel) (by decide +kernel)
set_option maxRecDepth 20000 in
theorem gX6_about_X2_channelsThatAre : GoodIn wsX6_about (wsV RX6 81 RX2 yX2_channelsThatAre wsX2_channelsThatAre) := goodIn_app (goodIn_of _ (by decide +kernel)) ggX6_about_X2_channelsThatAre
set_option maxRecDepth 20000 in
theorem ggX6_about_X2_nextTurn : GoodIn wsX6_about wsX2_nextTurn := goodIn_r _ [17, 18, 12, 13, 43, 44, 45, 46, 47, 48, 49, 50, 51, 52, 53, 54, 55, 56, 57, 58, 59, 60, 61, 62, 63, 64, 65, 66] (by decide +kernel) (by decide +kernel)
set_option maxRecDepth 20000 in
theorem gX6_about_X2_nextTurn : GoodIn wsX6_about (wsV RX6 88 RX2 yX2_nextTurn wsX2_nextTurn) := goodIn_app (goodIn_of _ (by decide +kernel)) ggX6_about_X2_nextTurn
set_option maxRecDepth 20000 in
theorem ggX6_about_X2_sumOfValues : GoodIn wsX6_about wsX2_sumOfValues := goodIn_r _ [22, 23, 43, 44, 45, 46, 47, 48, 49, 50, 51, 52, 53] (by decide +kernel) (by decide +kernel)
set_option maxRecDepth 20000 in
theorem gX6_about_X2_sumOfValues : GoodIn wsX6_about (wsV RX6 92 RX2 yX2_sumOfValues wsX2_sumOfValues) := goodIn_app (goodIn_of _ (by decide +kernel)) ggX6_about_X2_sumOfValues
set_option maxRecDepth 20000 in
theorem ggX6_about_X2_markedCells : GoodIn wsX6_about wsX2_markedCells := goodIn_r _ [27, 28, 43, 44, 45, 46, 47, 48, 49, 50, 51, 52, 53] (by decide +kernel) (by decide +kernel)
set_option maxRecDepth 20000 in
theorem gX6_about_X2_markedCells : GoodIn wsX6_about (wsV RX6 101 RX2 yX2_markedCells wsX2_markedCells) := goodIn_app (goodIn_of _ (by decide +kernel)) ggX6_about_X2_markedCells
set_option maxRecDepth 20000 in
theorem ggX6_about_X2_ownedCells : GoodIn wsX6_about wsX2_ownedCells := goodIn_r _ [32, 33, 43, 44, 45, 46, 47, 48, 49, 50, 51, 52, 53] (by decide +kernel) (by decide +kernel)
set_option maxRecDepth 20000 in
theorem gX6_about_X2_ownedCells : GoodIn wsX6_about (wsV RX6 104 RX2 yX2_ownedCells wsX2_ownedCells) := goodIn_app (goodIn_of _ (by decide +kernel)) ggX6_about_X2_ownedCells
theorem dX6_about_0 : decode cX6_about 0 = .ok (.iload_n 1, 1) := by decide +kernel
theorem dX6_about_1 : decode cX6_about 1 = .ok (.tableswitch 138 0 9 #[55, 63, 72, 81, 90, 98, 106, 114, 122, 130], 55) := by decide +kernel
theorem dX6_about_56 : decode cX6_about 56 = .ok (.aload_n 0, 1) := by decide +kernel
theorem dX6_about_57 : decode cX6_about 57 = .ok (.getfield 27, 3) := by decide +kernel
theorem dX6_about_60 : decode cX6_about 60 = .ok (.getfield 85, 3) := by decide +kernel
theorem dX6_about_63 : decode cX6_about 63 = .ok (.ireturn, 1) := by decide +kernel
theorem dX6_about_64 : decode cX6_about 64 = .ok (.aload_n 0, 1) := by decide +kernel
theorem dX6_about_65 : decode cX6_about 65 = .ok (.getfield 27, 3) := by decide +kernel
theorem dX6_about_68 : decode cX6_about 68 = .ok (.iconst 1, 1) := by decide +kernel
theorem dX6_about_69 : decode cX6_about 69 = .ok (.invokevirtual 81, 3) := by decide +kernel
theorem dX6_about_72 : decode cX6_about 72 = .ok (.ireturn, 1) := by decide +kernel
theorem dX6_about_73 : decode cX6_about 73 = .ok (.aload_n 0, 1) := by decide +kernel
theorem dX6_about_74 : decode cX6_about 74 = .ok (.getfield 27, 3) := by decide +kernel
theorem dX6_about_77 : decode cX6_about 77 = .ok (.iconst 2, 1) := by decide +kernel
theorem dX6_about_78 : decode cX6_about 78 = .ok (.invokevirtual 81, 3) := by decide +kernel
theorem dX6_about_81 : decode cX6_about 81 = .ok (.ireturn, 1) := by decide +kernel
theorem dX6_about_82 : decode cX6_about 82 = .ok (.aload_n 0, 1) := by decide +kernel
theorem dX6_about_83 : decode cX6_about 83 = .ok (.getfield 27, 3) := by decide +kernel
theorem dX6_about_86 : decode cX6_about 86 = .ok (.iconst 3, 1) := by decide +kernel
theorem dX6_about_87 : decode cX6_about 87 = .ok (.invokevirtual 81, 3) := by decide +kernel
theorem dX6_about_90 : decode cX6_about 90 = .ok (.ireturn, 1) := by decide +kernel
theorem dX6_about_91 : decode cX6_about 91 = .ok (.aload_n 0, 1) := by decide +kernel
theorem dX6_about_92 : decode cX6_about 92 = .ok (.getfield 27, 3) := by decide +kernel
theorem dX6_about_95 : decode cX6_about 95 = .ok (.invokevirtual 88, 3) := by decide +kernel
theorem dX6_about_98 : decode cX6_about 98 = .ok (.ireturn, 1) := by decide +kernel
theorem dX6_about_99 : decode cX6_about 99 = .ok (.aload_n 0, 1) := by decide +kernel
theorem dX6_about_100 : decode cX6_about 100 = .ok (.getfield 27, 3) := by decide +kernel
theorem dX6_about_103 : decode cX6_about 103 = .ok (.invokevirtual 92, 3) := by decide +kernel
theorem dX6_about_106 : decode cX6_about 106 = .ok (.ireturn, 1) := by decide +kernel
theorem dX6_about_107 : decode cX6_about 107 = .ok (.aload_n 0, 1) := by decide +kernel
theorem dX6_about_108 : decode cX6_about 108 = .ok (.getfield 27, 3) := by decide +kernel
theorem dX6_about_111 : decode cX6_about 111 = .ok (.getfield 95, 3) := by decide +kernel
theorem dX6_about_114 : decode cX6_about 114 = .ok (.ireturn, 1) := by decide +kernel
theorem dX6_about_115 : decode cX6_about 115 = .ok (.aload_n 0, 1) := by decide +kernel
theorem dX6_about_116 : decode cX6_about 116 = .ok (.getfield 27, 3) := by decide +kernel
theorem dX6_about_119 : decode cX6_about 119 = .ok (.getfield 98, 3) := by decide +kernel
theorem dX6_about_122 : decode cX6_about 122 = .ok (.ireturn, 1) := by decide +kernel
theorem dX6_about_123 : decode cX6_about 123 = .ok (.aload_n 0, 1) := by decide +kernel
theorem dX6_about_124 : decode cX6_about 124 = .ok (.getfield 27, 3) := by decide +kernel
theorem dX6_about_127 : decode cX6_about 127 = .ok (.invokevirtual 101, 3) := by decide +kernel
theorem dX6_about_130 : decode cX6_about 130 = .ok (.ireturn, 1) := by decide +kernel
theorem dX6_about_131 : decode cX6_about 131 = .ok (.aload_n 0, 1) := by decide +kernel
theorem dX6_about_132 : decode cX6_about 132 = .ok (.getfield 27, 3) := by decide +kernel
theorem dX6_about_135 : decode cX6_about 135 = .ok (.invokevirtual 104, 3) := by decide +kernel
theorem dX6_about_138 : decode cX6_about 138 = .ok (.ireturn, 1) := by decide +kernel
theorem dX6_about_139 : decode cX6_about 139 = .ok (.new 56, 3) := by decide +kernel
theorem dX6_about_142 : decode cX6_about 142 = .ok (.dup, 1) := by decide +kernel
theorem dX6_about_143 : decode cX6_about 143 = .ok (.ldc 107, 2) := by decide +kernel
theorem dX6_about_145 : decode cX6_about 145 = .ok (.invokespecial 60, 3) := by decide +kernel
theorem dX6_about_148 : decode cX6_about 148 = .ok (.athrow, 1) := by decide +kernel
set_option maxRecDepth 20000 in
theorem ggX6_cell_X6_isCell : GoodIn wsX6_cell wsX6_isCell := goodIn_r _ [13] (by decide +kernel) (by decide +kernel)
set_option maxRecDepth 20000 in
theorem gX6_cell_X6_isCell : GoodIn wsX6_cell (va_wsS RX6 109 yX6_isCell wsX6_isCell) := goodIn_app (goodIn_of _ (by decide +kernel)) ggX6_cell_X6_isCell
theorem dX6_cell_0 : decode cX6_cell 0 = .ok (.iload_n 1, 1) := by decide +kernel
theorem dX6_cell_1 : decode cX6_cell 1 = .ok (.invokestatic 109, 3) := by decide +kernel
theorem dX6_cell_4 : decode cX6_cell 4 = .ok (.ifCond .ne 13, 3) := by decide +kernel
theorem dX6_cell_7 : decode cX6_cell 7 = .ok (.new 113, 3) := by decide +kernel
theorem dX6_cell_10 : decode cX6_cell 10 = .ok (.dup, 1) := by decide +kernel
theorem dX6_cell_11 : decode cX6_cell 11 = .ok (.ldc 115, 2) := by decide +kernel
theorem dX6_cell_13 : decode cX6_cell 13 = .ok (.invokespecial 117, 3) := by decide +kernel
theorem dX6_cell_16 : decode cX6_cell 16 = .ok (.athrow, 1) := by decide +kernel
theorem dX6_cell_17 : decode cX6_cell 17 = .ok (.iload_n 2, 1) := by decide +kernel
theorem dX6_cell_18 : decode cX6_cell 18 = .ok (.tableswitch 70 0 3 #[30, 40, 50, 60], 30) := by decide +kernel
theorem dX6_cell_48 : decode cX6_cell 48 = .ok (.aload_n 0, 1) := by decide +kernel
theorem dX6_cell_49 : decode cX6_cell 49 = .ok (.getfield 27, 3) := by decide +kernel
theorem dX6_cell_52 : decode cX6_cell 52 = .ok (.getfield 118, 3) := by decide +kernel
theorem dX6_cell_55 : decode cX6_cell 55 = .ok (.iload_n 1, 1) := by decide +kernel
theorem dX6_cell_56 : decode cX6_cell 56 = .ok (.iaload, 1) := by decide +kernel
theorem dX6_cell_57 : decode cX6_cell 57 = .ok (.ireturn, 1) := by decide +kernel
theorem dX6_cell_58 : decode cX6_cell 58 = .ok (.aload_n 0, 1) := by decide +kernel
theorem dX6_cell_59 : decode cX6_cell 59 = .ok (.getfield 27, 3) := by decide +kernel
theorem dX6_cell_62 : decode cX6_cell 62 = .ok (.getfield 121, 3) := by decide +kernel
theorem dX6_cell_65 : decode cX6_cell 65 = .ok (.iload_n 1, 1) := by decide +kernel
theorem dX6_cell_66 : decode cX6_cell 66 = .ok (.iaload, 1) := by decide +kernel
theorem dX6_cell_67 : decode cX6_cell 67 = .ok (.ireturn, 1) := by decide +kernel
theorem dX6_cell_68 : decode cX6_cell 68 = .ok (.aload_n 0, 1) := by decide +kernel
theorem dX6_cell_69 : decode cX6_cell 69 = .ok (.getfield 27, 3) := by decide +kernel
theorem dX6_cell_72 : decode cX6_cell 72 = .ok (.getfield 124, 3) := by decide +kernel
theorem dX6_cell_75 : decode cX6_cell 75 = .ok (.iload_n 1, 1) := by decide +kernel
theorem dX6_cell_76 : decode cX6_cell 76 = .ok (.iaload, 1) := by decide +kernel
theorem dX6_cell_77 : decode cX6_cell 77 = .ok (.ireturn, 1) := by decide +kernel
theorem dX6_cell_78 : decode cX6_cell 78 = .ok (.aload_n 0, 1) := by decide +kernel
theorem dX6_cell_79 : decode cX6_cell 79 = .ok (.getfield 27, 3) := by decide +kernel
theorem dX6_cell_82 : decode cX6_cell 82 = .ok (.getfield 127, 3) := by decide +kernel
theorem dX6_cell_85 : decode cX6_cell 85 = .ok (.iload_n 1, 1) := by decide +kernel
theorem dX6_cell_86 : decode cX6_cell 86 = .ok (.iaload, 1) := by decide +kernel
theorem dX6_cell_87 : decode cX6_cell 87 = .ok (.ireturn, 1) := by decide +kernel
theorem dX6_cell_88 : decode cX6_cell 88 = .ok (.new 56, 3) := by decide +kernel
theorem dX6_cell_91 : decode cX6_cell 91 = .ok (.dup, 1) := by decide +kernel
theorem dX6_cell_92 : decode cX6_cell 92 = .ok (.ldc 130, 2) := by decide +kernel
theorem dX6_cell_94 : decode cX6_cell 94 = .ok (.invokespecial 60, 3) := by decide +kernel
theorem dX6_cell_97 : decode cX6_cell 97 = .ok (.athrow, 1) := by decide +kernel
set_option maxRecDepth 20000 in
theorem ggX6_channel_X6_isChannel : GoodIn wsX6_channel wsX6_isChannel := goodIn_r _ [18] (by decide +kernel) (by decide +kernel)
set_option maxRecDepth 20000 in
theorem gX6_channel_X6_isChannel : GoodIn wsX6_channel (va_wsS RX6 132 yX6_isChannel wsX6_isChannel) := goodIn_app (goodIn_of _ (by decide +kernel)) ggX6_channel_X6_isChannel
set_option maxRecDepth 20000 in
theorem ggX6_channel_X1_hasOrder : GoodIn wsX6_channel wsX1_hasOrder := goodIn_r _ [23, 24, 45, 46, 47, 48, 49, 50, 51, 52, 53, 54, 55, 56, 57] (by decide +kernel) (by decide +kernel)
set_option maxRecDepth 20000 in
theorem gX6_channel_X1_hasOrder : GoodIn wsX6_channel (wsV RX6 155 RX1 yX1_hasOrder wsX1_hasOrder) := goodIn_app (goodIn_of _ (by decide +kernel)) ggX6_channel_X1_hasOrder
theorem dX6_channel_0 : decode cX6_channel 0 = .ok (.iload_n 1, 1) := by decide +kernel
theorem dX6_channel_1 : decode cX6_channel 1 = .ok (.invokestatic 132, 3) := by decide +kernel
theorem dX6_channel_4 : decode cX6_channel 4 = .ok (.ifCond .ne 13, 3) := by decide +kernel
theorem dX6_channel_7 : decode cX6_channel 7 = .ok (.new 113, 3) := by decide +kernel
theorem dX6_channel_10 : decode cX6_channel 10 = .ok (.dup, 1) := by decide +kernel
theorem dX6_channel_11 : decode cX6_channel 11 = .ok (.ldc 135, 2) := by decide +kernel
theorem dX6_channel_13 : decode cX6_channel 13 = .ok (.invokespecial 117, 3) := by decide +kernel
theorem dX6_channel_16 : decode cX6_channel 16 = .ok (.athrow, 1) := by decide +kernel
theorem dX6_channel_17 : decode cX6_channel 17 = .ok (.aload_n 0, 1) := by decide +kernel
theorem dX6_channel_18 : decode cX6_channel 18 = .ok (.getfield 27, 3) := by decide +kernel
theorem dX6_channel_21 : decode cX6_channel 21 = .ok (.getfield 137, 3) := by decide +kernel
theorem dX6_channel_24 : decode cX6_channel 24 = .ok (.iload_n 1, 1) := by decide +kernel
theorem dX6_channel_25 : decode cX6_channel 25 = .ok (.aaload, 1) := by decide +kernel
theorem dX6_channel_26 : decode cX6_channel 26 = .ok (.astore_n 3, 1) := by decide +kernel
theorem dX6_channel_27 : decode cX6_channel 27 = .ok (.iload_n 2, 1) := by decide +kernel
theorem dX6_channel_28 : decode cX6_channel 28 = .ok (.tableswitch 100 0 7 #[48, 53, 58, 63, 68, 85, 90, 95], 48) := by decide +kernel
theorem dX6_channel_76 : decode cX6_channel 76 = .ok (.aload_n 3, 1) := by decide +kernel
theorem dX6_channel_77 : decode cX6_channel 77 = .ok (.getfield 141, 3) := by decide +kernel
theorem dX6_channel_80 : decode cX6_channel 80 = .ok (.ireturn, 1) := by decide +kernel
theorem dX6_channel_81 : decode cX6_channel 81 = .ok (.aload_n 3, 1) := by decide +kernel
theorem dX6_channel_82 : decode cX6_channel 82 = .ok (.getfield 146, 3) := by decide +kernel
theorem dX6_channel_85 : decode cX6_channel 85 = .ok (.ireturn, 1) := by decide +kernel
theorem dX6_channel_86 : decode cX6_channel 86 = .ok (.aload_n 3, 1) := by decide +kernel
theorem dX6_channel_87 : decode cX6_channel 87 = .ok (.getfield 149, 3) := by decide +kernel
theorem dX6_channel_90 : decode cX6_channel 90 = .ok (.ireturn, 1) := by decide +kernel
theorem dX6_channel_91 : decode cX6_channel 91 = .ok (.aload_n 3, 1) := by decide +kernel
theorem dX6_channel_92 : decode cX6_channel 92 = .ok (.getfield 152, 3) := by decide +kernel
theorem dX6_channel_95 : decode cX6_channel 95 = .ok (.ireturn, 1) := by decide +kernel
theorem dX6_channel_96 : decode cX6_channel 96 = .ok (.aload_n 3, 1) := by decide +kernel
theorem dX6_channel_97 : decode cX6_channel 97 = .ok (.invokevirtual 155, 3) := by decide +kernel
theorem dX6_channel_100 : decode cX6_channel 100 = .ok (.ifCond .eq 10, 3) := by decide +kernel
theorem dX6_channel_103 : decode cX6_channel 103 = .ok (.aload_n 3, 1) := by decide +kernel
theorem dX6_channel_104 : decode cX6_channel 104 = .ok (.getfield 159, 3) := by decide +kernel
theorem dX6_channel_107 : decode cX6_channel 107 = .ok (.goto 5, 3) := by decide +kernel
theorem dX6_channel_110 : decode cX6_channel 110 = .ok (.bipush (-9), 2) := by decide +kernel
theorem dX6_channel_112 : decode cX6_channel 112 = .ok (.ireturn, 1) := by decide +kernel
theorem dX6_channel_113 : decode cX6_channel 113 = .ok (.aload_n 3, 1) := by decide +kernel
theorem dX6_channel_114 : decode cX6_channel 114 = .ok (.getfield 162, 3) := by decide +kernel
theorem dX6_channel_117 : decode cX6_channel 117 = .ok (.ireturn, 1) := by decide +kernel
theorem dX6_channel_118 : decode cX6_channel 118 = .ok (.aload_n 3, 1) := by decide +kernel
theorem dX6_channel_119 : decode cX6_channel 119 = .ok (.getfield 165, 3) := by decide +kernel
theorem dX6_channel_122 : decode cX6_channel 122 = .ok (.ireturn, 1) := by decide +kernel
theorem dX6_channel_123 : decode cX6_channel 123 = .ok (.aload_n 3, 1) := by decide +kernel
theorem dX6_channel_124 : decode cX6_channel 124 = .ok (.getfield 168, 3) := by decide +kernel
theorem dX6_channel_127 : decode cX6_channel 127 = .ok (.ireturn, 1) := by decide +kernel
theorem dX6_channel_128 : decode cX6_channel 128 = .ok (.new 56, 3) := by decide +kernel
theorem dX6_channel_131 : decode cX6_channel 131 = .ok (.dup, 1) := by decide +kernel
theorem dX6_channel_132 : decode cX6_channel 132 = .ok (.ldc 171, 2) := by decide +kernel
theorem dX6_channel_134 : decode cX6_channel 134 = .ok (.invokespecial 60, 3) := by decide +kernel
theorem dX6_channel_137 : decode cX6_channel 137 = .ok (.athrow, 1) := by decide +kernel
set_option maxRecDepth 20000 in
theorem ggX6_chain_X6_isCell : GoodIn wsX6_chain wsX6_isCell := goodIn_r _ [13] (by decide +kernel) (by decide +kernel)
set_option maxRecDepth 20000 in
theorem gX6_chain_X6_isCell : GoodIn wsX6_chain (va_wsS RX6 109 yX6_isCell wsX6_isCell) := goodIn_app (goodIn_of _ (by decide +kernel)) ggX6_chain_X6_isCell
set_option maxRecDepth 20000 in
theorem ggX6_chain_X0_follow : GoodIn wsX6_chain wsX0_follow := goodIn_r _ [18, 19, 20, 21, 22, 23, 24, 25, 46, 47, 48] (by decide +kernel) (by decide +kernel)
set_option maxRecDepth 20000 in
theorem gX6_chain_X0_follow : GoodIn wsX6_chain (wsV RX6 175 RX0 yX0_follow wsX0_follow) := goodIn_app (goodIn_of _ (by decide +kernel)) ggX6_chain_X0_follow
theorem dX6_chain_0 : decode cX6_chain 0 = .ok (.iload_n 1, 1) := by decide +kernel
theorem dX6_chain_1 : decode cX6_chain 1 = .ok (.invokestatic 109, 3) := by decide +kernel
theorem dX6_chain_4 : decode cX6_chain 4 = .ok (.ifCond .ne 13, 3) := by decide +kernel
theorem dX6_chain_7 : decode cX6_chain 7 = .ok (.new 113, 3) := by decide +kernel
theorem dX6_chain_10 : decode cX6_chain 10 = .ok (.dup, 1) := by decide +kernel
theorem dX6_chain_11 : decode cX6_chain 11 = .ok (.ldc 115, 2) := by decide +kernel
theorem dX6_chain_13 : decode cX6_chain 13 = .ok (.invokespecial 117, 3) := by decide +kernel
theorem dX6_chain_16 : decode cX6_chain 16 = .ok (.athrow, 1) := by decide +kernel
theorem dX6_chain_17 : decode cX6_chain 17 = .ok (.iload_n 2, 1) := by decide +kernel
theorem dX6_chain_18 : decode cX6_chain 18 = .ok (.ifCond .eq 18, 3) := by decide +kernel
theorem dX6_chain_21 : decode cX6_chain 21 = .ok (.iload_n 2, 1) := by decide +kernel
theorem dX6_chain_22 : decode cX6_chain 22 = .ok (.iconst 1, 1) := by decide +kernel
theorem dX6_chain_23 : decode cX6_chain 23 = .ok (.if_icmp .eq 13, 3) := by decide +kernel
theorem dX6_chain_26 : decode cX6_chain 26 = .ok (.new 56, 3) := by decide +kernel
theorem dX6_chain_29 : decode cX6_chain 29 = .ok (.dup, 1) := by decide +kernel
theorem dX6_chain_30 : decode cX6_chain 30 = .ok (.ldc 173, 2) := by decide +kernel
theorem dX6_chain_32 : decode cX6_chain 32 = .ok (.invokespecial 60, 3) := by decide +kernel
theorem dX6_chain_35 : decode cX6_chain 35 = .ok (.athrow, 1) := by decide +kernel
theorem dX6_chain_36 : decode cX6_chain 36 = .ok (.aload_n 0, 1) := by decide +kernel
theorem dX6_chain_37 : decode cX6_chain 37 = .ok (.getfield 52, 3) := by decide +kernel
theorem dX6_chain_40 : decode cX6_chain 40 = .ok (.aload_n 0, 1) := by decide +kernel
theorem dX6_chain_41 : decode cX6_chain 41 = .ok (.getfield 27, 3) := by decide +kernel
theorem dX6_chain_44 : decode cX6_chain 44 = .ok (.getfield 118, 3) := by decide +kernel
theorem dX6_chain_47 : decode cX6_chain 47 = .ok (.iload_n 1, 1) := by decide +kernel
theorem dX6_chain_48 : decode cX6_chain 48 = .ok (.invokevirtual 175, 3) := by decide +kernel
theorem dX6_chain_51 : decode cX6_chain 51 = .ok (.iload_n 2, 1) := by decide +kernel
theorem dX6_chain_52 : decode cX6_chain 52 = .ok (.ifCond .ne 13, 3) := by decide +kernel
theorem dX6_chain_55 : decode cX6_chain 55 = .ok (.aload_n 0, 1) := by decide +kernel
theorem dX6_chain_56 : decode cX6_chain 56 = .ok (.getfield 52, 3) := by decide +kernel
theorem dX6_chain_59 : decode cX6_chain 59 = .ok (.getfield 179, 3) := by decide +kernel
theorem dX6_chain_62 : decode cX6_chain 62 = .ok (.goto 10, 3) := by decide +kernel
theorem dX6_chain_65 : decode cX6_chain 65 = .ok (.aload_n 0, 1) := by decide +kernel
theorem dX6_chain_66 : decode cX6_chain 66 = .ok (.getfield 52, 3) := by decide +kernel
theorem dX6_chain_69 : decode cX6_chain 69 = .ok (.getfield 182, 3) := by decide +kernel
theorem dX6_chain_72 : decode cX6_chain 72 = .ok (.ireturn, 1) := by decide +kernel
set_option maxRecDepth 20000 in
theorem ggX6_poke_X6_isCell : GoodIn wsX6_poke wsX6_isCell := goodIn_r _ [11] (by decide +kernel) (by decide +kernel)
set_option maxRecDepth 20000 in
theorem gX6_poke_X6_isCell : GoodIn wsX6_poke (va_wsS RX6 109 yX6_isCell wsX6_isCell) := goodIn_app (goodIn_of _ (by decide +kernel)) ggX6_poke_X6_isCell
set_option maxRecDepth 20000 in
theorem ggX6_poke_X6_isValue : GoodIn wsX6_poke wsX6_isValue := goodIn_r _ [14] (by decide +kernel) (by decide +kernel)
set_option maxRecDepth 20000 in
theorem gX6_poke_X6_isValue : GoodIn wsX6_poke (va_wsS RX6 185 yX6_isValue wsX6_isValue) := goodIn_app (goodIn_of _ (by decide +kernel)) ggX6_poke_X6_isValue
set_option maxRecDepth 20000 in
theorem ggX6_poke_X3_remember : GoodIn wsX6_poke wsX3_remember := goodIn_r _ [19, 20, 21, 22, 23, 24, 25, 26, 27, 28, 29, 30, 31, 32, 33, 34, 35, 36, 37, 38, 39, 40, 41, 42, 43, 44, 45, 46, 47, 48, 49, 50, 51, 52, 53, 54, 55, 56, 57, 58, 59, 60, 61, 62, 63, 64, 65, 66, 67, 68, 89, 90, 91, 78, 79, 80, 81, 82, 83, 84, 85, 86, 87, 88, 92, 93, 94, 95, 96, 97, 98, 99, 100, 101, 102, 103, 104] (by decide +kernel) (by decide +kernel)
set_option maxRecDepth 20000 in
theorem gX6_poke_X3_remember : GoodIn wsX6_poke (wsV RX6 190 RX3 yX3_remember wsX3_remember) := goodIn_app (goodIn_of _ (by decide +kernel)) ggX6_poke_X3_remember
theorem dX6_poke_0 : decode cX6_poke 0 = .ok (.iload_n 1, 1) := by decide +kernel
theorem dX6_poke_1 : decode cX6_poke 1 = .ok (.invokestatic 109, 3) := by decide +kernel
theorem dX6_poke_4 : decode cX6_poke 4 = .ok (.ifCond .ne 13, 3) := by decide +kernel
theorem dX6_poke_7 : decode cX6_poke 7 = .ok (.new 113, 3) := by decide +kernel
theorem dX6_poke_10 : decode cX6_poke 10 = .ok (.dup, 1) := by decide +kernel
theorem dX6_poke_11 : decode cX6_poke 11 = .ok (.ldc 115, 2) := by decide +kernel
theorem dX6_poke_13 : decode cX6_poke 13 = .ok (.invokespecial 117, 3) := by decide +kernel
theorem dX6_poke_16 : decode cX6_poke 16 = .ok (.athrow, 1) := by decide +kernel
theorem dX6_poke_17 : decode cX6_poke 17 = .ok (.iload_n 2, 1) := by decide +kernel
theorem dX6_poke_18 : decode cX6_poke 18 = .ok (.invokestatic 185, 3) := by decide +kernel
theorem dX6_poke_21 : decode cX6_poke 21 = .ok (.ifCond .ne 13, 3) := by decide +kernel
theorem dX6_poke_24 : decode cX6_poke 24 = .ok (.new 56, 3) := by decide +kernel
theorem dX6_poke_27 : decode cX6_poke 27 = .ok (.dup, 1) := by decide +kernel
theorem dX6_poke_28 : decode cX6_poke 28 = .ok (.ldc 188, 2) := by decide +kernel
theorem dX6_poke_30 : decode cX6_poke 30 = .ok (.invokespecial 60, 3) := by decide +kernel
theorem dX6_poke_33 : decode cX6_poke 33 = .ok (.athrow, 1) := by decide +kernel
theorem dX6_poke_34 : decode cX6_poke 34 = .ok (.aload_n 0, 1) := by decide +kernel
theorem dX6_poke_35 : decode cX6_poke 35 = .ok (.getfield 37, 3) := by decide +kernel
theorem dX6_poke_38 : decode cX6_poke 38 = .ok (.aload_n 0, 1) := by decide +kernel
theorem dX6_poke_39 : decode cX6_poke 39 = .ok (.getfield 27, 3) := by decide +kernel
theorem dX6_poke_42 : decode cX6_poke 42 = .ok (.invokevirtual 190, 3) := by decide +kernel
theorem dX6_poke_45 : decode cX6_poke 45 = .ok (.aload_n 0, 1) := by decide +kernel
theorem dX6_poke_46 : decode cX6_poke 46 = .ok (.getfield 27, 3) := by decide +kernel
theorem dX6_poke_49 : decode cX6_poke 49 = .ok (.getfield 118, 3) := by decide +kernel
theorem dX6_poke_52 : decode cX6_poke 52 = .ok (.iload_n 1, 1) := by decide +kernel
theorem dX6_poke_53 : decode cX6_poke 53 = .ok (.iaload, 1) := by decide +kernel
theorem dX6_poke_54 : decode cX6_poke 54 = .ok (.istore_n 3, 1) := by decide +kernel
theorem dX6_poke_55 : decode cX6_poke 55 = .ok (.aload_n 0, 1) := by decide +kernel
theorem dX6_poke_56 : decode cX6_poke 56 = .ok (.getfield 27, 3) := by decide +kernel
theorem dX6_poke_59 : decode cX6_poke 59 = .ok (.getfield 118, 3) := by decide +kernel
theorem dX6_poke_62 : decode cX6_poke 62 = .ok (.iload_n 1, 1) := by decide +kernel
theorem dX6_poke_63 : decode cX6_poke 63 = .ok (.iload_n 2, 1) := by decide +kernel
theorem dX6_poke_64 : decode cX6_poke 64 = .ok (.iastore, 1) := by decide +kernel
theorem dX6_poke_65 : decode cX6_poke 65 = .ok (.iload_n 3, 1) := by decide +kernel
theorem dX6_poke_66 : decode cX6_poke 66 = .ok (.ireturn, 1) := by decide +kernel
set_option maxRecDepth 20000 in
theorem ggX6_order_X6_isCell : GoodIn wsX6_order wsX6_isCell := goodIn_r _ [11] (by decide +kernel) (by decide +kernel)
set_option maxRecDepth 20000 in
theorem gX6_order_X6_isCell : GoodIn wsX6_order (va_wsS RX6 109 yX6_isCell wsX6_isCell) := goodIn_app (goodIn_of _ (by decide +kernel)) ggX6_order_X6_isCell
set_option maxRecDepth 20000 in
theorem ggX6_order_X6_isValue : GoodIn wsX6_order wsX6_isValue := goodIn_r _ [14] (by decide +kernel) (by decide +kernel)
set_option maxRecDepth 20000 in
theorem gX6_order_X6_isValue : GoodIn wsX6_order (va_wsS RX6 185 yX6_isValue wsX6_isValue) := goodIn_app (goodIn_of _ (by decide +kernel)) ggX6_order_X6_isValue
set_option maxRecDepth 20000 in
theorem ggX6_order_X3_remember : GoodIn wsX6_order wsX3_remember := goodIn_r _ [19, 20, 21, 22, 23, 24, 25, 26, 27, 28, 29, 30, 31, 32, 33, 34, 35, 36, 37, 38, 39, 40, 41, 42, 43, 44, 45, 46, 47, 48, 49, 50, 51, 52, 53, 54, 55, 56, 57, 58, 59, 60, 61, 62, 63, 64, 65, 66, 67, 68, 89, 90, 91, 78, 79, 80, 81, 82, 83, 84, 85, 86, 87, 88, 92, 93, 94, 95, 96, 97, 98, 99, 100, 101, 102, 103, 104] (by decide +kernel) (by decide +kernel)
set_option maxRecDepth 20000 in
theorem gX6_order_X3_remember : GoodIn wsX6_order (wsV RX6 190 RX3 yX3_remember wsX3_remember) := goodIn_app (goodIn_of _ (by decide +kernel)) ggX6_order_X3_remember
theorem dX6_order_0 : decode cX6_order 0 = .ok (.iload_n 1, 1) := by decide +kernel
theorem dX6_order_1 : decode cX6_order 1 = .ok (.invokestatic 109, 3) := by decide +kernel
theorem dX6_order_4 : decode cX6_order 4 = .ok (.ifCond .ne 13, 3) := by decide +kernel
theorem dX6_order_7 : decode cX6_order 7 = .ok (.new 113, 3) := by decide +kernel
theorem dX6_order_10 : decode cX6_order 10 = .ok (.dup, 1) := by decide +kernel
theorem dX6_order_11 : decode cX6_order 11 = .ok (.ldc 115, 2) := by decide +kernel
theorem dX6_order_13 : decode cX6_order 13 = .ok (.invokespecial 117, 3) := by decide +kernel
theorem dX6_order_16 : decode cX6_order 16 = .ok (.athrow, 1) := by decide +kernel
theorem dX6_order_17 : decode cX6_order 17 = .ok (.iload_n 1, 1) := by decide +kernel
theorem dX6_order_18 : decode cX6_order 18 = .ok (.bipush 90, 2) := by decide +kernel
theorem dX6_order_20 : decode cX6_order 20 = .ok (.if_icmp .le 13, 3) := by decide +kernel
theorem dX6_order_23 : decode cX6_order 23 = .ok (.new 56, 3) := by decide +kernel
theorem dX6_order_26 : decode cX6_order 26 = .ok (.dup, 1) := by decide +kernel
theorem dX6_order_27 : decode cX6_order 27 = .ok (.ldc 193, 2) := by decide +kernel
theorem dX6_order_29 : decode cX6_order 29 = .ok (.invokespecial 60, 3) := by decide +kernel
theorem dX6_order_32 : decode cX6_order 32 = .ok (.athrow, 1) := by decide +kernel
theorem dX6_order_33 : decode cX6_order 33 = .ok (.iload_n 2, 1) := by decide +kernel
theorem dX6_order_34 : decode cX6_order 34 = .ok (.invokestatic 185, 3) := by decide +kernel
theorem dX6_order_37 : decode cX6_order 37 = .ok (.ifCond .eq 26, 3) := by decide +kernel
theorem dX6_order_40 : decode cX6_order 40 = .ok (.iload_n 3, 1) := by decide +kernel
theorem dX6_order_41 : decode cX6_order 41 = .ok (.invokestatic 185, 3) := by decide +kernel
theorem dX6_order_44 : decode cX6_order 44 = .ok (.ifCond .eq 19, 3) := by decide +kernel
theorem dX6_order_47 : decode cX6_order 47 = .ok (.iload 4, 2) := by decide +kernel
theorem dX6_order_49 : decode cX6_order 49 = .ok (.invokestatic 185, 3) := by decide +kernel
theorem dX6_order_52 : decode cX6_order 52 = .ok (.ifCond .eq 11, 3) := by decide +kernel
theorem dX6_order_55 : decode cX6_order 55 = .ok (.iload 5, 2) := by decide +kernel
theorem dX6_order_57 : decode cX6_order 57 = .ok (.invokestatic 185, 3) := by decide +kernel
theorem dX6_order_60 : decode cX6_order 60 = .ok (.ifCond .ne 13, 3) := by decide +kernel
theorem dX6_order_63 : decode cX6_order 63 = .ok (.new 56, 3) := by decide +kernel
theorem dX6_order_66 : decode cX6_order 66 = .ok (.dup, 1) := by decide +kernel
theorem dX6_order_67 : decode cX6_order 67 = .ok (.ldc 188, 2) := by decide +kernel
theorem dX6_order_69 : decode cX6_order 69 = .ok (.invokespecial 60, 3) := by decide +kernel
theorem dX6_order_72 : decode cX6_order 72 = .ok (.athrow, 1) := by decide +kernel
theorem dX6_order_73 : decode cX6_order 73 = .ok (.aload_n 0, 1) := by decide +kernel
theorem dX6_order_74 : decode cX6_order 74 = .ok (.getfield 37, 3) := by decide +kernel
theorem dX6_order_77 : decode cX6_order 77 = .ok (.aload_n 0, 1) := by decide +kernel
theorem dX6_order_78 : decode cX6_order 78 = .ok (.getfield 27, 3) := by decide +kernel
theorem dX6_order_81 : decode cX6_order 81 = .ok (.invokevirtual 190, 3) := by decide +kernel
theorem dX6_order_84 : decode cX6_order 84 = .ok (.aload_n 0, 1) := by decide +kernel
theorem dX6_order_85 : decode cX6_order 85 = .ok (.getfield 27, 3) := by decide +kernel
theorem dX6_order_88 : decode cX6_order 88 = .ok (.getfield 118, 3) := by decide +kernel
theorem dX6_order_91 : decode cX6_order 91 = .ok (.iload_n 1, 1) := by decide +kernel
theorem dX6_order_92 : decode cX6_order 92 = .ok (.iaload, 1) := by decide +kernel
theorem dX6_order_93 : decode cX6_order 93 = .ok (.istore 6, 2) := by decide +kernel
theorem dX6_order_95 : decode cX6_order 95 = .ok (.aload_n 0, 1) := by decide +kernel
theorem dX6_order_96 : decode cX6_order 96 = .ok (.getfield 27, 3) := by decide +kernel
theorem dX6_order_99 : decode cX6_order 99 = .ok (.getfield 118, 3) := by decide +kernel
theorem dX6_order_102 : decode cX6_order 102 = .ok (.iload_n 1, 1) := by decide +kernel
theorem dX6_order_103 : decode cX6_order 103 = .ok (.iload_n 2, 1) := by decide +kernel
theorem dX6_order_104 : decode cX6_order 104 = .ok (.iastore, 1) := by decide +kernel
theorem dX6_order_105 : decode cX6_order 105 = .ok (.aload_n 0, 1) := by decide +kernel
theorem dX6_order_106 : decode cX6_order 106 = .ok (.getfield 27, 3) := by decide +kernel
theorem dX6_order_109 : decode cX6_order 109 = .ok (.getfield 118, 3) := by decide +kernel
theorem dX6_order_112 : decode cX6_order 112 = .ok (.iload_n 1, 1) := by decide +kernel
theorem dX6_order_113 : decode cX6_order 113 = .ok (.iconst 1, 1) := by decide +kernel
theorem dX6_order_114 : decode cX6_order 114 = .ok (.iadd, 1) := by decide +kernel
theorem dX6_order_115 : decode cX6_order 115 = .ok (.iload_n 3, 1) := by decide +kernel
theorem dX6_order_116 : decode cX6_order 116 = .ok (.iastore, 1) := by decide +kernel
theorem dX6_order_117 : decode cX6_order 117 = .ok (.aload_n 0, 1) := by decide +kernel
theorem dX6_order_118 : decode cX6_order 118 = .ok (.getfield 27, 3) := by decide +kernel
theorem dX6_order_121 : decode cX6_order 121 = .ok (.getfield 118, 3) := by decide +kernel
theorem dX6_order_124 : decode cX6_order 124 = .ok (.iload_n 1, 1) := by decide +kernel
theorem dX6_order_125 : decode cX6_order 125 = .ok (.iconst 2, 1) := by decide +kernel
theorem dX6_order_126 : decode cX6_order 126 = .ok (.iadd, 1) := by decide +kernel
theorem dX6_order_127 : decode cX6_order 127 = .ok (.iload 4, 2) := by decide +kernel
theorem dX6_order_129 : decode cX6_order 129 = .ok (.iastore, 1) := by decide +kernel
theorem dX6_order_130 : decode cX6_order 130 = .ok (.aload_n 0, 1) := by decide +kernel
theorem dX6_order_131 : decode cX6_order 131 = .ok (.getfield 27, 3) := by decide +kernel
theorem dX6_order_134 : decode cX6_order 134 = .ok (.getfield 118, 3) := by decide +kernel
theorem dX6_order_137 : decode cX6_order 137 = .ok (.iload_n 1, 1) := by decide +kernel
theorem dX6_order_138 : decode cX6_order 138 = .ok (.iconst 3, 1) := by decide +kernel
theorem dX6_order_139 : decode cX6_order 139 = .ok (.iadd, 1) := by decide +kernel
theorem dX6_order_140 : decode cX6_order 140 = .ok (.iload 5, 2) := by decide +kernel
theorem dX6_order_142 : decode cX6_order 142 = .ok (.iastore, 1) := by decide +kernel
theorem dX6_order_143 : decode cX6_order 143 = .ok (.aload_n 0, 1) := by decide +kernel
theorem dX6_order_144 : decode cX6_order 144 = .ok (.getfield 27, 3) := by decide +kernel
theorem dX6_order_147 : decode cX6_order 147 = .ok (.getfield 118, 3) := by decide +kernel
theorem dX6_order_150 : decode cX6_order 150 = .ok (.iload_n 1, 1) := by decide +kernel
theorem dX6_order_151 : decode cX6_order 151 = .ok (.iconst 4, 1) := by decide +kernel
theorem dX6_order_152 : decode cX6_order 152 = .ok (.iadd, 1) := by decide +kernel
theorem dX6_order_153 : decode cX6_order 153 = .ok (.iconst 1, 1) := by decide +kernel
theorem dX6_order_154 : decode cX6_order 154 = .ok (.iastore, 1) := by decide +kernel
theorem dX6_order_155 : decode cX6_order 155 = .ok (.aload_n 0, 1) := by decide +kernel
theorem dX6_order_156 : decode cX6_order 156 = .ok (.getfield 27, 3) := by decide +kernel
theorem dX6_order_159 : decode cX6_order 159 = .ok (.getfield 118, 3) := by decide +kernel
theorem dX6_order_162 : decode cX6_order 162 = .ok (.iload_n 1, 1) := by decide +kernel
theorem dX6_order_163 : decode cX6_order 163 = .ok (.iconst 5, 1) := by decide +kernel
theorem dX6_order_164 : decode cX6_order 164 = .ok (.iadd, 1) := by decide +kernel
theorem dX6_order_165 : decode cX6_order 165 = .ok (.iload_n 1, 1) := by decide +kernel
theorem dX6_order_166 : decode cX6_order 166 = .ok (.bipush 6, 2) := by decide +kernel
theorem dX6_order_168 : decode cX6_order 168 = .ok (.iadd, 1) := by decide +kernel
theorem dX6_order_169 : decode cX6_order 169 = .ok (.iastore, 1) := by decide +kernel
theorem dX6_order_170 : decode cX6_order 170 = .ok (.iload 6, 2) := by decide +kernel
theorem dX6_order_172 : decode cX6_order 172 = .ok (.ireturn, 1) := by decide +kernel
set_option maxRecDepth 20000 in
theorem ggX6_own_X6_isCell : GoodIn wsX6_own wsX6_isCell := goodIn_r _ [10] (by decide +kernel) (by decide +kernel)
set_option maxRecDepth 20000 in
theorem gX6_own_X6_isCell : GoodIn wsX6_own (va_wsS RX6 109 yX6_isCell wsX6_isCell) := goodIn_app (goodIn_of _ (by decide +kernel)) ggX6_own_X6_isCell
set_option maxRecDepth 20000 in
theorem ggX6_own_X3_remember : GoodIn wsX6_own wsX3_remember := goodIn_r _ [15, 16, 17, 18, 19, 20, 21, 22, 23, 24, 25, 26, 27, 28, 29, 30, 31, 32, 33, 34, 35, 36, 37, 38, 39, 40, 41, 42, 43, 44, 45, 46, 47, 48, 49, 50, 51, 52, 53, 54, 55, 56, 57, 58, 59, 60, 61, 62, 63, 64, 78, 79, 80, 81, 82, 83, 84, 85, 86, 87, 88, 89, 90, 91, 92, 93, 94, 95, 96, 97, 98, 99, 100, 101, 102, 103, 104] (by decide +kernel) (by decide +kernel)
set_option maxRecDepth 20000 in
theorem gX6_own_X3_remember : GoodIn wsX6_own (wsV RX6 190 RX3 yX3_remember wsX3_remember) := goodIn_app (goodIn_of _ (by decide +kernel)) ggX6_own_X3_remember
set_option maxRecDepth 20000 in
theorem ggX6_own_X2_giveCells : GoodIn wsX6_own wsX2_giveCells := goodIn_r _ [68, 29, 81, 82, 83, 84, 85, 86, 87, 88, 89, 90, 91] (by decide +kernel) (by decide +kernel)
set_option maxRecDepth 20000 in
theorem gX6_own_X2_giveCells : GoodIn wsX6_own (wsV RX6 197 RX2 yX2_giveCells wsX2_giveCells) := goodIn_app (goodIn_of _ (by decide +kernel)) ggX6_own_X2_giveCells
theorem dX6_own_0 : decode cX6_own 0 = .ok (.iload_n 1, 1) := by decide +kernel
theorem dX6_own_1 : decode cX6_own 1 = .ok (.invokestatic 109, 3) := by decide +kernel
theorem dX6_own_4 : decode cX6_own 4 = .ok (.ifCond .ne 13, 3) := by decide +kernel
theorem dX6_own_7 : decode cX6_own 7 = .ok (.new 113, 3) := by decide +kernel
theorem dX6_own_10 : decode cX6_own 10 = .ok (.dup, 1) := by decide +kernel
theorem dX6_own_11 : decode cX6_own 11 = .ok (.ldc 115, 2) := by decide +kernel
theorem dX6_own_13 : decode cX6_own 13 = .ok (.invokespecial 117, 3) := by decide +kernel
theorem dX6_own_16 : decode cX6_own 16 = .ok (.athrow, 1) := by decide +kernel
theorem dX6_own_17 : decode cX6_own 17 = .ok (.iload_n 2, 1) := by decide +kernel
theorem dX6_own_18 : decode cX6_own 18 = .ok (.iconst 1, 1) := by decide +kernel
theorem dX6_own_19 : decode cX6_own 19 = .ok (.if_icmp .lt 18, 3) := by decide +kernel
theorem dX6_own_22 : decode cX6_own 22 = .ok (.iload_n 2, 1) := by decide +kernel
theorem dX6_own_23 : decode cX6_own 23 = .ok (.bipush 96, 2) := by decide +kernel
theorem dX6_own_25 : decode cX6_own 25 = .ok (.if_icmp .gt 12, 3) := by decide +kernel
theorem dX6_own_28 : decode cX6_own 28 = .ok (.iload_n 3, 1) := by decide +kernel
theorem dX6_own_29 : decode cX6_own 29 = .ok (.ifCond .lt 8, 3) := by decide +kernel
theorem dX6_own_32 : decode cX6_own 32 = .ok (.iload_n 3, 1) := by decide +kernel
theorem dX6_own_33 : decode cX6_own 33 = .ok (.iconst 4, 1) := by decide +kernel
theorem dX6_own_34 : decode cX6_own 34 = .ok (.if_icmp .lt 13, 3) := by decide +kernel
theorem dX6_own_37 : decode cX6_own 37 = .ok (.new 56, 3) := by decide +kernel
theorem dX6_own_40 : decode cX6_own 40 = .ok (.dup, 1) := by decide +kernel
theorem dX6_own_41 : decode cX6_own 41 = .ok (.ldc 195, 2) := by decide +kernel
theorem dX6_own_43 : decode cX6_own 43 = .ok (.invokespecial 60, 3) := by decide +kernel
theorem dX6_own_46 : decode cX6_own 46 = .ok (.athrow, 1) := by decide +kernel
theorem dX6_own_47 : decode cX6_own 47 = .ok (.aload_n 0, 1) := by decide +kernel
theorem dX6_own_48 : decode cX6_own 48 = .ok (.getfield 37, 3) := by decide +kernel
theorem dX6_own_51 : decode cX6_own 51 = .ok (.aload_n 0, 1) := by decide +kernel
theorem dX6_own_52 : decode cX6_own 52 = .ok (.getfield 27, 3) := by decide +kernel
theorem dX6_own_55 : decode cX6_own 55 = .ok (.invokevirtual 190, 3) := by decide +kernel
theorem dX6_own_58 : decode cX6_own 58 = .ok (.aload_n 0, 1) := by decide +kernel
theorem dX6_own_59 : decode cX6_own 59 = .ok (.getfield 27, 3) := by decide +kernel
theorem dX6_own_62 : decode cX6_own 62 = .ok (.iload_n 1, 1) := by decide +kernel
theorem dX6_own_63 : decode cX6_own 63 = .ok (.iload_n 2, 1) := by decide +kernel
theorem dX6_own_64 : decode cX6_own 64 = .ok (.iload_n 3, 1) := by decide +kernel
theorem dX6_own_65 : decode cX6_own 65 = .ok (.invokevirtual 197, 3) := by decide +kernel
theorem dX6_own_68 : decode cX6_own 68 = .ok (.ireturn, 1) := by decide +kernel
set_option maxRecDepth 20000 in
theorem ggX6_start_X6_isChannel : GoodIn wsX6_start wsX6_isChannel := goodIn_r _ [10] (by decide +kernel) (by decide +kernel)
set_option maxRecDepth 20000 in
theorem gX6_start_X6_isChannel : GoodIn wsX6_start (va_wsS RX6 132 yX6_isChannel wsX6_isChannel) := goodIn_app (goodIn_of _ (by decide +kernel)) ggX6_start_X6_isChannel
set_option maxRecDepth 20000 in
theorem ggX6_start_X6_isCell : GoodIn wsX6_start wsX6_isCell := goodIn_r _ [13] (by decide +kernel) (by decide +kernel)
set_option maxRecDepth 20000 in
theorem gX6_start_X6_isCell : GoodIn wsX6_start (va_wsS RX6 109 yX6_isCell wsX6_isCell) := goodIn_app (goodIn_of _ (by decide +kernel)) ggX6_start_X6_isCell
set_option maxRecDepth 20000 in
theorem ggX6_start_X3_remember : GoodIn wsX6_start wsX3_remember := goodIn_r _ [18, 19, 20, 21, 22, 23, 24, 25, 26, 27, 28, 29, 30, 31, 32, 33, 34, 35, 36, 37, 38, 39, 40, 41, 42, 43, 44, 45, 46, 47, 48, 49, 50, 51, 52, 53, 54, 55, 56, 57, 58, 59, 60, 61, 62, 63, 64, 65, 66, 67, 109, 110, 111, 85, 86, 87, 88, 89, 90, 91, 92, 93, 94, 95, 96, 97, 98, 99, 100, 101, 102, 103, 104, 105, 106, 107, 108] (by decide +kernel) (by decide +kernel)
set_option maxRecDepth 20000 in
theorem gX6_start_X3_remember : GoodIn wsX6_start (wsV RX6 190 RX3 yX3_remember wsX3_remember) := goodIn_app (goodIn_of _ (by decide +kernel)) ggX6_start_X3_remember
set_option maxRecDepth 20000 in
theorem ggX6_start_X1_beginAt : GoodIn wsX6_start wsX1_beginAt := goodIn_r _ [71, 46, 72, 73, 74, 43, 75, 45, 47, 50, 51, 96, 97, 98, 99, 100, 101, 102, 103, 104, 105, 106, 107, 108] (by decide +kernel) (by decide +kernel)
set_option maxRecDepth 20000 in
theorem gX6_start_X1_beginAt : GoodIn wsX6_start (wsV RX6 203 RX1 yX1_beginAt wsX1_beginAt) := goodIn_app (goodIn_of _ (by decide +kernel)) ggX6_start_X1_beginAt
theorem dX6_start_0 : decode cX6_start 0 = .ok (.iload_n 1, 1) := by decide +kernel
theorem dX6_start_1 : decode cX6_start 1 = .ok (.invokestatic 132, 3) := by decide +kernel
theorem dX6_start_4 : decode cX6_start 4 = .ok (.ifCond .eq 10, 3) := by decide +kernel
theorem dX6_start_7 : decode cX6_start 7 = .ok (.iload_n 2, 1) := by decide +kernel
theorem dX6_start_8 : decode cX6_start 8 = .ok (.invokestatic 109, 3) := by decide +kernel
theorem dX6_start_11 : decode cX6_start 11 = .ok (.ifCond .ne 13, 3) := by decide +kernel
theorem dX6_start_14 : decode cX6_start 14 = .ok (.new 113, 3) := by decide +kernel
theorem dX6_start_17 : decode cX6_start 17 = .ok (.dup, 1) := by decide +kernel
theorem dX6_start_18 : decode cX6_start 18 = .ok (.ldc 201, 2) := by decide +kernel
theorem dX6_start_20 : decode cX6_start 20 = .ok (.invokespecial 117, 3) := by decide +kernel
theorem dX6_start_23 : decode cX6_start 23 = .ok (.athrow, 1) := by decide +kernel
theorem dX6_start_24 : decode cX6_start 24 = .ok (.aload_n 0, 1) := by decide +kernel
theorem dX6_start_25 : decode cX6_start 25 = .ok (.getfield 37, 3) := by decide +kernel
theorem dX6_start_28 : decode cX6_start 28 = .ok (.aload_n 0, 1) := by decide +kernel
theorem dX6_start_29 : decode cX6_start 29 = .ok (.getfield 27, 3) := by decide +kernel
theorem dX6_start_32 : decode cX6_start 32 = .ok (.invokevirtual 190, 3) := by decide +kernel
theorem dX6_start_35 : decode cX6_start 35 = .ok (.aload_n 0, 1) := by decide +kernel
theorem dX6_start_36 : decode cX6_start 36 = .ok (.getfield 27, 3) := by decide +kernel
theorem dX6_start_39 : decode cX6_start 39 = .ok (.getfield 137, 3) := by decide +kernel
theorem dX6_start_42 : decode cX6_start 42 = .ok (.iload_n 1, 1) := by decide +kernel
theorem dX6_start_43 : decode cX6_start 43 = .ok (.aaload, 1) := by decide +kernel
theorem dX6_start_44 : decode cX6_start 44 = .ok (.getfield 141, 3) := by decide +kernel
theorem dX6_start_47 : decode cX6_start 47 = .ok (.istore_n 3, 1) := by decide +kernel
theorem dX6_start_48 : decode cX6_start 48 = .ok (.aload_n 0, 1) := by decide +kernel
theorem dX6_start_49 : decode cX6_start 49 = .ok (.getfield 27, 3) := by decide +kernel
theorem dX6_start_52 : decode cX6_start 52 = .ok (.getfield 137, 3) := by decide +kernel
theorem dX6_start_55 : decode cX6_start 55 = .ok (.iload_n 1, 1) := by decide +kernel
theorem dX6_start_56 : decode cX6_start 56 = .ok (.aaload, 1) := by decide +kernel
theorem dX6_start_57 : decode cX6_start 57 = .ok (.iload_n 2, 1) := by decide +kernel
theorem dX6_start_58 : decode cX6_start 58 = .ok (.invokevirtual 203, 3) := by decide +kernel
theorem dX6_start_61 : decode cX6_start 61 = .ok (.iload_n 3, 1) := by decide +kernel
theorem dX6_start_62 : decode cX6_start 62 = .ok (.ireturn, 1) := by decide +kernel
set_option maxRecDepth 20000 in
theorem ggX6_stop_X6_isChannel : GoodIn wsX6_stop wsX6_isChannel := goodIn_r _ [12] (by decide +kernel) (by decide +kernel)
set_option maxRecDepth 20000 in
theorem gX6_stop_X6_isChannel : GoodIn wsX6_stop (va_wsS RX6 132 yX6_isChannel wsX6_isChannel) := goodIn_app (goodIn_of _ (by decide +kernel)) ggX6_stop_X6_isChannel
set_option maxRecDepth 20000 in
theorem ggX6_stop_X3_remember : GoodIn wsX6_stop wsX3_remember := goodIn_r _ [17, 18, 19, 20, 21, 22, 23, 24, 25, 26, 27, 28, 29, 30, 31, 32, 33, 34, 35, 36, 37, 38, 39, 40, 41, 42, 43, 44, 45, 46, 47, 48, 49, 50, 51, 52, 53, 54, 55, 56, 57, 58, 59, 60, 61, 62, 63, 64, 65, 66, 112, 113, 114, 88, 89, 90, 91, 92, 93, 94, 95, 96, 97, 98, 99, 100, 101, 102, 103, 104, 105, 106, 107, 108, 109, 110, 111] (by decide +kernel) (by decide +kernel)
set_option maxRecDepth 20000 in
theorem gX6_stop_X3_remember : GoodIn wsX6_stop (wsV RX6 190 RX3 yX3_remember wsX3_remember) := goodIn_app (goodIn_of _ (by decide +kernel)) ggX6_stop_X3_remember
set_option maxRecDepth 20000 in
theorem ggX6_stop_X1_unitsLeft : GoodIn wsX6_stop wsX1_unitsLeft := goodIn_r _ [70, 51, 54, 50, 71, 72, 73, 42, 74, 49, 99, 100, 101, 102, 103, 104, 105, 106, 107, 108, 109, 110, 111] (by decide +kernel) (by decide +kernel)
set_option maxRecDepth 20000 in
theorem gX6_stop_X1_unitsLeft : GoodIn wsX6_stop (wsV RX6 209 RX1 yX1_unitsLeft wsX1_unitsLeft) := goodIn_app (goodIn_of _ (by decide +kernel)) ggX6_stop_X1_unitsLeft
set_option maxRecDepth 20000 in
theorem ggX6_stop_X1_become : GoodIn wsX6_stop wsX1_become := goodIn_r _ [78, 44, 46, 49, 50, 99, 100, 101, 102, 103, 104, 105, 106, 107, 108, 109, 110, 111] (by decide +kernel) (by decide +kernel)
set_option maxRecDepth 20000 in
theorem gX6_stop_X1_become : GoodIn wsX6_stop (wsV RX6 212 RX1 yX1_become wsX1_become) := goodIn_app (goodIn_of _ (by decide +kernel)) ggX6_stop_X1_become
theorem dX6_stop_0 : decode cX6_stop 0 = .ok (.iload_n 1, 1) := by decide +kernel
theorem dX6_stop_1 : decode cX6_stop 1 = .ok (.invokestatic 132, 3) := by decide +kernel
theorem dX6_stop_4 : decode cX6_stop 4 = .ok (.ifCond .ne 13, 3) := by decide +kernel
theorem dX6_stop_7 : decode cX6_stop 7 = .ok (.new 113, 3) := by decide +kernel
theorem dX6_stop_10 : decode cX6_stop 10 = .ok (.dup, 1) := by decide +kernel
theorem dX6_stop_11 : decode cX6_stop 11 = .ok (.ldc 135, 2) := by decide +kernel
theorem dX6_stop_13 : decode cX6_stop 13 = .ok (.invokespecial 117, 3) := by decide +kernel
theorem dX6_stop_16 : decode cX6_stop 16 = .ok (.athrow, 1) := by decide +kernel
theorem dX6_stop_17 : decode cX6_stop 17 = .ok (.aload_n 0, 1) := by decide +kernel
theorem dX6_stop_18 : decode cX6_stop 18 = .ok (.getfield 27, 3) := by decide +kernel
theorem dX6_stop_21 : decode cX6_stop 21 = .ok (.getfield 137, 3) := by decide +kernel
theorem dX6_stop_24 : decode cX6_stop 24 = .ok (.iload_n 1, 1) := by decide +kernel
theorem dX6_stop_25 : decode cX6_stop 25 = .ok (.aaload, 1) := by decide +kernel
theorem dX6_stop_26 : decode cX6_stop 26 = .ok (.getfield 141, 3) := by decide +kernel
theorem dX6_stop_29 : decode cX6_stop 29 = .ok (.iconst 1, 1) := by decide +kernel
theorem dX6_stop_30 : decode cX6_stop 30 = .ok (.if_icmp .eq 13, 3) := by decide +kernel
theorem dX6_stop_33 : decode cX6_stop 33 = .ok (.new 63, 3) := by decide +kernel
theorem dX6_stop_36 : decode cX6_stop 36 = .ok (.dup, 1) := by decide +kernel
theorem dX6_stop_37 : decode cX6_stop 37 = .ok (.ldc 207, 2) := by decide +kernel
theorem dX6_stop_39 : decode cX6_stop 39 = .ok (.invokespecial 67, 3) := by decide +kernel
theorem dX6_stop_42 : decode cX6_stop 42 = .ok (.athrow, 1) := by decide +kernel
theorem dX6_stop_43 : decode cX6_stop 43 = .ok (.aload_n 0, 1) := by decide +kernel
theorem dX6_stop_44 : decode cX6_stop 44 = .ok (.getfield 37, 3) := by decide +kernel
theorem dX6_stop_47 : decode cX6_stop 47 = .ok (.aload_n 0, 1) := by decide +kernel
theorem dX6_stop_48 : decode cX6_stop 48 = .ok (.getfield 27, 3) := by decide +kernel
theorem dX6_stop_51 : decode cX6_stop 51 = .ok (.invokevirtual 190, 3) := by decide +kernel
theorem dX6_stop_54 : decode cX6_stop 54 = .ok (.aload_n 0, 1) := by decide +kernel
theorem dX6_stop_55 : decode cX6_stop 55 = .ok (.getfield 27, 3) := by decide +kernel
theorem dX6_stop_58 : decode cX6_stop 58 = .ok (.getfield 137, 3) := by decide +kernel
theorem dX6_stop_61 : decode cX6_stop 61 = .ok (.iload_n 1, 1) := by decide +kernel
theorem dX6_stop_62 : decode cX6_stop 62 = .ok (.aaload, 1) := by decide +kernel
theorem dX6_stop_63 : decode cX6_stop 63 = .ok (.invokevirtual 209, 3) := by decide +kernel
theorem dX6_stop_66 : decode cX6_stop 66 = .ok (.istore_n 2, 1) := by decide +kernel
theorem dX6_stop_67 : decode cX6_stop 67 = .ok (.aload_n 0, 1) := by decide +kernel
theorem dX6_stop_68 : decode cX6_stop 68 = .ok (.getfield 27, 3) := by decide +kernel
theorem dX6_stop_71 : decode cX6_stop 71 = .ok (.getfield 137, 3) := by decide +kernel
theorem dX6_stop_74 : decode cX6_stop 74 = .ok (.iload_n 1, 1) := by decide +kernel
theorem dX6_stop_75 : decode cX6_stop 75 = .ok (.aaload, 1) := by decide +kernel
theorem dX6_stop_76 : decode cX6_stop 76 = .ok (.iconst 0, 1) := by decide +kernel
theorem dX6_stop_77 : decode cX6_stop 77 = .ok (.invokevirtual 212, 3) := by decide +kernel
theorem dX6_stop_80 : decode cX6_stop 80 = .ok (.iload_n 2, 1) := by decide +kernel
theorem dX6_stop_81 : decode cX6_stop 81 = .ok (.ireturn, 1) := by decide +kernel
set_option maxRecDepth 20000 in
theorem ggX6_run_X2_nextTurn : GoodIn wsX6_run wsX2_nextTurn := goodIn_r _ [11, 12, 13, 14, 143, 144, 145, 146, 147, 148, 149, 150, 151, 152, 153, 154, 155, 156, 157, 158, 159, 160, 161, 162, 163, 164, 165, 166] (by decide +kernel) (by decide +kernel)
set_option maxRecDepth 20000 in
theorem gX6_run_X2_nextTurn : GoodIn wsX6_run (wsV RX6 88 RX2 yX2_nextTurn wsX2_nextTurn) := goodIn_app (goodIn_of _ (by decide +kernel)) ggX6_run_X2_nextTurn
set_option maxRecDepth 20000 in
theorem ggX6_run_X3_remember : GoodIn wsX6_run wsX3_remember := goodIn_r _ [19, 20, 21, 22, 23, 24, 25, 10, 26, 27, 28, 29, 30, 31, 32, 33, 34, 13, 12, 35, 36, 37, 38, 39, 40, 41, 42, 43, 44, 45, 46, 47, 48, 49, 50, 51, 52, 53, 54, 55, 56, 57, 58, 59, 60, 61, 62, 63, 64, 65, 167, 168, 169, 143, 144, 145, 146, 147, 148, 149, 150, 151, 152, 153, 154, 155, 156, 157, 158, 159, 160, 161, 162, 163, 164, 165, 166] (by decide +kernel) (by decide +kernel)
set_option maxRecDepth 20000 in
theorem gX6_run_X3_remember : GoodIn wsX6_run (wsV RX6 190 RX3 yX3_remember wsX3_remember) := goodIn_app (goodIn_of _ (by decide +kernel)) ggX6_run_X3_remember
set_option maxRecDepth 20000 in
theorem ggX6_run_X2_letTicksGoBy : GoodIn wsX6_run wsX2_letTicksGoBy := goodIn_r _ [69, 70, 71, 72, 10, 73, 12, 35, 13, 74, 8, 9, 11, 14, 75, 76, 77, 41, 78, 48, 79, 80, 81, 82, 83, 84, 85, 86, 87, 88, 89, 90, 91, 92, 93, 27, 94, 95, 96, 97, 98, 45, 99, 100, 101, 102, 43, 49, 103, 104, 105, 106, 44, 107, 108, 109, 110, 111, 112, 113, 114, 32, 115, 116, 117, 118, 119, 120, 121, 122, 33, 36, 61, 34, 60, 37, 123, 124, 125, 126, 127, 128, 129, 130, 131, 132, 50, 51, 52, 53, 54, 55, 46, 133, 143, 144, 145, 146, 147, 148, 149, 150, 151, 152, 153, 154, 155, 156, 157, 158, 159, 160, 161, 162, 163, 164, 165, 166] (by decide +kernel) (by decide +kernel)
set_option maxRecDepth 20000 in
theorem gX6_run_X2_letTicksGoBy : GoodIn wsX6_run (wsV RX6 219 RX2 yX2_letTicksGoBy wsX2_letTicksGoBy) := goodIn_app (goodIn_of _ (by decide +kernel)) ggX6_run_X2_letTicksGoBy
theorem dX6_run_0 : decode cX6_run 0 = .ok (.iload_n 1, 1) := by decide +kernel
theorem dX6_run_1 : decode cX6_run 1 = .ok (.iconst 1, 1) := by decide +kernel
theorem dX6_run_2 : decode cX6_run 2 = .ok (.if_icmp .lt 9, 3) := by decide +kernel
theorem dX6_run_5 : decode cX6_run 5 = .ok (.iload_n 1, 1) := by decide +kernel
theorem dX6_run_6 : decode cX6_run 6 = .ok (.bipush 99, 2) := by decide +kernel
theorem dX6_run_8 : decode cX6_run 8 = .ok (.if_icmp .le 13, 3) := by decide +kernel
theorem dX6_run_11 : decode cX6_run 11 = .ok (.new 56, 3) := by decide +kernel
theorem dX6_run_14 : decode cX6_run 14 = .ok (.dup, 1) := by decide +kernel
theorem dX6_run_15 : decode cX6_run 15 = .ok (.ldc 215, 2) := by decide +kernel
theorem dX6_run_17 : decode cX6_run 17 = .ok (.invokespecial 60, 3) := by decide +kernel
theorem dX6_run_20 : decode cX6_run 20 = .ok (.athrow, 1) := by decide +kernel
theorem dX6_run_21 : decode cX6_run 21 = .ok (.aload_n 0, 1) := by decide +kernel
theorem dX6_run_22 : decode cX6_run 22 = .ok (.getfield 27, 3) := by decide +kernel
theorem dX6_run_25 : decode cX6_run 25 = .ok (.invokevirtual 88, 3) := by decide +kernel
theorem dX6_run_28 : decode cX6_run 28 = .ok (.bipush (-9), 2) := by decide +kernel
theorem dX6_run_30 : decode cX6_run 30 = .ok (.if_icmp .ne 13, 3) := by decide +kernel
theorem dX6_run_33 : decode cX6_run 33 = .ok (.new 63, 3) := by decide +kernel
theorem dX6_run_36 : decode cX6_run 36 = .ok (.dup, 1) := by decide +kernel
theorem dX6_run_37 : decode cX6_run 37 = .ok (.ldc 217, 2) := by decide +kernel
theorem dX6_run_39 : decode cX6_run 39 = .ok (.invokespecial 67, 3) := by decide +kernel
theorem dX6_run_42 : decode cX6_run 42 = .ok (.athrow, 1) := by decide +kernel
theorem dX6_run_43 : decode cX6_run 43 = .ok (.aload_n 0, 1) := by decide +kernel
theorem dX6_run_44 : decode cX6_run 44 = .ok (.getfield 37, 3) := by decide +kernel
theorem dX6_run_47 : decode cX6_run 47 = .ok (.aload_n 0, 1) := by decide +kernel
theorem dX6_run_48 : decode cX6_run 48 = .ok (.getfield 27, 3) := by decide +kernel
theorem dX6_run_51 : decode cX6_run 51 = .ok (.invokevirtual 190, 3) := by decide +kernel
theorem dX6_run_54 : decode cX6_run 54 = .ok (.aload_n 0, 1) := by decide +kernel
theorem dX6_run_55 : decode cX6_run 55 = .ok (.getfield 27, 3) := by decide +kernel
theorem dX6_run_58 : decode cX6_run 58 = .ok (.iload_n 1, 1) := by decide +kernel
theorem dX6_run_59 : decode cX6_run 59 = .ok (.invokevirtual 219, 3) := by decide +kernel
theorem dX6_run_62 : decode cX6_run 62 = .ok (.ireturn, 1) := by decide +kernel
set_option maxRecDepth 20000 in
theorem ggX6_undo_X3_takeBack : GoodIn wsX6_undo wsX3_takeBack := goodIn_r _ [10, 11, 12, 13, 14, 15, 16, 17, 18, 19, 20, 21, 22, 23, 24, 25, 26, 27, 28, 29, 30, 31, 32, 33, 34, 35, 36, 37, 38, 39, 40, 41, 42, 43, 44, 45, 46, 47, 48, 49, 50, 51, 52, 53, 54, 55, 56, 57, 58, 59, 69, 70, 71, 72, 73, 74, 75, 76, 77, 78, 79, 80, 81, 82, 83, 84, 85, 86, 87, 88, 89, 90, 91, 92, 93, 94, 95] (by decide +kernel) (by decide +kernel)
set_option maxRecDepth 20000 in
theorem gX6_undo_X3_takeBack : GoodIn wsX6_undo (wsV RX6 227 RX3 yX3_takeBack wsX3_takeBack) := goodIn_app (goodIn_of _ (by decide +kernel)) ggX6_undo_X3_takeBack
theorem dX6_undo_0 : decode cX6_undo 0 = .ok (.aload_n 0, 1) := by decide +kernel
theorem dX6_undo_1 : decode cX6_undo 1 = .ok (.getfield 37, 3) := by decide +kernel
theorem dX6_undo_4 : decode cX6_undo 4 = .ok (.getfield 222, 3) := by decide +kernel
theorem dX6_undo_7 : decode cX6_undo 7 = .ok (.ifCond .ne 13, 3) := by decide +kernel
theorem dX6_undo_10 : decode cX6_undo 10 = .ok (.new 63, 3) := by decide +kernel
theorem dX6_undo_13 : decode cX6_undo 13 = .ok (.dup, 1) := by decide +kernel
theorem dX6_undo_14 : decode cX6_undo 14 = .ok (.ldc 225, 2) := by decide +kernel
theorem dX6_undo_16 : decode cX6_undo 16 = .ok (.invokespecial 67, 3) := by decide +kernel
theorem dX6_undo_19 : decode cX6_undo 19 = .ok (.athrow, 1) := by decide +kernel
theorem dX6_undo_20 : decode cX6_undo 20 = .ok (.aload_n 0, 1) := by decide +kernel
theorem dX6_undo_21 : decode cX6_undo 21 = .ok (.getfield 37, 3) := by decide +kernel
theorem dX6_undo_24 : decode cX6_undo 24 = .ok (.aload_n 0, 1) := by decide +kernel
theorem dX6_undo_25 : decode cX6_undo 25 = .ok (.getfield 27, 3) := by decide +kernel
theorem dX6_undo_28 : decode cX6_undo 28 = .ok (.invokevirtual 227, 3) := by decide +kernel
theorem dX6_undo_31 : decode cX6_undo 31 = .ok (.aload_n 0, 1) := by decide +kernel
theorem dX6_undo_32 : decode cX6_undo 32 = .ok (.getfield 37, 3) := by decide +kernel
theorem dX6_undo_35 : decode cX6_undo 35 = .ok (.getfield 222, 3) := by decide +kernel
theorem dX6_undo_38 : decode cX6_undo 38 = .ok (.ireturn, 1) := by decide +kernel
set_option maxRecDepth 20000 in
theorem ggX6_ends_X6_isChannel : GoodIn wsX6_ends wsX6_isChannel := goodIn_r _ [10] (by decide +kernel) (by decide +kernel)
set_option maxRecDepth 20000 in
theorem gX6_ends_X6_isChannel : GoodIn wsX6_ends (va_wsS RX6 132 yX6_isChannel wsX6_isChannel) := goodIn_app (goodIn_of _ (by decide +kernel)) ggX6_ends_X6_isChannel
set_option maxRecDepth 20000 in
theorem ggX6_ends_X2_copyFrom : GoodIn wsX6_ends wsX2_copyFrom := goodIn_r _ [15, 16, 17, 18, 19, 20, 21, 22, 23, 24, 25, 26, 27, 28, 29, 30, 31, 32, 33, 34, 35, 36, 37, 38, 39, 40, 41, 42, 43, 44, 45, 46, 47, 48, 49, 14, 50, 51, 52, 53, 54, 55, 56, 134, 135, 136, 137, 138, 139, 140, 141, 142, 143, 144, 145, 146, 147, 148, 149, 150, 151, 152, 153, 154, 155, 156, 157] (by decide +kernel) (by decide +kernel)
set_option maxRecDepth 20000 in
theorem gX6_ends_X2_copyFrom : GoodIn wsX6_ends (wsV RX6 74 RX2 yX2_copyFrom wsX2_copyFrom) := goodIn_app (goodIn_of _ (by decide +kernel)) ggX6_ends_X2_copyFrom
set_option maxRecDepth 20000 in
theorem ggX6_ends_X2_tick : GoodIn wsX6_ends wsX2_tick := goodIn_r _ [60, 25, 26, 24, 61, 62, 63, 14, 64, 65, 66, 67, 68, 32, 69, 39, 70, 71, 72, 73, 74, 75, 76, 77, 78, 79, 80, 81, 82, 83, 84, 16, 85, 86, 87, 88, 89, 36, 90, 91, 92, 93, 34, 40, 94, 95, 96, 97, 35, 98, 99, 100, 101, 102, 103, 104, 105, 21, 106, 107, 108, 109, 110, 111, 112, 113, 22, 27, 52, 23, 51, 28, 114, 115, 116, 117, 118, 119, 120, 121, 122, 123, 41, 42, 43, 44, 45, 46, 37, 124, 134, 135, 136, 137, 138, 139, 140, 141, 142, 143, 144, 145, 146, 147, 148, 149, 150, 151, 152, 153, 154, 155, 156, 157] (by decide +kernel) (by decide +kernel)
set_option maxRecDepth 20000 in
theorem gX6_ends_X2_tick : GoodIn wsX6_ends (wsV RX6 230 RX2 yX2_tick wsX2_tick) := goodIn_app (goodIn_of _ (by decide +kernel)) ggX6_ends_X2_tick
theorem dX6_ends_0 : decode cX6_ends 0 = .ok (.iload_n 1, 1) := by decide +kernel
theorem dX6_ends_1 : decode cX6_ends 1 = .ok (.invokestatic 132, 3) := by decide +kernel
theorem dX6_ends_4 : decode cX6_ends 4 = .ok (.ifCond .ne 13, 3) := by decide +kernel
theorem dX6_ends_7 : decode cX6_ends 7 = .ok (.new 113, 3) := by decide +kernel
theorem dX6_ends_10 : decode cX6_ends 10 = .ok (.dup, 1) := by decide +kernel
theorem dX6_ends_11 : decode cX6_ends 11 = .ok (.ldc 135, 2) := by decide +kernel
theorem dX6_ends_13 : decode cX6_ends 13 = .ok (.invokespecial 117, 3) := by decide +kernel
theorem dX6_ends_16 : decode cX6_ends 16 = .ok (.athrow, 1) := by decide +kernel
theorem dX6_ends_17 : decode cX6_ends 17 = .ok (.aload_n 0, 1) := by decide +kernel
theorem dX6_ends_18 : decode cX6_ends 18 = .ok (.getfield 31, 3) := by decide +kernel
theorem dX6_ends_21 : decode cX6_ends 21 = .ok (.aload_n 0, 1) := by decide +kernel
theorem dX6_ends_22 : decode cX6_ends 22 = .ok (.getfield 27, 3) := by decide +kernel
theorem dX6_ends_25 : decode cX6_ends 25 = .ok (.invokevirtual 74, 3) := by decide +kernel
theorem dX6_ends_28 : decode cX6_ends 28 = .ok (.iconst 0, 1) := by decide +kernel
theorem dX6_ends_29 : decode cX6_ends 29 = .ok (.istore_n 2, 1) := by decide +kernel
theorem dX6_ends_30 : decode cX6_ends 30 = .ok (.iload_n 2, 1) := by decide +kernel
theorem dX6_ends_31 : decode cX6_ends 31 = .ok (.sipush 500, 3) := by decide +kernel
theorem dX6_ends_34 : decode cX6_ends 34 = .ok (.if_icmp .gt 35, 3) := by decide +kernel
theorem dX6_ends_37 : decode cX6_ends 37 = .ok (.aload_n 0, 1) := by decide +kernel
theorem dX6_ends_38 : decode cX6_ends 38 = .ok (.getfield 31, 3) := by decide +kernel
theorem dX6_ends_41 : decode cX6_ends 41 = .ok (.getfield 137, 3) := by decide +kernel
theorem dX6_ends_44 : decode cX6_ends 44 = .ok (.iload_n 1, 1) := by decide +kernel
theorem dX6_ends_45 : decode cX6_ends 45 = .ok (.aaload, 1) := by decide +kernel
theorem dX6_ends_46 : decode cX6_ends 46 = .ok (.getfield 141, 3) := by decide +kernel
theorem dX6_ends_49 : decode cX6_ends 49 = .ok (.iconst 1, 1) := by decide +kernel
theorem dX6_ends_50 : decode cX6_ends 50 = .ok (.if_icmp .eq 5, 3) := by decide +kernel
theorem dX6_ends_53 : decode cX6_ends 53 = .ok (.iload_n 2, 1) := by decide +kernel
theorem dX6_ends_54 : decode cX6_ends 54 = .ok (.ireturn, 1) := by decide +kernel
theorem dX6_ends_55 : decode cX6_ends 55 = .ok (.aload_n 0, 1) := by decide +kernel
theorem dX6_ends_56 : decode cX6_ends 56 = .ok (.getfield 31, 3) := by decide +kernel
theorem dX6_ends_59 : decode cX6_ends 59 = .ok (.invokevirtual 230, 3) := by decide +kernel
theorem dX6_ends_62 : decode cX6_ends 62 = .ok (.pop, 1) := by decide +kernel
theorem dX6_ends_63 : decode cX6_ends 63 = .ok (.iinc 2 1, 3) := by decide +kernel
theorem dX6_ends_66 : decode cX6_ends 66 = .ok (.goto (-36), 3) := by decide +kernel
theorem dX6_ends_69 : decode cX6_ends 69 = .ok (.bipush (-9), 2) := by decide +kernel
theorem dX6_ends_71 : decode cX6_ends 71 = .ok (.ireturn, 1) := by decide +kernel
set_option maxRecDepth 20000 in
theorem ggX6_endOf_X6_isChannel : GoodIn wsX6_endOf wsX6_isChannel := goodIn_r _ [10] (by decide +kernel) (by decide +kernel)
set_option maxRecDepth 20000 in
theorem gX6_endOf_X6_isChannel : GoodIn wsX6_endOf (va_wsS RX6 132 yX6_isChannel wsX6_isChannel) := goodIn_app (goodIn_of _ (by decide +kernel)) ggX6_endOf_X6_isChannel
set_option maxRecDepth 20000 in
theorem ggX6_endOf_X6_lookAhead : GoodIn wsX6_endOf wsX6_lookAhead := goodIn_r _ [14, 3, 15, 16, 17, 18, 19, 20, 21, 22, 23, 24, 25, 26, 27, 28, 29, 30, 31, 32, 33, 34, 35, 36, 37, 38, 39, 40, 41, 42, 43, 44, 45, 46, 47, 48, 49, 50, 51, 52, 53, 54, 55, 56, 57, 58, 59, 60, 61, 62, 63, 64, 65, 66, 67, 68, 69, 70, 71, 72, 73, 74, 75, 76, 77, 78, 79, 80, 81, 82, 83, 84, 85, 86, 87, 88, 89, 90, 91, 92, 93, 94, 95, 96, 97, 98, 99, 100, 101, 102, 103, 104, 105, 106, 107, 108, 109, 110, 111, 112, 113, 114, 115, 116, 117, 118, 119, 120, 121, 122, 123, 124, 125, 126, 127, 128, 129, 130, 131, 132, 133, 134, 135, 136, 137, 138, 139, 140, 141, 142, 143, 144, 145, 146, 147, 148, 149, 150, 151, 152, 153, 154, 155, 156, 157, 158, 159, 160, 161, 162, 163, 164, 165, 166] (by decide +kernel) (by decide +kernel)
set_option maxRecDepth 20000 in
theorem gX6_endOf_X6_lookAhead : GoodIn wsX6_endOf (wsV RX6 233 RX6 yX6_lookAhead wsX6_lookAhead) := goodIn_app (goodIn_of _ (by decide +kernel)) ggX6_endOf_X6_lookAhead
theorem dX6_endOf_0 : decode cX6_endOf 0 = .ok (.iload_n 1, 1) := by decide +kernel
theorem dX6_endOf_1 : decode cX6_endOf 1 = .ok (.invokestatic 132, 3) := by decide +kernel
theorem dX6_endOf_4 : decode cX6_endOf 4 = .ok (.ifCond .ne 13, 3) := by decide +kernel
theorem dX6_endOf_7 : decode cX6_endOf 7 = .ok (.new 113, 3) := by decide +kernel
theorem dX6_endOf_10 : decode cX6_endOf 10 = .ok (.dup, 1) := by decide +kernel
theorem dX6_endOf_11 : decode cX6_endOf 11 = .ok (.ldc 135, 2) := by decide +kernel
theorem dX6_endOf_13 : decode cX6_endOf 13 = .ok (.invokespecial 117, 3) := by decide +kernel
theorem dX6_endOf_16 : decode cX6_endOf 16 = .ok (.athrow, 1) := by decide +kernel
theorem dX6_endOf_17 : decode cX6_endOf 17 = .ok (.aload_n 0, 1) := by decide +kernel
theorem dX6_endOf_18 : decode cX6_endOf 18 = .ok (.sipush 500, 3) := by decide +kernel
theorem dX6_endOf_21 : decode cX6_endOf 21 = .ok (.invokevirtual 233, 3) := by decide +kernel
theorem dX6_endOf_24 : decode cX6_endOf 24 = .ok (.aload_n 0, 1) := by decide +kernel
theorem dX6_endOf_25 : decode cX6_endOf 25 = .ok (.getfield 31, 3) := by decide +kernel
theorem dX6_endOf_28 : decode cX6_endOf 28 = .ok (.getfield 137, 3) := by decide +kernel
theorem dX6_endOf_31 : decode cX6_endOf 31 = .ok (.iload_n 1, 1) := by decide +kernel
theorem dX6_endOf_32 : decode cX6_endOf 32 = .ok (.aaload, 1) := by decide +kernel
theorem dX6_endOf_33 : decode cX6_endOf 33 = .ok (.astore_n 2, 1) := by decide +kernel
theorem dX6_endOf_34 : decode cX6_endOf 34 = .ok (.aload_n 2, 1) := by decide +kernel
theorem dX6_endOf_35 : decode cX6_endOf 35 = .ok (.getfield 141, 3) := by decide +kernel
theorem dX6_endOf_38 : decode cX6_endOf 38 = .ok (.iconst 2, 1) := by decide +kernel
theorem dX6_endOf_39 : decode cX6_endOf 39 = .ok (.if_icmp .ne 5, 3) := by decide +kernel
theorem dX6_endOf_42 : decode cX6_endOf 42 = .ok (.iconst 0, 1) := by decide +kernel
theorem dX6_endOf_43 : decode cX6_endOf 43 = .ok (.ireturn, 1) := by decide +kernel
theorem dX6_endOf_44 : decode cX6_endOf 44 = .ok (.aload_n 2, 1) := by decide +kernel
theorem dX6_endOf_45 : decode cX6_endOf 45 = .ok (.getfield 149, 3) := by decide +kernel
theorem dX6_endOf_48 : decode cX6_endOf 48 = .ok (.ireturn, 1) := by decide +kernel
set_option maxRecDepth 20000 in
theorem ggX6_later_X6_isCell : GoodIn wsX6_later wsX6_isCell := goodIn_r _ [10] (by decide +kernel) (by decide +kernel)
set_option maxRecDepth 20000 in
theorem gX6_later_X6_isCell : GoodIn wsX6_later (va_wsS RX6 109 yX6_isCell wsX6_isCell) := goodIn_app (goodIn_of _ (by decide +kernel)) ggX6_later_X6_isCell
set_option maxRecDepth 20000 in
theorem ggX6_later_X6_isHorizon : GoodIn wsX6_later wsX6_isHorizon := goodIn_r _ [13] (by decide +kernel) (by decide +kernel)
set_option maxRecDepth 20000 in
theorem gX6_later_X6_isHorizon : GoodIn wsX6_later (va_wsS RX6 236 yX6_isHorizon wsX6_isHorizon) := goodIn_app (goodIn_of _ (by decide +kernel)) ggX6_later_X6_isHorizon
set_option maxRecDepth 20000 in
theorem ggX6_later_X6_lookAhead : GoodIn wsX6_later wsX6_lookAhead := goodIn_r _ [17, 5, 18, 19, 20, 21, 22, 23, 24, 25, 26, 27, 28, 29, 30, 31, 32, 33, 34, 35, 36, 37, 38, 39, 40, 41, 42, 43, 44, 45, 46, 47, 48, 49, 50, 51, 52, 53, 54, 55, 56, 57, 58, 59, 60, 61, 62, 63, 64, 65, 66, 67, 68, 69, 70, 71, 72, 73, 74, 75, 76, 77, 78, 79, 80, 81, 82, 83, 84, 85, 86, 87, 88, 89, 90, 91, 92, 93, 94, 95, 96, 97, 98, 99, 100, 101, 102, 103, 104, 105, 106, 107, 108, 109, 110, 111, 112, 113, 114, 115, 116, 117, 118, 119, 120, 121, 122, 123, 124, 125, 126, 127, 128, 129, 130, 131, 132, 133, 134, 135, 136, 137, 138, 139, 140, 141, 142, 143, 144, 145, 146, 147, 148, 149, 150, 151, 152, 153, 154, 155, 156, 157, 158, 159, 160, 161, 162, 163, 164, 165, 166, 167, 168, 169] (by decide +kernel) (by decide +kernel)
set_option maxRecDepth 20000 in
theorem gX6_later_X6_lookAhead : GoodIn wsX6_later (wsV RX6 233 RX6 yX6_lookAhead wsX6_lookAhead) := goodIn_app (goodIn_of _ (by decide +kernel)) ggX6_later_X6_lookAhead
theorem dX6_later_0 : decode cX6_later 0 = .ok (.iload_n 1, 1) := by decide +kernel
theorem dX6_later_1 : decode cX6_later 1 = .ok (.invokestatic 109, 3) := by decide +kernel
theorem dX6_later_4 : decode cX6_later 4 = .ok (.ifCond .ne 13, 3) := by decide +kernel
theorem dX6_later_7 : decode cX6_later 7 = .ok (.new 113, 3) := by decide +kernel
theorem dX6_later_10 : decode cX6_later 10 = .ok (.dup, 1) := by decide +kernel
theorem dX6_later_11 : decode cX6_later 11 = .ok (.ldc 115, 2) := by decide +kernel
theorem dX6_later_13 : decode cX6_later 13 = .ok (.invokespecial 117, 3) := by decide +kernel
theorem dX6_later_16 : decode cX6_later 16 = .ok (.athrow, 1) := by decide +kernel
theorem dX6_later_17 : decode cX6_later 17 = .ok (.iload_n 2, 1) := by decide +kernel
theorem dX6_later_18 : decode cX6_later 18 = .ok (.invokestatic 236, 3) := by decide +kernel
theorem dX6_later_21 : decode cX6_later 21 = .ok (.ifCond .ne 13, 3) := by decide +kernel
theorem dX6_later_24 : decode cX6_later 24 = .ok (.new 56, 3) := by decide +kernel
theorem dX6_later_27 : decode cX6_later 27 = .ok (.dup, 1) := by decide +kernel
theorem dX6_later_28 : decode cX6_later 28 = .ok (.ldc 215, 2) := by decide +kernel
theorem dX6_later_30 : decode cX6_later 30 = .ok (.invokespecial 60, 3) := by decide +kernel
theorem dX6_later_33 : decode cX6_later 33 = .ok (.athrow, 1) := by decide +kernel
theorem dX6_later_34 : decode cX6_later 34 = .ok (.aload_n 0, 1) := by decide +kernel
theorem dX6_later_35 : decode cX6_later 35 = .ok (.iload_n 2, 1) := by decide +kernel
theorem dX6_later_36 : decode cX6_later 36 = .ok (.invokevirtual 233, 3) := by decide +kernel
theorem dX6_later_39 : decode cX6_later 39 = .ok (.aload_n 0, 1) := by decide +kernel
theorem dX6_later_40 : decode cX6_later 40 = .ok (.getfield 31, 3) := by decide +kernel
theorem dX6_later_43 : decode cX6_later 43 = .ok (.getfield 118, 3) := by decide +kernel
theorem dX6_later_46 : decode cX6_later 46 = .ok (.iload_n 1, 1) := by decide +kernel
theorem dX6_later_47 : decode cX6_later 47 = .ok (.iaload, 1) := by decide +kernel
theorem dX6_later_48 : decode cX6_later 48 = .ok (.ireturn, 1) := by decide +kernel
set_option maxRecDepth 20000 in
theorem ggX6_contested_X6_isHorizon : GoodIn wsX6_contested wsX6_isHorizon := goodIn_r _ [7] (by decide +kernel) (by decide +kernel)
set_option maxRecDepth 20000 in
theorem gX6_contested_X6_isHorizon : GoodIn wsX6_contested (va_wsS RX6 236 yX6_isHorizon wsX6_isHorizon) := goodIn_app (goodIn_of _ (by decide +kernel)) ggX6_contested_X6_isHorizon
set_option maxRecDepth 20000 in
theorem ggX6_contested_X6_lookAhead : GoodIn wsX6_contested wsX6_lookAhead := goodIn_r _ [11, 3, 12, 13, 14, 15, 16, 17, 18, 19, 20, 21, 22, 23, 24, 25, 26, 27, 28, 29, 30, 31, 32, 33, 34, 35, 36, 37, 38, 39, 40, 41, 42, 43, 44, 45, 46, 47, 48, 49, 50, 51, 52, 53, 54, 55, 56, 57, 58, 59, 60, 61, 62, 63, 64, 65, 66, 67, 68, 69, 70, 71, 72, 73, 74, 75, 76, 77, 78, 79, 80, 81, 82, 83, 84, 85, 86, 87, 88, 89, 90, 91, 92, 93, 94, 95, 96, 97, 98, 99, 100, 101, 102, 103, 104, 105, 106, 107, 108, 109, 110, 111, 112, 113, 114, 115, 116, 117, 118, 119, 120, 121, 122, 123, 124, 125, 126, 127, 128, 129, 130, 142, 143, 144, 145, 146, 147, 148, 149, 150, 151, 152, 153, 154, 155, 156, 157, 158, 159, 160, 161, 162, 163, 164, 165, 166, 167, 168, 169, 170, 171, 172, 173, 174] (by decide +kernel) (by decide +kernel)
set_option maxRecDepth 20000 in
theorem gX6_contested_X6_lookAhead : GoodIn wsX6_contested (wsV RX6 233 RX6 yX6_lookAhead wsX6_lookAhead) := goodIn_app (goodIn_of _ (by decide +kernel)) ggX6_contested_X6_lookAhead
set_option maxRecDepth 20000 in
theorem ggX6_contested_X2_cellsOfSeveralWriters : GoodIn wsX6_contested wsX2_cellsOfSeveralWriters := goodIn_r _ [134, 53, 135, 136, 137, 138, 139, 140, 141, 151, 152, 153, 154, 155, 156, 157, 158, 159, 160, 161] (by decide +kernel) (by decide +kernel)
set_option maxRecDepth 20000 in
theorem gX6_contested_X2_cellsOfSeveralWriters : GoodIn wsX6_contested (wsV RX6 239 RX2 yX2_cellsOfSeveralWriters wsX2_cellsOfSeveralWriters) := goodIn_app (goodIn_of _ (by decide +kernel)) ggX6_contested_X2_cellsOfSeveralWriters
theorem dX6_contested_0 : decode cX6_contested 0 = .ok (.iload_n 1, 1) := by decide +kernel
theorem dX6_contested_1 : decode cX6_contested 1 = .ok (.invokestatic 236, 3) := by decide +kernel
theorem dX6_contested_4 : decode cX6_contested 4 = .ok (.ifCond .ne 13, 3) := by decide +kernel
theorem dX6_contested_7 : decode cX6_contested 7 = .ok (.new 56, 3) := by decide +kernel
theorem dX6_contested_10 : decode cX6_contested 10 = .ok (.dup, 1) := by decide +kernel
theorem dX6_contested_11 : decode cX6_contested 11 = .ok (.ldc 215, 2) := by decide +kernel
theorem dX6_contested_13 : decode cX6_contested 13 = .ok (.invokespecial 60, 3) := by decide +kernel
theorem dX6_contested_16 : decode cX6_contested 16 = .ok (.athrow, 1) := by decide +kernel
theorem dX6_contested_17 : decode cX6_contested 17 = .ok (.aload_n 0, 1) := by decide +kernel
theorem dX6_contested_18 : decode cX6_contested 18 = .ok (.iload_n 1, 1) := by decide +kernel
theorem dX6_contested_19 : decode cX6_contested 19 = .ok (.invokevirtual 233, 3) := by decide +kernel
theorem dX6_contested_22 : decode cX6_contested 22 = .ok (.aload_n 0, 1) := by decide +kernel
theorem dX6_contested_23 : decode cX6_contested 23 = .ok (.getfield 31, 3) := by decide +kernel
theorem dX6_contested_26 : decode cX6_contested 26 = .ok (.invokevirtual 239, 3) := by decide +kernel
theorem dX6_contested_29 : decode cX6_contested 29 = .ok (.ireturn, 1) := by decide +kernel
set_option maxRecDepth 20000 in
theorem ggX6_firstEdit_X6_lookAhead : GoodIn wsX6_firstEdit wsX6_lookAhead := goodIn_r _ [7, 1, 8, 9, 10, 11, 12, 13, 14, 15, 16, 17, 18, 19, 20, 21, 22, 23, 24, 25, 26, 27, 28, 29, 30, 31, 32, 33, 34, 35, 36, 37, 38, 39, 40, 41, 42, 43, 44, 45, 46, 47, 48, 49, 50, 51, 52, 53, 54, 55, 56, 57, 58, 59, 60, 61, 62, 63, 64, 65, 66, 67, 68, 69, 70, 71, 72, 73, 74, 75, 76, 77, 78, 79, 80, 81, 82, 83, 84, 85, 86, 87, 88, 89, 90, 91, 92, 93, 94, 95, 96, 97, 98, 99, 100, 101, 102, 103, 104, 105, 106, 107, 108, 109, 110, 111, 112, 113, 114, 115, 116, 117, 118, 119, 120, 121, 122, 123, 124, 125, 126, 127, 128, 129, 130, 131, 132, 133, 134, 135, 136, 137, 138, 139, 140, 141, 142, 143, 144, 145, 146, 147, 148, 149, 150, 151, 152, 153, 154, 155, 156, 157, 158, 159] (by decide +kernel) (by decide +kernel)
set_option maxRecDepth 20000 in
theorem gX6_firstEdit_X6_lookAhead : GoodIn wsX6_firstEdit (wsV RX6 233 RX6 yX6_lookAhead wsX6_lookAhead) := goodIn_app (goodIn_of _ (by decide +kernel)) ggX6_firstEdit_X6_lookAhead
theorem dX6_firstEdit_0 : decode cX6_firstEdit 0 = .ok (.aload_n 0, 1) := by decide +kernel
theorem dX6_firstEdit_1 : decode cX6_firstEdit 1 = .ok (.sipush 500, 3) := by decide +kernel
theorem dX6_firstEdit_4 : decode cX6_firstEdit 4 = .ok (.invokevirtual 233, 3) := by decide +kernel
theorem dX6_firstEdit_7 : decode cX6_firstEdit 7 = .ok (.aload_n 0, 1) := by decide +kernel
theorem dX6_firstEdit_8 : decode cX6_firstEdit 8 = .ok (.getfield 31, 3) := by decide +kernel
theorem dX6_firstEdit_11 : decode cX6_firstEdit 11 = .ok (.getfield 242, 3) := by decide +kernel
theorem dX6_firstEdit_14 : decode cX6_firstEdit 14 = .ok (.ireturn, 1) := by decide +kernel
set_option maxRecDepth 20000 in
theorem ggX6_alone_X6_isChannel : GoodIn wsX6_alone wsX6_isChannel := goodIn_r _ [10] (by decide +kernel) (by decide +kernel)
set_option maxRecDepth 20000 in
theorem gX6_alone_X6_isChannel : GoodIn wsX6_alone (va_wsS RX6 132 yX6_isChannel wsX6_isChannel) := goodIn_app (goodIn_of _ (by decide +kernel)) ggX6_alone_X6_isChannel
set_option maxRecDepth 20000 in
theorem ggX6_alone_X2_copyFrom : GoodIn wsX6_alone wsX2_copyFrom := goodIn_r _ [15, 16, 17, 18, 19, 20, 21, 22, 23, 24, 25, 26, 27, 28, 29, 30, 31, 32, 33, 34, 35, 36, 37, 38, 39, 40, 41, 42, 43, 44, 45, 46, 47, 48, 49, 14, 50, 51, 52, 53, 54, 55, 56, 139, 140, 141, 142, 143, 144, 145, 146, 147, 148, 149, 150, 151, 152, 153, 154, 155, 156, 157, 158, 159, 160, 161, 162] (by decide +kernel) (by decide +kernel)
set_option maxRecDepth 20000 in
theorem gX6_alone_X2_copyFrom : GoodIn wsX6_alone (wsV RX6 74 RX2 yX2_copyFrom wsX2_copyFrom) := goodIn_app (goodIn_of _ (by decide +kernel)) ggX6_alone_X2_copyFrom
set_option maxRecDepth 20000 in
theorem ggX6_alone_X1_become : GoodIn wsX6_alone wsX1_become := goodIn_r _ [60, 34, 36, 39, 40, 150, 151, 152, 153, 154, 155, 156, 157, 158, 159, 160, 161, 162] (by decide +kernel) (by decide +kernel)
set_option maxRecDepth 20000 in
theorem gX6_alone_X1_become : GoodIn wsX6_alone (wsV RX6 212 RX1 yX1_become wsX1_become) := goodIn_app (goodIn_of _ (by decide +kernel)) ggX6_alone_X1_become
set_option maxRecDepth 20000 in
theorem ggX6_alone_X2_letTicksGoBy : GoodIn wsX6_alone wsX2_letTicksGoBy := goodIn_r _ [64, 65, 66, 67, 14, 68, 25, 26, 24, 69, 70, 71, 72, 73, 74, 75, 76, 32, 77, 39, 78, 79, 80, 81, 82, 83, 84, 85, 86, 87, 88, 89, 90, 91, 92, 16, 93, 94, 95, 96, 97, 36, 98, 58, 59, 60, 34, 40, 99, 100, 101, 102, 35, 103, 104, 105, 106, 107, 108, 109, 110, 21, 111, 112, 113, 114, 115, 116, 117, 118, 22, 27, 52, 23, 51, 28, 119, 120, 121, 122, 123, 124, 125, 126, 127, 128, 41, 42, 43, 44, 45, 46, 37, 129, 139, 140, 141, 142, 143, 144, 145, 146, 147, 148, 149, 150, 151, 152, 153, 154, 155, 156, 157, 158, 159, 160, 161, 162] (by decide +kernel) (by decide +kernel)
set_option maxRecDepth 20000 in
theorem gX6_alone_X2_letTicksGoBy : GoodIn wsX6_alone (wsV RX6 219 RX2 yX2_letTicksGoBy wsX2_letTicksGoBy) := goodIn_app (goodIn_of _ (by decide +kernel)) ggX6_alone_X2_letTicksGoBy
theorem dX6_alone_0 : decode cX6_alone 0 = .ok (.iload_n 1, 1) := by decide +kernel
theorem dX6_alone_1 : decode cX6_alone 1 = .ok (.invokestatic 132, 3) := by decide +kernel
theorem dX6_alone_4 : decode cX6_alone 4 = .ok (.ifCond .ne 13, 3) := by decide +kernel
theorem dX6_alone_7 : decode cX6_alone 7 = .ok (.new 113, 3) := by decide +kernel
theorem dX6_alone_10 : decode cX6_alone 10 = .ok (.dup, 1) := by decide +kernel
theorem dX6_alone_11 : decode cX6_alone 11 = .ok (.ldc 135, 2) := by decide +kernel
theorem dX6_alone_13 : decode cX6_alone 13 = .ok (.invokespecial 117, 3) := by decide +kernel
theorem dX6_alone_16 : decode cX6_alone 16 = .ok (.athrow, 1) := by decide +kernel
theorem dX6_alone_17 : decode cX6_alone 17 = .ok (.aload_n 0, 1) := by decide +kernel
theorem dX6_alone_18 : decode cX6_alone 18 = .ok (.getfield 31, 3) := by decide +kernel
theorem dX6_alone_21 : decode cX6_alone 21 = .ok (.aload_n 0, 1) := by decide +kernel
theorem dX6_alone_22 : decode cX6_alone 22 = .ok (.getfield 27, 3) := by decide +kernel
theorem dX6_alone_25 : decode cX6_alone 25 = .ok (.invokevirtual 74, 3) := by decide +kernel
theorem dX6_alone_28 : decode cX6_alone 28 = .ok (.iconst 0, 1) := by decide +kernel
theorem dX6_alone_29 : decode cX6_alone 29 = .ok (.istore_n 2, 1) := by decide +kernel
theorem dX6_alone_30 : decode cX6_alone 30 = .ok (.iload_n 2, 1) := by decide +kernel
theorem dX6_alone_31 : decode cX6_alone 31 = .ok (.iconst 3, 1) := by decide +kernel
theorem dX6_alone_32 : decode cX6_alone 32 = .ok (.if_icmp .ge 27, 3) := by decide +kernel
theorem dX6_alone_35 : decode cX6_alone 35 = .ok (.iload_n 2, 1) := by decide +kernel
theorem dX6_alone_36 : decode cX6_alone 36 = .ok (.iload_n 1, 1) := by decide +kernel
theorem dX6_alone_37 : decode cX6_alone 37 = .ok (.if_icmp .eq 16, 3) := by decide +kernel
theorem dX6_alone_40 : decode cX6_alone 40 = .ok (.aload_n 0, 1) := by decide +kernel
theorem dX6_alone_41 : decode cX6_alone 41 = .ok (.getfield 31, 3) := by decide +kernel
theorem dX6_alone_44 : decode cX6_alone 44 = .ok (.getfield 137, 3) := by decide +kernel
theorem dX6_alone_47 : decode cX6_alone 47 = .ok (.iload_n 2, 1) := by decide +kernel
theorem dX6_alone_48 : decode cX6_alone 48 = .ok (.aaload, 1) := by decide +kernel
theorem dX6_alone_49 : decode cX6_alone 49 = .ok (.iconst 0, 1) := by decide +kernel
theorem dX6_alone_50 : decode cX6_alone 50 = .ok (.invokevirtual 212, 3) := by decide +kernel
theorem dX6_alone_53 : decode cX6_alone 53 = .ok (.iinc 2 1, 3) := by decide +kernel
theorem dX6_alone_56 : decode cX6_alone 56 = .ok (.goto (-26), 3) := by decide +kernel
theorem dX6_alone_59 : decode cX6_alone 59 = .ok (.aload_n 0, 1) := by decide +kernel
theorem dX6_alone_60 : decode cX6_alone 60 = .ok (.getfield 31, 3) := by decide +kernel
theorem dX6_alone_63 : decode cX6_alone 63 = .ok (.sipush 500, 3) := by decide +kernel
theorem dX6_alone_66 : decode cX6_alone 66 = .ok (.invokevirtual 219, 3) := by decide +kernel
theorem dX6_alone_69 : decode cX6_alone 69 = .ok (.pop, 1) := by decide +kernel
theorem dX6_alone_70 : decode cX6_alone 70 = .ok (.aload_n 0, 1) := by decide +kernel
theorem dX6_alone_71 : decode cX6_alone 71 = .ok (.getfield 31, 3) := by decide +kernel
theorem dX6_alone_74 : decode cX6_alone 74 = .ok (.getfield 137, 3) := by decide +kernel
theorem dX6_alone_77 : decode cX6_alone 77 = .ok (.iload_n 1, 1) := by decide +kernel
theorem dX6_alone_78 : decode cX6_alone 78 = .ok (.aaload, 1) := by decide +kernel
theorem dX6_alone_79 : decode cX6_alone 79 = .ok (.getfield 168, 3) := by decide +kernel
theorem dX6_alone_82 : decode cX6_alone 82 = .ok (.aload_n 0, 1) := by decide +kernel
theorem dX6_alone_83 : decode cX6_alone 83 = .ok (.getfield 27, 3) := by decide +kernel
theorem dX6_alone_86 : decode cX6_alone 86 = .ok (.getfield 137, 3) := by decide +kernel
theorem dX6_alone_89 : decode cX6_alone 89 = .ok (.iload_n 1, 1) := by decide +kernel
theorem dX6_alone_90 : decode cX6_alone 90 = .ok (.aaload, 1) := by decide +kernel
theorem dX6_alone_91 : decode cX6_alone 91 = .ok (.getfield 168, 3) := by decide +kernel
theorem dX6_alone_94 : decode cX6_alone 94 = .ok (.isub, 1) := by decide +kernel
theorem dX6_alone_95 : decode cX6_alone 95 = .ok (.ireturn, 1) := by decide +kernel
set_option maxRecDepth 20000 in
theorem ggX6_runScript_X6_withoutLastGroups : GoodIn wsX6_runScript wsX6_withoutLastGroups := goodIn_r _ [9, 5] (by decide +kernel) (by decide +kernel)
set_option maxRecDepth 20000 in
theorem gX6_runScript_X6_withoutLastGroups : GoodIn wsX6_runScript (va_wsS RX6 247 yX6_withoutLastGroups wsX6_withoutLastGroups) := goodIn_app (goodIn_of _ (by decide +kernel)) ggX6_runScript_X6_withoutLastGroups
set_option maxRecDepth 20000 in
theorem ggX6_runScript_X2_copyFrom : GoodIn wsX6_runScript wsX2_copyFrom := goodIn_r _ [14, 15, 16, 17, 18, 19, 20, 21, 22, 23, 24, 25, 26, 27, 28, 29, 30, 31, 32, 33, 34, 35, 36, 37, 38, 39, 40, 41, 42, 43, 44, 45, 46, 47, 48, 13, 49, 50, 51, 52, 53, 54, 55, 171, 172, 173, 174, 175, 176, 177, 178, 179, 180, 181, 182, 183, 184, 185, 186, 187, 188, 189, 190, 191, 192, 193, 194] (by decide +kernel) (by decide +kernel)
set_option maxRecDepth 20000 in
theorem gX6_runScript_X2_copyFrom : GoodIn wsX6_runScript (wsV RX6 74 RX2 yX2_copyFrom wsX2_copyFrom) := goodIn_app (goodIn_of _ (by decide +kernel)) ggX6_runScript_X2_copyFrom
set_option maxRecDepth 20000 in
theorem ggX6_runScript_X4_succeeds : GoodIn wsX6_runScript wsX4_succeeds := goodIn_r _ [59, 60, 61, 62, 63, 64, 65, 66, 58, 67, 68, 8, 69, 70, 71, 72, 13, 73, 74, 75, 76, 77, 24, 25, 23, 78, 79, 80, 81, 82, 83, 84, 85, 31, 86, 38, 87, 88, 89, 90, 91, 92, 93, 94, 95, 96, 97, 98, 99, 100, 101, 15, 102, 103, 104, 105, 106, 35, 107, 108, 109, 110, 33, 39, 111, 112, 113, 114, 34, 115, 116, 117, 118, 119, 120, 121, 122, 20, 123, 124, 125, 126, 127, 128, 129, 130, 21, 26, 51, 22, 50, 27, 131, 132, 133, 134, 135, 136, 137, 138, 139, 140, 40, 41, 42, 43, 44, 45, 36, 141, 142, 143, 144, 145, 146, 147, 148, 149, 150, 151, 152, 153, 154, 155, 156, 157, 158, 159, 160, 161, 171, 172, 173, 174, 175, 176, 177, 178, 179, 180, 181, 182, 183, 184, 185, 186, 187, 188, 189, 190, 191, 192, 193, 194] (by decide +kernel) (by decide +kernel)
set_option maxRecDepth 20000 in
theorem gX6_runScript_X4_succeeds : GoodIn wsX6_runScript (va_wsS RX6 255 yX4_succeeds wsX4_succeeds) := goodIn_app (goodIn_of _ (by decide +kernel)) ggX6_runScript_X4_succeeds
theorem dX6_runScript_0 : decode cX6_runScript 0 = .ok (.iload_n 1, 1) := by decide +kernel
theorem dX6_runScript_1 : decode cX6_runScript 1 = .ok (.iconst 1, 1) := by decide +kernel
theorem dX6_runScript_2 : decode cX6_runScript 2 = .ok (.if_icmp .lt 8, 3) := by decide +kernel
theorem dX6_runScript_5 : decode cX6_runScript 5 = .ok (.iload_n 1, 1) := by decide +kernel
theorem dX6_runScript_6 : decode cX6_runScript 6 = .ok (.iconst 3, 1) := by decide +kernel
theorem dX6_runScript_7 : decode cX6_runScript 7 = .ok (.if_icmp .le 13, 3) := by decide +kernel
theorem dX6_runScript_10 : decode cX6_runScript 10 = .ok (.new 56, 3) := by decide +kernel
theorem dX6_runScript_13 : decode cX6_runScript 13 = .ok (.dup, 1) := by decide +kernel
theorem dX6_runScript_14 : decode cX6_runScript 14 = .ok (.ldc 245, 2) := by decide +kernel
theorem dX6_runScript_16 : decode cX6_runScript 16 = .ok (.invokespecial 60, 3) := by decide +kernel
theorem dX6_runScript_19 : decode cX6_runScript 19 = .ok (.athrow, 1) := by decide +kernel
theorem dX6_runScript_20 : decode cX6_runScript 20 = .ok (.lload_n 2, 1) := by decide +kernel
theorem dX6_runScript_21 : decode cX6_runScript 21 = .ok (.lconst 0, 1) := by decide +kernel
theorem dX6_runScript_22 : decode cX6_runScript 22 = .ok (.lcmp, 1) := by decide +kernel
theorem dX6_runScript_23 : decode cX6_runScript 23 = .ok (.ifCond .lt 13, 3) := by decide +kernel
theorem dX6_runScript_26 : decode cX6_runScript 26 = .ok (.lload_n 2, 1) := by decide +kernel
theorem dX6_runScript_27 : decode cX6_runScript 27 = .ok (.iload_n 1, 1) := by decide +kernel
theorem dX6_runScript_28 : decode cX6_runScript 28 = .ok (.invokestatic 247, 3) := by decide +kernel
theorem dX6_runScript_31 : decode cX6_runScript 31 = .ok (.lconst 0, 1) := by decide +kernel
theorem dX6_runScript_32 : decode cX6_runScript 32 = .ok (.lcmp, 1) := by decide +kernel
theorem dX6_runScript_33 : decode cX6_runScript 33 = .ok (.ifCond .eq 13, 3) := by decide +kernel
theorem dX6_runScript_36 : decode cX6_runScript 36 = .ok (.new 56, 3) := by decide +kernel
theorem dX6_runScript_39 : decode cX6_runScript 39 = .ok (.dup, 1) := by decide +kernel
theorem dX6_runScript_40 : decode cX6_runScript 40 = .ok (.ldc 251, 2) := by decide +kernel
theorem dX6_runScript_42 : decode cX6_runScript 42 = .ok (.invokespecial 60, 3) := by decide +kernel
theorem dX6_runScript_45 : decode cX6_runScript 45 = .ok (.athrow, 1) := by decide +kernel
theorem dX6_runScript_46 : decode cX6_runScript 46 = .ok (.aload_n 0, 1) := by decide +kernel
theorem dX6_runScript_47 : decode cX6_runScript 47 = .ok (.getfield 31, 3) := by decide +kernel
theorem dX6_runScript_50 : decode cX6_runScript 50 = .ok (.aload_n 0, 1) := by decide +kernel
theorem dX6_runScript_51 : decode cX6_runScript 51 = .ok (.getfield 27, 3) := by decide +kernel
theorem dX6_runScript_54 : decode cX6_runScript 54 = .ok (.invokevirtual 74, 3) := by decide +kernel
theorem dX6_runScript_57 : decode cX6_runScript 57 = .ok (.iconst 0, 1) := by decide +kernel
theorem dX6_runScript_58 : decode cX6_runScript 58 = .ok (.istore 4, 2) := by decide +kernel
theorem dX6_runScript_60 : decode cX6_runScript 60 = .ok (.iload 4, 2) := by decide +kernel
theorem dX6_runScript_62 : decode cX6_runScript 62 = .ok (.iload_n 1, 1) := by decide +kernel
theorem dX6_runScript_63 : decode cX6_runScript 63 = .ok (.if_icmp .ge 41, 3) := by decide +kernel
theorem dX6_runScript_66 : decode cX6_runScript 66 = .ok (.lload_n 2, 1) := by decide +kernel
theorem dX6_runScript_67 : decode cX6_runScript 67 = .ok (.iload_n 1, 1) := by decide +kernel
theorem dX6_runScript_68 : decode cX6_runScript 68 = .ok (.iconst 1, 1) := by decide +kernel
theorem dX6_runScript_69 : decode cX6_runScript 69 = .ok (.isub, 1) := by decide +kernel
theorem dX6_runScript_70 : decode cX6_runScript 70 = .ok (.iload 4, 2) := by decide +kernel
theorem dX6_runScript_72 : decode cX6_runScript 72 = .ok (.isub, 1) := by decide +kernel
theorem dX6_runScript_73 : decode cX6_runScript 73 = .ok (.invokestatic 247, 3) := by decide +kernel
theorem dX6_runScript_76 : decode cX6_runScript 76 = .ok (.lstore 5, 2) := by decide +kernel
theorem dX6_runScript_78 : decode cX6_runScript 78 = .ok (.aload_n 0, 1) := by decide +kernel
theorem dX6_runScript_79 : decode cX6_runScript 79 = .ok (.getfield 31, 3) := by decide +kernel
theorem dX6_runScript_82 : decode cX6_runScript 82 = .ok (.lload 5, 2) := by decide +kernel
theorem dX6_runScript_84 : decode cX6_runScript 84 = .ok (.ldc2_w 253, 3) := by decide +kernel
theorem dX6_runScript_87 : decode cX6_runScript 87 = .ok (.lrem, 1) := by decide +kernel
theorem dX6_runScript_88 : decode cX6_runScript 88 = .ok (.l2i, 1) := by decide +kernel
theorem dX6_runScript_89 : decode cX6_runScript 89 = .ok (.invokestatic 255, 3) := by decide +kernel
theorem dX6_runScript_92 : decode cX6_runScript 92 = .ok (.ifCond .ne 6, 3) := by decide +kernel
theorem dX6_runScript_95 : decode cX6_runScript 95 = .ok (.iload 4, 2) := by decide +kernel
theorem dX6_runScript_97 : decode cX6_runScript 97 = .ok (.ireturn, 1) := by decide +kernel
theorem dX6_runScript_98 : decode cX6_runScript 98 = .ok (.iinc 4 1, 3) := by decide +kernel
theorem dX6_runScript_101 : decode cX6_runScript 101 = .ok (.goto (-41), 3) := by decide +kernel
theorem dX6_runScript_104 : decode cX6_runScript 104 = .ok (.bipush (-9), 2) := by decide +kernel
theorem dX6_runScript_106 : decode cX6_runScript 106 = .ok (.ireturn, 1) := by decide +kernel
set_option maxRecDepth 20000 in
theorem ggX6_simulate_X2_copyFrom : GoodIn wsX6_simulate wsX2_copyFrom := goodIn_r _ [15, 16, 17, 18, 19, 20, 21, 22, 23, 24, 25, 26, 27, 28, 29, 30, 31, 32, 33, 34, 35, 36, 37, 38, 39, 40, 41, 42, 43, 44, 45, 46, 47, 48, 49, 14, 50, 51, 52, 53, 54, 55, 56, 150, 151, 152, 153, 154, 155, 156, 157, 158, 159, 160, 161, 162, 163, 164, 165, 166, 167, 168, 169, 170, 171, 172, 173] (by decide +kernel) (by decide +kernel)
set_option maxRecDepth 20000 in
theorem gX6_simulate_X2_copyFrom : GoodIn wsX6_simulate (wsV RX6 74 RX2 yX2_copyFrom wsX2_copyFrom) := goodIn_app (goodIn_of _ (by decide +kernel)) ggX6_simulate_X2_copyFrom
set_option maxRecDepth 20000 in
theorem ggX6_simulate_X1_beginAt : GoodIn wsX6_simulate wsX1_beginAt := goodIn_r _ [60, 35, 61, 62, 63, 32, 64, 34, 36, 39, 40, 161, 162, 163, 164, 165, 166, 167, 168, 169, 170, 171, 172, 173] (by decide +kernel) (by decide +kernel)
set_option maxRecDepth 20000 in
theorem gX6_simulate_X1_beginAt : GoodIn wsX6_simulate (wsV RX6 203 RX1 yX1_beginAt wsX1_beginAt) := goodIn_app (goodIn_of _ (by decide +kernel)) ggX6_simulate_X1_beginAt
set_option maxRecDepth 20000 in
theorem ggX6_simulate_X2_letTicksGoBy : GoodIn wsX6_simulate wsX2_letTicksGoBy := goodIn_r _ [68, 69, 70, 71, 14, 72, 25, 26, 24, 73, 74, 75, 76, 77, 78, 79, 80, 32, 81, 39, 82, 83, 84, 85, 86, 87, 88, 89, 90, 91, 92, 93, 94, 95, 96, 16, 97, 98, 99, 100, 101, 36, 61, 62, 63, 64, 34, 40, 102, 103, 104, 105, 35, 106, 107, 108, 109, 110, 111, 112, 113, 21, 114, 115, 116, 117, 118, 119, 120, 121, 22, 27, 52, 23, 51, 28, 122, 123, 124, 125, 126, 127, 128, 129, 130, 131, 41, 42, 43, 44, 45, 46, 37, 132, 150, 151, 152, 153, 154, 155, 156, 157, 158, 159, 160, 161, 162, 163, 164, 165, 166, 167, 168, 169, 170, 171, 172, 173] (by decide +kernel) (by decide +kernel)
set_option maxRecDepth 20000 in
theorem gX6_simulate_X2_letTicksGoBy : GoodIn wsX6_simulate (wsV RX6 219 RX2 yX2_letTicksGoBy wsX2_letTicksGoBy) := goodIn_app (goodIn_of _ (by decide +kernel)) ggX6_simulate_X2_letTicksGoBy
set_option maxRecDepth 20000 in
theorem ggX6_simulate_X2_channelsThatAre : GoodIn wsX6_simulate wsX2_channelsThatAre := goodIn_r _ [136, 24, 77, 150, 151, 152, 153, 154, 155, 156, 157, 158, 159, 160, 161, 162, 163, 164, 165, 166, 167, 168, 169, 170, 171, 172, 173] (by decide +kernel) (by decide +kernel)
set_option maxRecDepth 20000 in
theorem gX6_simulate_X2_channelsThatAre : GoodIn wsX6_simulate (wsV RX6 81 RX2 yX2_channelsThatAre wsX2_channelsThatAre) := goodIn_app (goodIn_of _ (by decide +kernel)) ggX6_simulate_X2_channelsThatAre
set_option maxRecDepth 20000 in
theorem ggX6_simulate_X2_sumOfValues : GoodIn wsX6_simulate wsX2_sumOfValues := goodIn_r _ [140, 16, 150, 151, 152, 153, 154, 155, 156, 157, 158, 159, 160] (by decide +kernel) (by decide +kernel)
set_option maxRecDepth 20000 in
theorem gX6_simulate_X2_sumOfValues : GoodIn wsX6_simulate (wsV RX6 92 RX2 yX2_sumOfValues wsX2_sumOfValues) := goodIn_app (goodIn_of _ (by decide +kernel)) ggX6_simulate_X2_sumOfValues
theorem dX6_simulate_0 : decode cX6_simulate 0 = .ok (.iload_n 3, 1) := by decide +kernel
theorem dX6_simulate_1 : decode cX6_simulate 1 = .ok (.iconst 1, 1) := by decide +kernel
theorem dX6_simulate_2 : decode cX6_simulate 2 = .ok (.if_icmp .lt 9, 3) := by decide +kernel
theorem dX6_simulate_5 : decode cX6_simulate 5 = .ok (.iload_n 3, 1) := by decide +kernel
theorem dX6_simulate_6 : decode cX6_simulate 6 = .ok (.bipush 50, 2) := by decide +kernel
theorem dX6_simulate_8 : decode cX6_simulate 8 = .ok (.if_icmp .le 14, 3) := by decide +kernel
theorem dX6_simulate_11 : decode cX6_simulate 11 = .ok (.new 56, 3) := by decide +kernel
theorem dX6_simulate_14 : decode cX6_simulate 14 = .ok (.dup, 1) := by decide +kernel
theorem dX6_simulate_15 : decode cX6_simulate 15 = .ok (.ldc_w 261, 3) := by decide +kernel
theorem dX6_simulate_18 : decode cX6_simulate 18 = .ok (.invokespecial 60, 3) := by decide +kernel
theorem dX6_simulate_21 : decode cX6_simulate 21 = .ok (.athrow, 1) := by decide +kernel
theorem dX6_simulate_22 : decode cX6_simulate 22 = .ok (.aload_n 0, 1) := by decide +kernel
theorem dX6_simulate_23 : decode cX6_simulate 23 = .ok (.getfield 31, 3) := by decide +kernel
theorem dX6_simulate_26 : decode cX6_simulate 26 = .ok (.aload_n 0, 1) := by decide +kernel
theorem dX6_simulate_27 : decode cX6_simulate 27 = .ok (.getfield 27, 3) := by decide +kernel
theorem dX6_simulate_30 : decode cX6_simulate 30 = .ok (.invokevirtual 74, 3) := by decide +kernel
theorem dX6_simulate_33 : decode cX6_simulate 33 = .ok (.lload_n 1, 1) := by decide +kernel
theorem dX6_simulate_34 : decode cX6_simulate 34 = .ok (.lstore 4, 2) := by decide +kernel
theorem dX6_simulate_36 : decode cX6_simulate 36 = .ok (.iconst 0, 1) := by decide +kernel
theorem dX6_simulate_37 : decode cX6_simulate 37 = .ok (.istore 6, 2) := by decide +kernel
theorem dX6_simulate_39 : decode cX6_simulate 39 = .ok (.iload 6, 2) := by decide +kernel
theorem dX6_simulate_41 : decode cX6_simulate 41 = .ok (.iload_n 3, 1) := by decide +kernel
theorem dX6_simulate_42 : decode cX6_simulate 42 = .ok (.if_icmp .ge 100, 3) := by decide +kernel
theorem dX6_simulate_45 : decode cX6_simulate 45 = .ok (.lload 4, 2) := by decide +kernel
theorem dX6_simulate_47 : decode cX6_simulate 47 = .ok (.ldc2_w 263, 3) := by decide +kernel
theorem dX6_simulate_50 : decode cX6_simulate 50 = .ok (.lmul, 1) := by decide +kernel
theorem dX6_simulate_51 : decode cX6_simulate 51 = .ok (.ldc2_w 265, 3) := by decide +kernel
theorem dX6_simulate_54 : decode cX6_simulate 54 = .ok (.ladd, 1) := by decide +kernel
theorem dX6_simulate_55 : decode cX6_simulate 55 = .ok (.lstore 4, 2) := by decide +kernel
theorem dX6_simulate_57 : decode cX6_simulate 57 = .ok (.lload 4, 2) := by decide +kernel
theorem dX6_simulate_59 : decode cX6_simulate 59 = .ok (.bipush 33, 2) := by decide +kernel
theorem dX6_simulate_61 : decode cX6_simulate 61 = .ok (.lushr, 1) := by decide +kernel
theorem dX6_simulate_62 : decode cX6_simulate 62 = .ok (.l2i, 1) := by decide +kernel
theorem dX6_simulate_63 : decode cX6_simulate 63 = .ok (.istore 7, 2) := by decide +kernel
theorem dX6_simulate_65 : decode cX6_simulate 65 = .ok (.aload_n 0, 1) := by decide +kernel
theorem dX6_simulate_66 : decode cX6_simulate 66 = .ok (.getfield 31, 3) := by decide +kernel
theorem dX6_simulate_69 : decode cX6_simulate 69 = .ok (.getfield 118, 3) := by decide +kernel
theorem dX6_simulate_72 : decode cX6_simulate 72 = .ok (.iload 7, 2) := by decide +kernel
theorem dX6_simulate_74 : decode cX6_simulate 74 = .ok (.bipush 96, 2) := by decide +kernel
theorem dX6_simulate_76 : decode cX6_simulate 76 = .ok (.irem, 1) := by decide +kernel
theorem dX6_simulate_77 : decode cX6_simulate 77 = .ok (.iload 7, 2) := by decide +kernel
theorem dX6_simulate_79 : decode cX6_simulate 79 = .ok (.sipush 128, 3) := by decide +kernel
theorem dX6_simulate_82 : decode cX6_simulate 82 = .ok (.idiv, 1) := by decide +kernel
theorem dX6_simulate_83 : decode cX6_simulate 83 = .ok (.bipush 100, 2) := by decide +kernel
theorem dX6_simulate_85 : decode cX6_simulate 85 = .ok (.irem, 1) := by decide +kernel
theorem dX6_simulate_86 : decode cX6_simulate 86 = .ok (.iastore, 1) := by decide +kernel
theorem dX6_simulate_87 : decode cX6_simulate 87 = .ok (.iload 7, 2) := by decide +kernel
theorem dX6_simulate_89 : decode cX6_simulate 89 = .ok (.sipush 16384, 3) := by decide +kernel
theorem dX6_simulate_92 : decode cX6_simulate 92 = .ok (.idiv, 1) := by decide +kernel
theorem dX6_simulate_93 : decode cX6_simulate 93 = .ok (.iconst 4, 1) := by decide +kernel
theorem dX6_simulate_94 : decode cX6_simulate 94 = .ok (.irem, 1) := by decide +kernel
theorem dX6_simulate_95 : decode cX6_simulate 95 = .ok (.ifCond .ne 31, 3) := by decide +kernel
theorem dX6_simulate_98 : decode cX6_simulate 98 = .ok (.aload_n 0, 1) := by decide +kernel
theorem dX6_simulate_99 : decode cX6_simulate 99 = .ok (.getfield 31, 3) := by decide +kernel
theorem dX6_simulate_102 : decode cX6_simulate 102 = .ok (.getfield 137, 3) := by decide +kernel
theorem dX6_simulate_105 : decode cX6_simulate 105 = .ok (.iload 7, 2) := by decide +kernel
theorem dX6_simulate_107 : decode cX6_simulate 107 = .ok (.ldc_w 267, 3) := by decide +kernel
theorem dX6_simulate_110 : decode cX6_simulate 110 = .ok (.idiv, 1) := by decide +kernel
theorem dX6_simulate_111 : decode cX6_simulate 111 = .ok (.iconst 3, 1) := by decide +kernel
theorem dX6_simulate_112 : decode cX6_simulate 112 = .ok (.irem, 1) := by decide +kernel
theorem dX6_simulate_113 : decode cX6_simulate 113 = .ok (.aaload, 1) := by decide +kernel
theorem dX6_simulate_114 : decode cX6_simulate 114 = .ok (.iload 7, 2) := by decide +kernel
theorem dX6_simulate_116 : decode cX6_simulate 116 = .ok (.ldc_w 268, 3) := by decide +kernel
theorem dX6_simulate_119 : decode cX6_simulate 119 = .ok (.idiv, 1) := by decide +kernel
theorem dX6_simulate_120 : decode cX6_simulate 120 = .ok (.bipush 91, 2) := by decide +kernel
theorem dX6_simulate_122 : decode cX6_simulate 122 = .ok (.irem, 1) := by decide +kernel
theorem dX6_simulate_123 : decode cX6_simulate 123 = .ok (.invokevirtual 203, 3) := by decide +kernel
theorem dX6_simulate_126 : decode cX6_simulate 126 = .ok (.aload_n 0, 1) := by decide +kernel
theorem dX6_simulate_127 : decode cX6_simulate 127 = .ok (.getfield 31, 3) := by decide +kernel
theorem dX6_simulate_130 : decode cX6_simulate 130 = .ok (.bipush 8, 2) := by decide +kernel
theorem dX6_simulate_132 : decode cX6_simulate 132 = .ok (.invokevirtual 219, 3) := by decide +kernel
theorem dX6_simulate_135 : decode cX6_simulate 135 = .ok (.pop, 1) := by decide +kernel
theorem dX6_simulate_136 : decode cX6_simulate 136 = .ok (.iinc 6 1, 3) := by decide +kernel
theorem dX6_simulate_139 : decode cX6_simulate 139 = .ok (.goto (-100), 3) := by decide +kernel
theorem dX6_simulate_142 : decode cX6_simulate 142 = .ok (.sipush 10000, 3) := by decide +kernel
theorem dX6_simulate_145 : decode cX6_simulate 145 = .ok (.aload_n 0, 1) := by decide +kernel
theorem dX6_simulate_146 : decode cX6_simulate 146 = .ok (.getfield 31, 3) := by decide +kernel
theorem dX6_simulate_149 : decode cX6_simulate 149 = .ok (.iconst 3, 1) := by decide +kernel
theorem dX6_simulate_150 : decode cX6_simulate 150 = .ok (.invokevirtual 81, 3) := by decide +kernel
theorem dX6_simulate_153 : decode cX6_simulate 153 = .ok (.imul, 1) := by decide +kernel
theorem dX6_simulate_154 : decode cX6_simulate 154 = .ok (.aload_n 0, 1) := by decide +kernel
theorem dX6_simulate_155 : decode cX6_simulate 155 = .ok (.getfield 31, 3) := by decide +kernel
theorem dX6_simulate_158 : decode cX6_simulate 158 = .ok (.invokevirtual 92, 3) := by decide +kernel
theorem dX6_simulate_161 : decode cX6_simulate 161 = .ok (.iadd, 1) := by decide +kernel
theorem dX6_simulate_162 : decode cX6_simulate 162 = .ok (.ireturn, 1) := by decide +kernel
set_option maxRecDepth 20000 in
theorem ggX6_save_X2_copyFrom : GoodIn wsX6_save wsX2_copyFrom := goodIn_r _ [11, 12, 13, 14, 15, 16, 17, 18, 19, 20, 21, 22, 23, 24, 25, 26, 27, 28, 29, 30, 31, 32, 33, 34, 35, 36, 37, 38, 39, 40, 41, 42, 43, 44, 45, 10, 46, 47, 48, 49, 50, 51, 52, 62, 63, 64, 65, 66, 67, 68, 69, 70, 71, 72, 73, 74, 75, 76, 77, 78, 79, 80, 81, 82, 83, 84, 85] (by decide +kernel) (by decide +kernel)
set_option maxRecDepth 20000 in
theorem gX6_save_X2_copyFrom : GoodIn wsX6_save (wsV RX6 74 RX2 yX2_copyFrom wsX2_copyFrom) := goodIn_app (goodIn_of _ (by decide +kernel)) ggX6_save_X2_copyFrom
theorem dX6_save_0 : decode cX6_save 0 = .ok (.iload_n 1, 1) := by decide +kernel
theorem dX6_save_1 : decode cX6_save 1 = .ok (.ifCond .lt 8, 3) := by decide +kernel
theorem dX6_save_4 : decode cX6_save 4 = .ok (.iload_n 1, 1) := by decide +kernel
theorem dX6_save_5 : decode cX6_save 5 = .ok (.iconst 2, 1) := by decide +kernel
theorem dX6_save_6 : decode cX6_save 6 = .ok (.if_icmp .lt 14, 3) := by decide +kernel
theorem dX6_save_9 : decode cX6_save 9 = .ok (.new 113, 3) := by decide +kernel
theorem dX6_save_12 : decode cX6_save 12 = .ok (.dup, 1) := by decide +kernel
theorem dX6_save_13 : decode cX6_save 13 = .ok (.ldc_w 269, 3) := by decide +kernel
theorem dX6_save_16 : decode cX6_save 16 = .ok (.invokespecial 117, 3) := by decide +kernel
theorem dX6_save_19 : decode cX6_save 19 = .ok (.athrow, 1) := by decide +kernel
theorem dX6_save_20 : decode cX6_save 20 = .ok (.aload_n 0, 1) := by decide +kernel
theorem dX6_save_21 : decode cX6_save 21 = .ok (.getfield 41, 3) := by decide +kernel
theorem dX6_save_24 : decode cX6_save 24 = .ok (.iload_n 1, 1) := by decide +kernel
theorem dX6_save_25 : decode cX6_save 25 = .ok (.aaload, 1) := by decide +kernel
theorem dX6_save_26 : decode cX6_save 26 = .ok (.aload_n 0, 1) := by decide +kernel
theorem dX6_save_27 : decode cX6_save 27 = .ok (.getfield 27, 3) := by decide +kernel
theorem dX6_save_30 : decode cX6_save 30 = .ok (.invokevirtual 74, 3) := by decide +kernel
theorem dX6_save_33 : decode cX6_save 33 = .ok (.aload_n 0, 1) := by decide +kernel
theorem dX6_save_34 : decode cX6_save 34 = .ok (.getfield 45, 3) := by decide +kernel
theorem dX6_save_37 : decode cX6_save 37 = .ok (.iload_n 1, 1) := by decide +kernel
theorem dX6_save_38 : decode cX6_save 38 = .ok (.iconst 1, 1) := by decide +kernel
theorem dX6_save_39 : decode cX6_save 39 = .ok (.bastore, 1) := by decide +kernel
theorem dX6_save_40 : decode cX6_save 40 = .ok (.aload_n 0, 1) := by decide +kernel
theorem dX6_save_41 : decode cX6_save 41 = .ok (.getfield 27, 3) := by decide +kernel
theorem dX6_save_44 : decode cX6_save 44 = .ok (.getfield 85, 3) := by decide +kernel
theorem dX6_save_47 : decode cX6_save 47 = .ok (.ireturn, 1) := by decide +kernel
set_option maxRecDepth 20000 in
theorem ggX6_restore_X2_copyFrom : GoodIn wsX6_restore wsX2_copyFrom := goodIn_r _ [14, 15, 16, 17, 18, 19, 20, 21, 22, 23, 24, 25, 26, 27, 28, 29, 30, 31, 32, 33, 34, 35, 36, 37, 38, 39, 40, 41, 42, 43, 44, 45, 46, 47, 48, 13, 49, 50, 51, 52, 53, 54, 55, 71, 72, 73, 74, 75, 76, 77, 78, 79, 80, 81, 82, 83, 84, 85, 86, 87, 88, 89, 90, 91, 92, 93, 94] (by decide +kernel) (by decide +kernel)
set_option maxRecDepth 20000 in
theorem gX6_restore_X2_copyFrom : GoodIn wsX6_restore (wsV RX6 74 RX2 yX2_copyFrom wsX2_copyFrom) := goodIn_app (goodIn_of _ (by decide +kernel)) ggX6_restore_X2_copyFrom
set_option maxRecDepth 20000 in
theorem ggX6_restore_X3_forget : GoodIn wsX6_restore wsX3_forget := goodIn_r _ [60, 61, 95, 96, 97] (by decide +kernel) (by decide +kernel)
set_option maxRecDepth 20000 in
theorem gX6_restore_X3_forget : GoodIn wsX6_restore (wsV RX6 78 RX3 yX3_forget wsX3_forget) := goodIn_app (goodIn_of _ (by decide +kernel)) ggX6_restore_X3_forget
theorem dX6_restore_0 : decode cX6_restore 0 = .ok (.iload_n 1, 1) := by decide +kernel
theorem dX6_restore_1 : decode cX6_restore 1 = .ok (.ifCond .lt 8, 3) := by decide +kernel
theorem dX6_restore_4 : decode cX6_restore 4 = .ok (.iload_n 1, 1) := by decide +kernel
theorem dX6_restore_5 : decode cX6_restore 5 = .ok (.iconst 2, 1) := by decide +kernel
theorem dX6_restore_6 : decode cX6_restore 6 = .ok (.if_icmp .lt 14, 3) := by decide +kernel
theorem dX6_restore_9 : decode cX6_restore 9 = .ok (.new 113, 3) := by decide +kernel
theorem dX6_restore_12 : decode cX6_restore 12 = .ok (.dup, 1) := by decide +kernel
theorem dX6_restore_13 : decode cX6_restore 13 = .ok (.ldc_w 269, 3) := by decide +kernel
theorem dX6_restore_16 : decode cX6_restore 16 = .ok (.invokespecial 117, 3) := by decide +kernel
theorem dX6_restore_19 : decode cX6_restore 19 = .ok (.athrow, 1) := by decide +kernel
theorem dX6_restore_20 : decode cX6_restore 20 = .ok (.aload_n 0, 1) := by decide +kernel
theorem dX6_restore_21 : decode cX6_restore 21 = .ok (.getfield 45, 3) := by decide +kernel
theorem dX6_restore_24 : decode cX6_restore 24 = .ok (.iload_n 1, 1) := by decide +kernel
theorem dX6_restore_25 : decode cX6_restore 25 = .ok (.baload, 1) := by decide +kernel
theorem dX6_restore_26 : decode cX6_restore 26 = .ok (.ifCond .ne 14, 3) := by decide +kernel
theorem dX6_restore_29 : decode cX6_restore 29 = .ok (.new 63, 3) := by decide +kernel
theorem dX6_restore_32 : decode cX6_restore 32 = .ok (.dup, 1) := by decide +kernel
theorem dX6_restore_33 : decode cX6_restore 33 = .ok (.ldc_w 271, 3) := by decide +kernel
theorem dX6_restore_36 : decode cX6_restore 36 = .ok (.invokespecial 67, 3) := by decide +kernel
theorem dX6_restore_39 : decode cX6_restore 39 = .ok (.athrow, 1) := by decide +kernel
theorem dX6_restore_40 : decode cX6_restore 40 = .ok (.aload_n 0, 1) := by decide +kernel
theorem dX6_restore_41 : decode cX6_restore 41 = .ok (.getfield 27, 3) := by decide +kernel
theorem dX6_restore_44 : decode cX6_restore 44 = .ok (.aload_n 0, 1) := by decide +kernel
theorem dX6_restore_45 : decode cX6_restore 45 = .ok (.getfield 41, 3) := by decide +kernel
theorem dX6_restore_48 : decode cX6_restore 48 = .ok (.iload_n 1, 1) := by decide +kernel
theorem dX6_restore_49 : decode cX6_restore 49 = .ok (.aaload, 1) := by decide +kernel
theorem dX6_restore_50 : decode cX6_restore 50 = .ok (.invokevirtual 74, 3) := by decide +kernel
theorem dX6_restore_53 : decode cX6_restore 53 = .ok (.aload_n 0, 1) := by decide +kernel
theorem dX6_restore_54 : decode cX6_restore 54 = .ok (.getfield 37, 3) := by decide +kernel
theorem dX6_restore_57 : decode cX6_restore 57 = .ok (.invokevirtual 78, 3) := by decide +kernel
theorem dX6_restore_60 : decode cX6_restore 60 = .ok (.aload_n 0, 1) := by decide +kernel
theorem dX6_restore_61 : decode cX6_restore 61 = .ok (.getfield 27, 3) := by decide +kernel
theorem dX6_restore_64 : decode cX6_restore 64 = .ok (.getfield 85, 3) := by decide +kernel
theorem dX6_restore_67 : decode cX6_restore 67 = .ok (.ireturn, 1) := by decide +kernel
set_option maxRecDepth 20000 in
theorem ggX6_lookAhead_X2_copyFrom : GoodIn wsX6_lookAhead wsX2_copyFrom := goodIn_r _ [7, 8, 9, 10, 11, 12, 13, 14, 15, 16, 17, 18, 19, 20, 21, 22, 23, 24, 25, 26, 27, 28, 29, 30, 31, 32, 33, 34, 35, 36, 37, 38, 39, 40, 41, 6, 42, 43, 44, 45, 46, 47, 48, 130, 131, 132, 133, 134, 135, 136, 137, 138, 139, 140, 141, 142, 143, 144, 145, 146, 147, 148, 149, 150, 151, 152, 153] (by decide +kernel) (by decide +kernel)
set_option maxRecDepth 20000 in
theorem gX6_lookAhead_X2_copyFrom : GoodIn wsX6_lookAhead (wsV RX6 74 RX2 yX2_copyFrom wsX2_copyFrom) := goodIn_app (goodIn_of _ (by decide +kernel)) ggX6_lookAhead_X2_copyFrom
set_option maxRecDepth 20000 in
theorem ggX6_lookAhead_X2_letTicksGoBy : GoodIn wsX6_lookAhead wsX2_letTicksGoBy := goodIn_r _ [52, 53, 54, 55, 6, 56, 17, 18, 16, 57, 58, 59, 60, 61, 62, 63, 64, 24, 65, 31, 66, 67, 68, 69, 70, 71, 72, 73, 74, 75, 76, 77, 78, 79, 80, 8, 81, 82, 83, 84, 85, 28, 86, 87, 88, 89, 26, 32, 90, 91, 92, 93, 27, 94, 95, 96, 97, 98, 99, 100, 101, 13, 102, 103, 104, 105, 106, 107, 108, 109, 14, 19, 44, 15, 43, 20, 110, 111, 112, 113, 114, 115, 116, 117, 118, 119, 33, 34, 35, 36, 37, 38, 29, 120, 130, 131, 132, 133, 134, 135, 136, 137, 138, 139, 140, 141, 142, 143, 144, 145, 146, 147, 148, 149, 150, 151, 152, 153] (by decide +kernel) (by decide +kernel)
set_option maxRecDepth 20000 in
theorem gX6_lookAhead_X2_letTicksGoBy : GoodIn wsX6_lookAhead (wsV RX6 219 RX2 yX2_letTicksGoBy wsX2_letTicksGoBy) := goodIn_app (goodIn_of _ (by decide +kernel)) ggX6_lookAhead_X2_letTicksGoBy
theorem dX6_lookAhead_0 : decode cX6_lookAhead 0 = .ok (.aload_n 0, 1) := by decide +kernel
theorem dX6_lookAhead_1 : decode cX6_lookAhead 1 = .ok (.getfield 31, 3) := by decide +kernel
theorem dX6_lookAhead_4 : decode cX6_lookAhead 4 = .ok (.aload_n 0, 1) := by decide +kernel
theorem dX6_lookAhead_5 : decode cX6_lookAhead 5 = .ok (.getfield 27, 3) := by decide +kernel
theorem dX6_lookAhead_8 : decode cX6_lookAhead 8 = .ok (.invokevirtual 74, 3) := by decide +kernel
theorem dX6_lookAhead_11 : decode cX6_lookAhead 11 = .ok (.aload_n 0, 1) := by decide +kernel
theorem dX6_lookAhead_12 : decode cX6_lookAhead 12 = .ok (.getfield 31, 3) := by decide +kernel
theorem dX6_lookAhead_15 : decode cX6_lookAhead 15 = .ok (.iload_n 1, 1) := by decide +kernel
theorem dX6_lookAhead_16 : decode cX6_lookAhead 16 = .ok (.invokevirtual 219, 3) := by decide +kernel
theorem dX6_lookAhead_19 : decode cX6_lookAhead 19 = .ok (.pop, 1) := by decide +kernel
theorem dX6_lookAhead_20 : decode cX6_lookAhead 20 = .ok (.return_, 1) := by decide +kernel
theorem dX6_isCell_0 : decode cX6_isCell 0 = .ok (.iload_n 0, 1) := by decide +kernel
theorem dX6_isCell_1 : decode cX6_isCell 1 = .ok (.ifCond .lt 13, 3) := by decide +kernel
theorem dX6_isCell_4 : decode cX6_isCell 4 = .ok (.iload_n 0, 1) := by decide +kernel
theorem dX6_isCell_5 : decode cX6_isCell 5 = .ok (.bipush 96, 2) := by decide +kernel
theorem dX6_isCell_7 : decode cX6_isCell 7 = .ok (.if_icmp .ge 7, 3) := by decide +kernel
theorem dX6_isCell_10 : decode cX6_isCell 10 = .ok (.iconst 1, 1) := by decide +kernel
theorem dX6_isCell_11 : decode cX6_isCell 11 = .ok (.goto 4, 3) := by decide +kernel
theorem dX6_isCell_14 : decode cX6_isCell 14 = .ok (.iconst 0, 1) := by decide +kernel
theorem dX6_isCell_15 : decode cX6_isCell 15 = .ok (.ireturn, 1) := by decide +kernel
theorem dX6_isChannel_0 : decode cX6_isChannel 0 = .ok (.iload_n 0, 1) := by decide +kernel
theorem dX6_isChannel_1 : decode cX6_isChannel 1 = .ok (.ifCond .lt 12, 3) := by decide +kernel
theorem dX6_isChannel_4 : decode cX6_isChannel 4 = .ok (.iload_n 0, 1) := by decide +kernel
theorem dX6_isChannel_5 : decode cX6_isChannel 5 = .ok (.iconst 3, 1) := by decide +kernel
theorem dX6_isChannel_6 : decode cX6_isChannel 6 = .ok (.if_icmp .ge 7, 3) := by decide +kernel
theorem dX6_isChannel_9 : decode cX6_isChannel 9 = .ok (.iconst 1, 1) := by decide +kernel
theorem dX6_isChannel_10 : decode cX6_isChannel 10 = .ok (.goto 4, 3) := by decide +kernel
theorem dX6_isChannel_13 : decode cX6_isChannel 13 = .ok (.iconst 0, 1) := by decide +kernel
theorem dX6_isChannel_14 : decode cX6_isChannel 14 = .ok (.ireturn, 1) := by decide +kernel
theorem dX6_isValue_0 : decode cX6_isValue 0 = .ok (.iload_n 0, 1) := by decide +kernel
theorem dX6_isValue_1 : decode cX6_isValue 1 = .ok (.ifCond .lt 13, 3) := by decide +kernel
theorem dX6_isValue_4 : decode cX6_isValue 4 = .ok (.iload_n 0, 1) := by decide +kernel
theorem dX6_isValue_5 : decode cX6_isValue 5 = .ok (.bipush 100, 2) := by decide +kernel
theorem dX6_isValue_7 : decode cX6_isValue 7 = .ok (.if_icmp .ge 7, 3) := by decide +kernel
theorem dX6_isValue_10 : decode cX6_isValue 10 = .ok (.iconst 1, 1) := by decide +kernel
theorem dX6_isValue_11 : decode cX6_isValue 11 = .ok (.goto 4, 3) := by decide +kernel
theorem dX6_isValue_14 : decode cX6_isValue 14 = .ok (.iconst 0, 1) := by decide +kernel
theorem dX6_isValue_15 : decode cX6_isValue 15 = .ok (.ireturn, 1) := by decide +kernel
theorem dX6_isHorizon_0 : decode cX6_isHorizon 0 = .ok (.iload_n 0, 1) := by decide +kernel
theorem dX6_isHorizon_1 : decode cX6_isHorizon 1 = .ok (.ifCond .lt 14, 3) := by decide +kernel
theorem dX6_isHorizon_4 : decode cX6_isHorizon 4 = .ok (.iload_n 0, 1) := by decide +kernel
theorem dX6_isHorizon_5 : decode cX6_isHorizon 5 = .ok (.sipush 500, 3) := by decide +kernel
theorem dX6_isHorizon_8 : decode cX6_isHorizon 8 = .ok (.if_icmp .gt 7, 3) := by decide +kernel
theorem dX6_isHorizon_11 : decode cX6_isHorizon 11 = .ok (.iconst 1, 1) := by decide +kernel
theorem dX6_isHorizon_12 : decode cX6_isHorizon 12 = .ok (.goto 4, 3) := by decide +kernel
theorem dX6_isHorizon_15 : decode cX6_isHorizon 15 = .ok (.iconst 0, 1) := by decide +kernel
theorem dX6_isHorizon_16 : decode cX6_isHorizon 16 = .ok (.ireturn, 1) := by decide +kernel
theorem dX6_withoutLastGroups_0 : decode cX6_withoutLastGroups 0 = .ok (.lload_n 0, 1) := by decide +kernel
theorem dX6_withoutLastGroups_1 : decode cX6_withoutLastGroups 1 = .ok (.lstore_n 3, 1) := by decide +kernel
theorem dX6_withoutLastGroups_2 : decode cX6_withoutLastGroups 2 = .ok (.iconst 0, 1) := by decide +kernel
theorem dX6_withoutLastGroups_3 : decode cX6_withoutLastGroups 3 = .ok (.istore 5, 2) := by decide +kernel
theorem dX6_withoutLastGroups_5 : decode cX6_withoutLastGroups 5 = .ok (.iload 5, 2) := by decide +kernel
theorem dX6_withoutLastGroups_7 : decode cX6_withoutLastGroups 7 = .ok (.iload_n 2, 1) := by decide +kernel
theorem dX6_withoutLastGroups_8 : decode cX6_withoutLastGroups 8 = .ok (.if_icmp .ge 15, 3) := by decide +kernel
theorem dX6_withoutLastGroups_11 : decode cX6_withoutLastGroups 11 = .ok (.lload_n 3, 1) := by decide +kernel
theorem dX6_withoutLastGroups_12 : decode cX6_withoutLastGroups 12 = .ok (.ldc2_w 253, 3) := by decide +kernel
theorem dX6_withoutLastGroups_15 : decode cX6_withoutLastGroups 15 = .ok (.ldiv, 1) := by decide +kernel
theorem dX6_withoutLastGroups_16 : decode cX6_withoutLastGroups 16 = .ok (.lstore_n 3, 1) := by decide +kernel
theorem dX6_withoutLastGroups_17 : decode cX6_withoutLastGroups 17 = .ok (.iinc 5 1, 3) := by decide +kernel
theorem dX6_withoutLastGroups_20 : decode cX6_withoutLastGroups 20 = .ok (.goto (-15), 3) := by decide +kernel
theorem dX6_withoutLastGroups_23 : decode cX6_withoutLastGroups 23 = .ok (.lload_n 3, 1) := by decide +kernel
theorem dX6_withoutLastGroups_24 : decode cX6_withoutLastGroups 24 = .ok (.lreturn, 1) := by decide +kernel
