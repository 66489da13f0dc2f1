theorem dX0_init_0 : decode cX0_init 0 = .ok (.aload_n 0, 1) := by decide +kernel
theorem dX0_init_1 : decode cX0_init 1 = .ok (.invokespecial 3, 3) := by decide +kernel
theorem dX0_init_4 : decode cX0_init 4 = .ok (.aload_n 0, 1) := by decide +kernel
theorem dX0_init_5 : decode cX0_init 5 = .ok (.bipush 96, 2) := by decide +kernel
theorem dX0_init_7 : decode cX0_init 7 = .ok (.newarray .int, 2) := by decide +kernel
theorem dX0_init_9 : decode cX0_init 9 = .ok (.putfield 9, 3) := by decide +kernel
theorem dX0_init_12 : decode cX0_init 12 = .ok (.aload_n 0, 1) := by decide +kernel
theorem dX0_init_13 : decode cX0_init 13 = .ok (.iconst 0, 1) := by decide +kernel
theorem dX0_init_14 : decode cX0_init 14 = .ok (.putfield 15, 3) := by decide +kernel
theorem dX0_init_17 : decode cX0_init 17 = .ok (.aload_n 0, 1) := by decide +kernel
theorem dX0_init_18 : decode cX0_init 18 = .ok (.iconst 0, 1) := by decide +kernel
theorem dX0_init_19 : decode cX0_init 19 = .ok (.putfield 19, 3) := by decide +kernel
theorem dX0_init_22 : decode cX0_init 22 = .ok (.return_, 1) := by decide +kernel
set_option maxRecDepth 20000 in
theorem ggX0_follow_J7_fill_53178 : GoodIn wsX0_follow wsJ7_fill_53178 := goodIn_r _ [7] (by decide +kernel) (by decide +kernel)
set_option maxRecDepth 20000 in
theorem gX0_follow_J7_fill_53178 : GoodIn wsX0_follow (va_wsS RX0 22 yJ7_fill_53178 wsJ7_fill_53178) := goodIn_app (goodIn_of _ (by decide +kernel)) ggX0_follow_J7_fill_53178
theorem dX0_follow_0 : decode cX0_follow 0 = .ok (.aload_n 0, 1) := by decide +kernel
theorem dX0_follow_1 : decode cX0_follow 1 = .ok (.getfield 9, 3) := by decide +kernel
theorem dX0_follow_4 : decode cX0_follow 4 = .ok (.iconst 0, 1) := by decide +kernel
theorem dX0_follow_5 : decode cX0_follow 5 = .ok (.invokestatic 22, 3) := by decide +kernel
theorem dX0_follow_8 : decode cX0_follow 8 = .ok (.aload_n 0, 1) := by decide +kernel
theorem dX0_follow_9 : decode cX0_follow 9 = .ok (.iconst 0, 1) := by decide +kernel
theorem dX0_follow_10 : decode cX0_follow 10 = .ok (.putfield 15, 3) := by decide +kernel
theorem dX0_follow_13 : decode cX0_follow 13 = .ok (.iload_n 2, 1) := by decide +kernel
theorem dX0_follow_14 : decode cX0_follow 14 = .ok (.istore_n 3, 1) := by decide +kernel
theorem dX0_follow_15 : decode cX0_follow 15 = .ok (.iconst 0, 1) := by decide +kernel
theorem dX0_follow_16 : decode cX0_follow 16 = .ok (.istore 4, 2) := by decide +kernel
theorem dX0_follow_18 : decode cX0_follow 18 = .ok (.iload 4, 2) := by decide +kernel
theorem dX0_follow_20 : decode cX0_follow 20 = .ok (.bipush 96, 2) := by decide +kernel
theorem dX0_follow_22 : decode cX0_follow 22 = .ok (.if_icmp .gt 90, 3) := by decide +kernel
theorem dX0_follow_25 : decode cX0_follow 25 = .ok (.iload_n 3, 1) := by decide +kernel
theorem dX0_follow_26 : decode cX0_follow 26 = .ok (.bipush 90, 2) := by decide +kernel
theorem dX0_follow_28 : decode cX0_follow 28 = .ok (.if_icmp .le 9, 3) := by decide +kernel
theorem dX0_follow_31 : decode cX0_follow 31 = .ok (.aload_n 0, 1) := by decide +kernel
theorem dX0_follow_32 : decode cX0_follow 32 = .ok (.iconst 2, 1) := by decide +kernel
theorem dX0_follow_33 : decode cX0_follow 33 = .ok (.putfield 19, 3) := by decide +kernel
theorem dX0_follow_36 : decode cX0_follow 36 = .ok (.return_, 1) := by decide +kernel
theorem dX0_follow_37 : decode cX0_follow 37 = .ok (.aload_n 0, 1) := by decide +kernel
theorem dX0_follow_38 : decode cX0_follow 38 = .ok (.getfield 9, 3) := by decide +kernel
theorem dX0_follow_41 : decode cX0_follow 41 = .ok (.iload_n 3, 1) := by decide +kernel
theorem dX0_follow_42 : decode cX0_follow 42 = .ok (.iaload, 1) := by decide +kernel
theorem dX0_follow_43 : decode cX0_follow 43 = .ok (.iconst 1, 1) := by decide +kernel
theorem dX0_follow_44 : decode cX0_follow 44 = .ok (.if_icmp .ne 9, 3) := by decide +kernel
theorem dX0_follow_47 : decode cX0_follow 47 = .ok (.aload_n 0, 1) := by decide +kernel
theorem dX0_follow_48 : decode cX0_follow 48 = .ok (.iconst 3, 1) := by decide +kernel
theorem dX0_follow_49 : decode cX0_follow 49 = .ok (.putfield 19, 3) := by decide +kernel
theorem dX0_follow_52 : decode cX0_follow 52 = .ok (.return_, 1) := by decide +kernel
theorem dX0_follow_53 : decode cX0_follow 53 = .ok (.aload_n 0, 1) := by decide +kernel
theorem dX0_follow_54 : decode cX0_follow 54 = .ok (.getfield 9, 3) := by decide +kernel
theorem dX0_follow_57 : decode cX0_follow 57 = .ok (.iload_n 3, 1) := by decide +kernel
theorem dX0_follow_58 : decode cX0_follow 58 = .ok (.iconst 1, 1) := by decide +kernel
theorem dX0_follow_59 : decode cX0_follow 59 = .ok (.iastore, 1) := by decide +kernel
theorem dX0_follow_60 : decode cX0_follow 60 = .ok (.aload_n 0, 1) := by decide +kernel
theorem dX0_follow_61 : decode cX0_follow 61 = .ok (.dup, 1) := by decide +kernel
theorem dX0_follow_62 : decode cX0_follow 62 = .ok (.getfield 15, 3) := by decide +kernel
theorem dX0_follow_65 : decode cX0_follow 65 = .ok (.iconst 1, 1) := by decide +kernel
theorem dX0_follow_66 : decode cX0_follow 66 = .ok (.iadd, 1) := by decide +kernel
theorem dX0_follow_67 : decode cX0_follow 67 = .ok (.putfield 15, 3) := by decide +kernel
theorem dX0_follow_70 : decode cX0_follow 70 = .ok (.aload_n 1, 1) := by decide +kernel
theorem dX0_follow_71 : decode cX0_follow 71 = .ok (.iload_n 3, 1) := by decide +kernel
theorem dX0_follow_72 : decode cX0_follow 72 = .ok (.iaload, 1) := by decide +kernel
theorem dX0_follow_73 : decode cX0_follow 73 = .ok (.ifCond .eq 11, 3) := by decide +kernel
theorem dX0_follow_76 : decode cX0_follow 76 = .ok (.aload_n 1, 1) := by decide +kernel
theorem dX0_follow_77 : decode cX0_follow 77 = .ok (.iload_n 3, 1) := by decide +kernel
theorem dX0_follow_78 : decode cX0_follow 78 = .ok (.iaload, 1) := by decide +kernel
theorem dX0_follow_79 : decode cX0_follow 79 = .ok (.bipush 6, 2) := by decide +kernel
theorem dX0_follow_81 : decode cX0_follow 81 = .ok (.if_icmp .le 19, 3) := by decide +kernel
theorem dX0_follow_84 : decode cX0_follow 84 = .ok (.aload_n 0, 1) := by decide +kernel
theorem dX0_follow_85 : decode cX0_follow 85 = .ok (.aload_n 1, 1) := by decide +kernel
theorem dX0_follow_86 : decode cX0_follow 86 = .ok (.iload_n 3, 1) := by decide +kernel
theorem dX0_follow_87 : decode cX0_follow 87 = .ok (.iaload, 1) := by decide +kernel
theorem dX0_follow_88 : decode cX0_follow 88 = .ok (.ifCond .ne 7, 3) := by decide +kernel
theorem dX0_follow_91 : decode cX0_follow 91 = .ok (.iconst 0, 1) := by decide +kernel
theorem dX0_follow_92 : decode cX0_follow 92 = .ok (.goto 4, 3) := by decide +kernel
theorem dX0_follow_95 : decode cX0_follow 95 = .ok (.iconst 1, 1) := by decide +kernel
theorem dX0_follow_96 : decode cX0_follow 96 = .ok (.putfield 19, 3) := by decide +kernel
theorem dX0_follow_99 : decode cX0_follow 99 = .ok (.return_, 1) := by decide +kernel
theorem dX0_follow_100 : decode cX0_follow 100 = .ok (.aload_n 1, 1) := by decide +kernel
theorem dX0_follow_101 : decode cX0_follow 101 = .ok (.iload_n 3, 1) := by decide +kernel
theorem dX0_follow_102 : decode cX0_follow 102 = .ok (.iconst 5, 1) := by decide +kernel
theorem dX0_follow_103 : decode cX0_follow 103 = .ok (.iadd, 1) := by decide +kernel
theorem dX0_follow_104 : decode cX0_follow 104 = .ok (.iaload, 1) := by decide +kernel
theorem dX0_follow_105 : decode cX0_follow 105 = .ok (.istore_n 3, 1) := by decide +kernel
theorem dX0_follow_106 : decode cX0_follow 106 = .ok (.iinc 4 1, 3) := by decide +kernel
theorem dX0_follow_109 : decode cX0_follow 109 = .ok (.goto (-91), 3) := by decide +kernel
theorem dX0_follow_112 : decode cX0_follow 112 = .ok (.return_, 1) := by decide +kernel
theorem dX1_init_0 : decode cX1_init 0 = .ok (.aload_n 0, 1) := by decide +kernel
theorem dX1_init_1 : decode cX1_init 1 = .ok (.invokespecial 3, 3) := by decide +kernel
theorem dX1_init_4 : decode cX1_init 4 = .ok (.aload_n 0, 1) := by decide +kernel
theorem dX1_init_5 : decode cX1_init 5 = .ok (.iconst 0, 1) := by decide +kernel
theorem dX1_init_6 : decode cX1_init 6 = .ok (.putfield 9, 3) := by decide +kernel
theorem dX1_init_9 : decode cX1_init 9 = .ok (.aload_n 0, 1) := by decide +kernel
theorem dX1_init_10 : decode cX1_init 10 = .ok (.iconst 0, 1) := by decide +kernel
theorem dX1_init_11 : decode cX1_init 11 = .ok (.putfield 15, 3) := by decide +kernel
theorem dX1_init_14 : decode cX1_init 14 = .ok (.aload_n 0, 1) := by decide +kernel
theorem dX1_init_15 : decode cX1_init 15 = .ok (.bipush (-9), 2) := by decide +kernel
theorem dX1_init_17 : decode cX1_init 17 = .ok (.putfield 18, 3) := by decide +kernel
theorem dX1_init_20 : decode cX1_init 20 = .ok (.aload_n 0, 1) := by decide +kernel
theorem dX1_init_21 : decode cX1_init 21 = .ok (.iconst 0, 1) := by decide +kernel
theorem dX1_init_22 : decode cX1_init 22 = .ok (.putfield 21, 3) := by decide +kernel
theorem dX1_init_25 : decode cX1_init 25 = .ok (.aload_n 0, 1) := by decide +kernel
theorem dX1_init_26 : decode cX1_init 26 = .ok (.iconst 0, 1) := by decide +kernel
theorem dX1_init_27 : decode cX1_init 27 = .ok (.putfield 24, 3) := by decide +kernel
theorem dX1_init_30 : decode cX1_init 30 = .ok (.aload_n 0, 1) := by decide +kernel
theorem dX1_init_31 : decode cX1_init 31 = .ok (.bipush (-9), 2) := by decide +kernel
theorem dX1_init_33 : decode cX1_init 33 = .ok (.putfield 27, 3) := by decide +kernel
theorem dX1_init_36 : decode cX1_init 36 = .ok (.aload_n 0, 1) := by decide +kernel
theorem dX1_init_37 : decode cX1_init 37 = .ok (.iconst 0, 1) := by decide +kernel
theorem dX1_init_38 : decode cX1_init 38 = .ok (.putfield 30, 3) := by decide +kernel
theorem dX1_init_41 : decode cX1_init 41 = .ok (.aload_n 0, 1) := by decide +kernel
theorem dX1_init_42 : decode cX1_init 42 = .ok (.iconst 0, 1) := by decide +kernel
theorem dX1_init_43 : decode cX1_init 43 = .ok (.putfield 33, 3) := by decide +kernel
theorem dX1_init_46 : decode cX1_init 46 = .ok (.aload_n 0, 1) := by decide +kernel
theorem dX1_init_47 : decode cX1_init 47 = .ok (.iconst 0, 1) := by decide +kernel
theorem dX1_init_48 : decode cX1_init 48 = .ok (.putfield 36, 3) := by decide +kernel
theorem dX1_init_51 : decode cX1_init 51 = .ok (.aload_n 0, 1) := by decide +kernel
theorem dX1_init_52 : decode cX1_init 52 = .ok (.iconst 0, 1) := by decide +kernel
theorem dX1_init_53 : decode cX1_init 53 = .ok (.putfield 39, 3) := by decide +kernel
theorem dX1_init_56 : decode cX1_init 56 = .ok (.aload_n 0, 1) := by decide +kernel
theorem dX1_init_57 : decode cX1_init 57 = .ok (.iconst 0, 1) := by decide +kernel
theorem dX1_init_58 : decode cX1_init 58 = .ok (.putfield 42, 3) := by decide +kernel
theorem dX1_init_61 : decode cX1_init 61 = .ok (.aload_n 0, 1) := by decide +kernel
theorem dX1_init_62 : decode cX1_init 62 = .ok (.iconst 0, 1) := by decide +kernel
theorem dX1_init_63 : decode cX1_init 63 = .ok (.putfield 45, 3) := by decide +kernel
theorem dX1_init_66 : decode cX1_init 66 = .ok (.aload_n 0, 1) := by decide +kernel
theorem dX1_init_67 : decode cX1_init 67 = .ok (.iconst 0, 1) := by decide +kernel
theorem dX1_init_68 : decode cX1_init 68 = .ok (.putfield 48, 3) := by decide +kernel
theorem dX1_init_71 : decode cX1_init 71 = .ok (.return_, 1) := by decide +kernel
set_option maxRecDepth 20000 in
theorem ggX1_reset_X1_become : GoodIn wsX1_reset wsX1_become := goodIn_r _ [8, 9, 10, 11, 12, 13, 14, 15, 16, 17, 18, 19, 20, 21, 22, 23, 24, 25] (by decide +kernel) (by decide +kernel)
set_option maxRecDepth 20000 in
theorem gX1_reset_X1_become : GoodIn wsX1_reset (wsV RX1 51 RX1 yX1_become wsX1_become) := goodIn_app (goodIn_of _ (by decide +kernel)) ggX1_reset_X1_become
theorem dX1_reset_0 : decode cX1_reset 0 = .ok (.aload_n 0, 1) := by decide +kernel
theorem dX1_reset_1 : decode cX1_reset 1 = .ok (.iconst 0, 1) := by decide +kernel
theorem dX1_reset_2 : decode cX1_reset 2 = .ok (.invokevirtual 51, 3) := by decide +kernel
theorem dX1_reset_5 : decode cX1_reset 5 = .ok (.aload_n 0, 1) := by decide +kernel
theorem dX1_reset_6 : decode cX1_reset 6 = .ok (.iconst 0, 1) := by decide +kernel
theorem dX1_reset_7 : decode cX1_reset 7 = .ok (.putfield 15, 3) := by decide +kernel
theorem dX1_reset_10 : decode cX1_reset 10 = .ok (.aload_n 0, 1) := by decide +kernel
theorem dX1_reset_11 : decode cX1_reset 11 = .ok (.iconst 0, 1) := by decide +kernel
theorem dX1_reset_12 : decode cX1_reset 12 = .ok (.putfield 21, 3) := by decide +kernel
theorem dX1_reset_15 : decode cX1_reset 15 = .ok (.aload_n 0, 1) := by decide +kernel
theorem dX1_reset_16 : decode cX1_reset 16 = .ok (.iconst 0, 1) := by decide +kernel
theorem dX1_reset_17 : decode cX1_reset 17 = .ok (.putfield 24, 3) := by decide +kernel
theorem dX1_reset_20 : decode cX1_reset 20 = .ok (.return_, 1) := by decide +kernel
theorem dX1_copyFrom_0 : decode cX1_copyFrom 0 = .ok (.aload_n 0, 1) := by decide +kernel
theorem dX1_copyFrom_1 : decode cX1_copyFrom 1 = .ok (.aload_n 1, 1) := by decide +kernel
theorem dX1_copyFrom_2 : decode cX1_copyFrom 2 = .ok (.getfield 9, 3) := by decide +kernel
theorem dX1_copyFrom_5 : decode cX1_copyFrom 5 = .ok (.putfield 9, 3) := by decide +kernel
theorem dX1_copyFrom_8 : decode cX1_copyFrom 8 = .ok (.aload_n 0, 1) := by decide +kernel
theorem dX1_copyFrom_9 : decode cX1_copyFrom 9 = .ok (.aload_n 1, 1) := by decide +kernel
theorem dX1_copyFrom_10 : decode cX1_copyFrom 10 = .ok (.getfield 15, 3) := by decide +kernel
theorem dX1_copyFrom_13 : decode cX1_copyFrom 13 = .ok (.putfield 15, 3) := by decide +kernel
theorem dX1_copyFrom_16 : decode cX1_copyFrom 16 = .ok (.aload_n 0, 1) := by decide +kernel
theorem dX1_copyFrom_17 : decode cX1_copyFrom 17 = .ok (.aload_n 1, 1) := by decide +kernel
theorem dX1_copyFrom_18 : decode cX1_copyFrom 18 = .ok (.getfield 18, 3) := by decide +kernel
theorem dX1_copyFrom_21 : decode cX1_copyFrom 21 = .ok (.putfield 18, 3) := by decide +kernel
theorem dX1_copyFrom_24 : decode cX1_copyFrom 24 = .ok (.aload_n 0, 1) := by decide +kernel
theorem dX1_copyFrom_25 : decode cX1_copyFrom 25 = .ok (.aload_n 1, 1) := by decide +kernel
theorem dX1_copyFrom_26 : decode cX1_copyFrom 26 = .ok (.getfield 21, 3) := by decide +kernel
theorem dX1_copyFrom_29 : decode cX1_copyFrom 29 = .ok (.putfield 21, 3) := by decide +kernel
theorem dX1_copyFrom_32 : decode cX1_copyFrom 32 = .ok (.aload_n 0, 1) := by decide +kernel
theorem dX1_copyFrom_33 : decode cX1_copyFrom 33 = .ok (.aload_n 1, 1) := by decide +kernel
theorem dX1_copyFrom_34 : decode cX1_copyFrom 34 = .ok (.getfield 24, 3) := by decide +kernel
theorem dX1_copyFrom_37 : decode cX1_copyFrom 37 = .ok (.putfield 24, 3) := by decide +kernel
theorem dX1_copyFrom_40 : decode cX1_copyFrom 40 = .ok (.aload_n 0, 1) := by decide +kernel
theorem dX1_copyFrom_41 : decode cX1_copyFrom 41 = .ok (.aload_n 1, 1) := by decide +kernel
theorem dX1_copyFrom_42 : decode cX1_copyFrom 42 = .ok (.getfield 27, 3) := by decide +kernel
theorem dX1_copyFrom_45 : decode cX1_copyFrom 45 = .ok (.putfield 27, 3) := by decide +kernel
theorem dX1_copyFrom_48 : decode cX1_copyFrom 48 = .ok (.aload_n 0, 1) := by decide +kernel
theorem dX1_copyFrom_49 : decode cX1_copyFrom 49 = .ok (.aload_n 1, 1) := by decide +kernel
theorem dX1_copyFrom_50 : decode cX1_copyFrom 50 = .ok (.getfield 30, 3) := by decide +kernel
theorem dX1_copyFrom_53 : decode cX1_copyFrom 53 = .ok (.putfield 30, 3) := by decide +kernel
theorem dX1_copyFrom_56 : decode cX1_copyFrom 56 = .ok (.aload_n 0, 1) := by decide +kernel
theorem dX1_copyFrom_57 : decode cX1_copyFrom 57 = .ok (.aload_n 1, 1) := by decide +kernel
theorem dX1_copyFrom_58 : decode cX1_copyFrom 58 = .ok (.getfield 33, 3) := by decide +kernel
theorem dX1_copyFrom_61 : decode cX1_copyFrom 61 = .ok (.putfield 33, 3) := by decide +kernel
theorem dX1_copyFrom_64 : decode cX1_copyFrom 64 = .ok (.aload_n 0, 1) := by decide +kernel
theorem dX1_copyFrom_65 : decode cX1_copyFrom 65 = .ok (.aload_n 1, 1) := by decide +kernel
theorem dX1_copyFrom_66 : decode cX1_copyFrom 66 = .ok (.getfield 36, 3) := by decide +kernel
theorem dX1_copyFrom_69 : decode cX1_copyFrom 69 = .ok (.putfield 36, 3) := by decide +kernel
theorem dX1_copyFrom_72 : decode cX1_copyFrom 72 = .ok (.aload_n 0, 1) := by decide +kernel
theorem dX1_copyFrom_73 : decode cX1_copyFrom 73 = .ok (.aload_n 1, 1) := by decide +kernel
theorem dX1_copyFrom_74 : decode cX1_copyFrom 74 = .ok (.getfield 39, 3) := by decide +kernel
theorem dX1_copyFrom_77 : decode cX1_copyFrom 77 = .ok (.putfield 39, 3) := by decide +kernel
theorem dX1_copyFrom_80 : decode cX1_copyFrom 80 = .ok (.aload_n 0, 1) := by decide +kernel
theorem dX1_copyFrom_81 : decode cX1_copyFrom 81 = .ok (.aload_n 1, 1) := by decide +kernel
theorem dX1_copyFrom_82 : decode cX1_copyFrom 82 = .ok (.getfield 42, 3) := by decide +kernel
theorem dX1_copyFrom_85 : decode cX1_copyFrom 85 = .ok (.putfield 42, 3) := by decide +kernel
theorem dX1_copyFrom_88 : decode cX1_copyFrom 88 = .ok (.aload_n 0, 1) := by decide +kernel
theorem dX1_copyFrom_89 : decode cX1_copyFrom 89 = .ok (.aload_n 1, 1) := by decide +kernel
theorem dX1_copyFrom_90 : decode cX1_copyFrom 90 = .ok (.getfield 45, 3) := by decide +kernel
theorem dX1_copyFrom_93 : decode cX1_copyFrom 93 = .ok (.putfield 45, 3) := by decide +kernel
theorem dX1_copyFrom_96 : decode cX1_copyFrom 96 = .ok (.aload_n 0, 1) := by decide +kernel
theorem dX1_copyFrom_97 : decode cX1_copyFrom 97 = .ok (.aload_n 1, 1) := by decide +kernel
theorem dX1_copyFrom_98 : decode cX1_copyFrom 98 = .ok (.getfield 48, 3) := by decide +kernel
theorem dX1_copyFrom_101 : decode cX1_copyFrom 101 = .ok (.putfield 48, 3) := by decide +kernel
theorem dX1_copyFrom_104 : decode cX1_copyFrom 104 = .ok (.return_, 1) := by decide +kernel
theorem dX1_hasOrder_0 : decode cX1_hasOrder 0 = .ok (.aload_n 0, 1) := by decide +kernel
theorem dX1_hasOrder_1 : decode cX1_hasOrder 1 = .ok (.getfield 27, 3) := by decide +kernel
theorem dX1_hasOrder_4 : decode cX1_hasOrder 4 = .ok (.bipush (-9), 2) := by decide +kernel
theorem dX1_hasOrder_6 : decode cX1_hasOrder 6 = .ok (.if_icmp .eq 7, 3) := by decide +kernel
theorem dX1_hasOrder_9 : decode cX1_hasOrder 9 = .ok (.iconst 1, 1) := by decide +kernel
theorem dX1_hasOrder_10 : decode cX1_hasOrder 10 = .ok (.goto 4, 3) := by decide +kernel
theorem dX1_hasOrder_13 : decode cX1_hasOrder 13 = .ok (.iconst 0, 1) := by decide +kernel
theorem dX1_hasOrder_14 : decode cX1_hasOrder 14 = .ok (.ireturn, 1) := by decide +kernel
set_option maxRecDepth 20000 in
theorem ggX1_beginAt_X1_become : GoodIn wsX1_beginAt wsX1_become := goodIn_r _ [6, 7, 8, 9, 10, 11, 12, 13, 14, 15, 16, 17, 18, 19, 20, 21, 22, 23] (by decide +kernel) (by decide +kernel)
set_option maxRecDepth 20000 in
theorem gX1_beginAt_X1_become : GoodIn wsX1_beginAt (wsV RX1 51 RX1 yX1_become wsX1_become) := goodIn_app (goodIn_of _ (by decide +kernel)) ggX1_beginAt_X1_become
theorem dX1_beginAt_0 : decode cX1_beginAt 0 = .ok (.aload_n 0, 1) := by decide +kernel
theorem dX1_beginAt_1 : decode cX1_beginAt 1 = .ok (.iconst 1, 1) := by decide +kernel
theorem dX1_beginAt_2 : decode cX1_beginAt 2 = .ok (.invokevirtual 51, 3) := by decide +kernel
theorem dX1_beginAt_5 : decode cX1_beginAt 5 = .ok (.aload_n 0, 1) := by decide +kernel
theorem dX1_beginAt_6 : decode cX1_beginAt 6 = .ok (.iload_n 1, 1) := by decide +kernel
theorem dX1_beginAt_7 : decode cX1_beginAt 7 = .ok (.putfield 15, 3) := by decide +kernel
theorem dX1_beginAt_10 : decode cX1_beginAt 10 = .ok (.return_, 1) := by decide +kernel
theorem dX1_become_0 : decode cX1_become 0 = .ok (.aload_n 0, 1) := by decide +kernel
theorem dX1_become_1 : decode cX1_become 1 = .ok (.iload_n 1, 1) := by decide +kernel
theorem dX1_become_2 : decode cX1_become 2 = .ok (.putfield 9, 3) := by decide +kernel
theorem dX1_become_5 : decode cX1_become 5 = .ok (.aload_n 0, 1) := by decide +kernel
theorem dX1_become_6 : decode cX1_become 6 = .ok (.bipush (-9), 2) := by decide +kernel
theorem dX1_become_8 : decode cX1_become 8 = .ok (.putfield 18, 3) := by decide +kernel
theorem dX1_become_11 : decode cX1_become 11 = .ok (.aload_n 0, 1) := by decide +kernel
theorem dX1_become_12 : decode cX1_become 12 = .ok (.bipush (-9), 2) := by decide +kernel
theorem dX1_become_14 : decode cX1_become 14 = .ok (.putfield 27, 3) := by decide +kernel
theorem dX1_become_17 : decode cX1_become 17 = .ok (.aload_n 0, 1) := by decide +kernel
theorem dX1_become_18 : decode cX1_become 18 = .ok (.iconst 0, 1) := by decide +kernel
theorem dX1_become_19 : decode cX1_become 19 = .ok (.putfield 30, 3) := by decide +kernel
theorem dX1_become_22 : decode cX1_become 22 = .ok (.return_, 1) := by decide +kernel
set_option maxRecDepth 20000 in
theorem ggX1_fail_X1_become : GoodIn wsX1_fail wsX1_become := goodIn_r _ [6, 7, 1, 8, 9, 10, 11, 12, 13, 14, 15, 16, 17, 18, 19, 20, 21, 22] (by decide +kernel) (by decide +kernel)
set_option maxRecDepth 20000 in
theorem gX1_fail_X1_become : GoodIn wsX1_fail (wsV RX1 51 RX1 yX1_become wsX1_become) := goodIn_app (goodIn_of _ (by decide +kernel)) ggX1_fail_X1_become
theorem dX1_fail_0 : decode cX1_fail 0 = .ok (.aload_n 0, 1) := by decide +kernel
theorem dX1_fail_1 : decode cX1_fail 1 = .ok (.iconst 3, 1) := by decide +kernel
theorem dX1_fail_2 : decode cX1_fail 2 = .ok (.invokevirtual 51, 3) := by decide +kernel
theorem dX1_fail_5 : decode cX1_fail 5 = .ok (.aload_n 0, 1) := by decide +kernel
theorem dX1_fail_6 : decode cX1_fail 6 = .ok (.iload_n 1, 1) := by decide +kernel
theorem dX1_fail_7 : decode cX1_fail 7 = .ok (.putfield 18, 3) := by decide +kernel
theorem dX1_fail_10 : decode cX1_fail 10 = .ok (.return_, 1) := by decide +kernel
theorem dX1_goOnAt_0 : decode cX1_goOnAt 0 = .ok (.aload_n 0, 1) := by decide +kernel
theorem dX1_goOnAt_1 : decode cX1_goOnAt 1 = .ok (.bipush (-9), 2) := by decide +kernel
theorem dX1_goOnAt_3 : decode cX1_goOnAt 3 = .ok (.putfield 27, 3) := by decide +kernel
theorem dX1_goOnAt_6 : decode cX1_goOnAt 6 = .ok (.aload_n 0, 1) := by decide +kernel
theorem dX1_goOnAt_7 : decode cX1_goOnAt 7 = .ok (.iconst 0, 1) := by decide +kernel
theorem dX1_goOnAt_8 : decode cX1_goOnAt 8 = .ok (.putfield 30, 3) := by decide +kernel
theorem dX1_goOnAt_11 : decode cX1_goOnAt 11 = .ok (.aload_n 0, 1) := by decide +kernel
theorem dX1_goOnAt_12 : decode cX1_goOnAt 12 = .ok (.iload_n 1, 1) := by decide +kernel
theorem dX1_goOnAt_13 : decode cX1_goOnAt 13 = .ok (.putfield 15, 3) := by decide +kernel
theorem dX1_goOnAt_16 : decode cX1_goOnAt 16 = .ok (.return_, 1) := by decide +kernel
set_option maxRecDepth 20000 in
theorem ggX1_unitsLeft_X1_hasOrder : GoodIn wsX1_unitsLeft wsX1_hasOrder := goodIn_r _ [8, 9, 10, 11, 12, 13, 14, 15, 16, 17, 18, 19, 20, 21, 22] (by decide +kernel) (by decide +kernel)
set_option maxRecDepth 20000 in
theorem gX1_unitsLeft_X1_hasOrder : GoodIn wsX1_unitsLeft (wsV RX1 55 RX1 yX1_hasOrder wsX1_hasOrder) := goodIn_app (goodIn_of _ (by decide +kernel)) ggX1_unitsLeft_X1_hasOrder
theorem dX1_unitsLeft_0 : decode cX1_unitsLeft 0 = .ok (.aload_n 0, 1) := by decide +kernel
theorem dX1_unitsLeft_1 : decode cX1_unitsLeft 1 = .ok (.invokevirtual 55, 3) := by decide +kernel
theorem dX1_unitsLeft_4 : decode cX1_unitsLeft 4 = .ok (.ifCond .eq 24, 3) := by decide +kernel
theorem dX1_unitsLeft_7 : decode cX1_unitsLeft 7 = .ok (.aload_n 0, 1) := by decide +kernel
theorem dX1_unitsLeft_8 : decode cX1_unitsLeft 8 = .ok (.getfield 33, 3) := by decide +kernel
theorem dX1_unitsLeft_11 : decode cX1_unitsLeft 11 = .ok (.bipush 6, 2) := by decide +kernel
theorem dX1_unitsLeft_13 : decode cX1_unitsLeft 13 = .ok (.if_icmp .eq 15, 3) := by decide +kernel
theorem dX1_unitsLeft_16 : decode cX1_unitsLeft 16 = .ok (.aload_n 0, 1) := by decide +kernel
theorem dX1_unitsLeft_17 : decode cX1_unitsLeft 17 = .ok (.getfield 42, 3) := by decide +kernel
theorem dX1_unitsLeft_20 : decode cX1_unitsLeft 20 = .ok (.aload_n 0, 1) := by decide +kernel
theorem dX1_unitsLeft_21 : decode cX1_unitsLeft 21 = .ok (.getfield 30, 3) := by decide +kernel
theorem dX1_unitsLeft_24 : decode cX1_unitsLeft 24 = .ok (.isub, 1) := by decide +kernel
theorem dX1_unitsLeft_25 : decode cX1_unitsLeft 25 = .ok (.goto 4, 3) := by decide +kernel
theorem dX1_unitsLeft_28 : decode cX1_unitsLeft 28 = .ok (.iconst 0, 1) := by decide +kernel
theorem dX1_unitsLeft_29 : decode cX1_unitsLeft 29 = .ok (.ireturn, 1) := by decide +kernel
theorem dX1_takeOrder_0 : decode cX1_takeOrder 0 = .ok (.aload_n 0, 1) := by decide +kernel
theorem dX1_takeOrder_1 : decode cX1_takeOrder 1 = .ok (.aload_n 0, 1) := by decide +kernel
theorem dX1_takeOrder_2 : decode cX1_takeOrder 2 = .ok (.getfield 15, 3) := by decide +kernel
theorem dX1_takeOrder_5 : decode cX1_takeOrder 5 = .ok (.putfield 27, 3) := by decide +kernel
theorem dX1_takeOrder_8 : decode cX1_takeOrder 8 = .ok (.aload_n 0, 1) := by decide +kernel
theorem dX1_takeOrder_9 : decode cX1_takeOrder 9 = .ok (.aload_n 1, 1) := by decide +kernel
theorem dX1_takeOrder_10 : decode cX1_takeOrder 10 = .ok (.aload_n 0, 1) := by decide +kernel
theorem dX1_takeOrder_11 : decode cX1_takeOrder 11 = .ok (.getfield 15, 3) := by decide +kernel
theorem dX1_takeOrder_14 : decode cX1_takeOrder 14 = .ok (.iaload, 1) := by decide +kernel
theorem dX1_takeOrder_15 : decode cX1_takeOrder 15 = .ok (.putfield 33, 3) := by decide +kernel
theorem dX1_takeOrder_18 : decode cX1_takeOrder 18 = .ok (.aload_n 0, 1) := by decide +kernel
theorem dX1_takeOrder_19 : decode cX1_takeOrder 19 = .ok (.aload_n 1, 1) := by decide +kernel
theorem dX1_takeOrder_20 : decode cX1_takeOrder 20 = .ok (.aload_n 0, 1) := by decide +kernel
theorem dX1_takeOrder_21 : decode cX1_takeOrder 21 = .ok (.getfield 15, 3) := by decide +kernel
theorem dX1_takeOrder_24 : decode cX1_takeOrder 24 = .ok (.iconst 1, 1) := by decide +kernel
theorem dX1_takeOrder_25 : decode cX1_takeOrder 25 = .ok (.iadd, 1) := by decide +kernel
theorem dX1_takeOrder_26 : decode cX1_takeOrder 26 = .ok (.iaload, 1) := by decide +kernel
theorem dX1_takeOrder_27 : decode cX1_takeOrder 27 = .ok (.putfield 36, 3) := by decide +kernel
theorem dX1_takeOrder_30 : decode cX1_takeOrder 30 = .ok (.aload_n 0, 1) := by decide +kernel
theorem dX1_takeOrder_31 : decode cX1_takeOrder 31 = .ok (.aload_n 1, 1) := by decide +kernel
theorem dX1_takeOrder_32 : decode cX1_takeOrder 32 = .ok (.aload_n 0, 1) := by decide +kernel
theorem dX1_takeOrder_33 : decode cX1_takeOrder 33 = .ok (.getfield 15, 3) := by decide +kernel
theorem dX1_takeOrder_36 : decode cX1_takeOrder 36 = .ok (.iconst 2, 1) := by decide +kernel
theorem dX1_takeOrder_37 : decode cX1_takeOrder 37 = .ok (.iadd, 1) := by decide +kernel
theorem dX1_takeOrder_38 : decode cX1_takeOrder 38 = .ok (.iaload, 1) := by decide +kernel
theorem dX1_takeOrder_39 : decode cX1_takeOrder 39 = .ok (.putfield 39, 3) := by decide +kernel
theorem dX1_takeOrder_42 : decode cX1_takeOrder 42 = .ok (.aload_n 0, 1) := by decide +kernel
theorem dX1_takeOrder_43 : decode cX1_takeOrder 43 = .ok (.aload_n 1, 1) := by decide +kernel
theorem dX1_takeOrder_44 : decode cX1_takeOrder 44 = .ok (.aload_n 0, 1) := by decide +kernel
theorem dX1_takeOrder_45 : decode cX1_takeOrder 45 = .ok (.getfield 15, 3) := by decide +kernel
theorem dX1_takeOrder_48 : decode cX1_takeOrder 48 = .ok (.iconst 3, 1) := by decide +kernel
theorem dX1_takeOrder_49 : decode cX1_takeOrder 49 = .ok (.iadd, 1) := by decide +kernel
theorem dX1_takeOrder_50 : decode cX1_takeOrder 50 = .ok (.iaload, 1) := by decide +kernel
theorem dX1_takeOrder_51 : decode cX1_takeOrder 51 = .ok (.putfield 42, 3) := by decide +kernel
theorem dX1_takeOrder_54 : decode cX1_takeOrder 54 = .ok (.aload_n 0, 1) := by decide +kernel
theorem dX1_takeOrder_55 : decode cX1_takeOrder 55 = .ok (.aload_n 1, 1) := by decide +kernel
theorem dX1_takeOrder_56 : decode cX1_takeOrder 56 = .ok (.aload_n 0, 1) := by decide +kernel
theorem dX1_takeOrder_57 : decode cX1_takeOrder 57 = .ok (.getfield 15, 3) := by decide +kernel
theorem dX1_takeOrder_60 : decode cX1_takeOrder 60 = .ok (.iconst 4, 1) := by decide +kernel
theorem dX1_takeOrder_61 : decode cX1_takeOrder 61 = .ok (.iadd, 1) := by decide +kernel
theorem dX1_takeOrder_62 : decode cX1_takeOrder 62 = .ok (.iaload, 1) := by decide +kernel
theorem dX1_takeOrder_63 : decode cX1_takeOrder 63 = .ok (.putfield 45, 3) := by decide +kernel
theorem dX1_takeOrder_66 : decode cX1_takeOrder 66 = .ok (.aload_n 0, 1) := by decide +kernel
theorem dX1_takeOrder_67 : decode cX1_takeOrder 67 = .ok (.aload_n 1, 1) := by decide +kernel
theorem dX1_takeOrder_68 : decode cX1_takeOrder 68 = .ok (.aload_n 0, 1) := by decide +kernel
theorem dX1_takeOrder_69 : decode cX1_takeOrder 69 = .ok (.getfield 15, 3) := by decide +kernel
theorem dX1_takeOrder_72 : decode cX1_takeOrder 72 = .ok (.iconst 5, 1) := by decide +kernel
theorem dX1_takeOrder_73 : decode cX1_takeOrder 73 = .ok (.iadd, 1) := by decide +kernel
theorem dX1_takeOrder_74 : decode cX1_takeOrder 74 = .ok (.iaload, 1) := by decide +kernel
theorem dX1_takeOrder_75 : decode cX1_takeOrder 75 = .ok (.putfield 48, 3) := by decide +kernel
theorem dX1_takeOrder_78 : decode cX1_takeOrder 78 = .ok (.aload_n 0, 1) := by decide +kernel
theorem dX1_takeOrder_79 : decode cX1_takeOrder 79 = .ok (.dup, 1) := by decide +kernel
theorem dX1_takeOrder_80 : decode cX1_takeOrder 80 = .ok (.getfield 21, 3) := by decide +kernel
theorem dX1_takeOrder_83 : decode cX1_takeOrder 83 = .ok (.iconst 1, 1) := by decide +kernel
theorem dX1_takeOrder_84 : decode cX1_takeOrder 84 = .ok (.iadd, 1) := by decide +kernel
theorem dX1_takeOrder_85 : decode cX1_takeOrder 85 = .ok (.putfield 21, 3) := by decide +kernel
theorem dX1_takeOrder_88 : decode cX1_takeOrder 88 = .ok (.return_, 1) := by decide +kernel
set_option maxRecDepth 20000 in
theorem ggX2_init_X1_init : GoodIn wsX2_init wsX1_init := goodIn_r _ [20, 21, 2, 3, 22, 23, 24, 25, 26, 27, 28, 29, 30, 31, 32, 33, 34, 50, 51, 52, 53, 54, 55, 56, 57, 58, 59, 60, 61, 62] (by decide +kernel) (by decide +kernel)
set_option maxRecDepth 20000 in
theorem gX2_init_X1_init_n49 : GoodIn wsX2_init (wsX1_init) := ggX2_init_X1_init
set_option maxRecDepth 20000 in
theorem ggX2_init_J7_fill_53178 : GoodIn wsX2_init wsJ7_fill_53178 := goodIn_r _ [38] (by decide +kernel) (by decide +kernel)
set_option maxRecDepth 20000 in
theorem gX2_init_J7_fill_53178 : GoodIn wsX2_init (va_wsS RX2 50 yJ7_fill_53178 wsJ7_fill_53178) := goodIn_app (goodIn_of _ (by decide +kernel)) ggX2_init_J7_fill_53178
theorem dX2_init_0 : decode cX2_init 0 = .ok (.aload_n 0, 1) := by decide +kernel
theorem dX2_init_1 : decode cX2_init 1 = .ok (.invokespecial 3, 3) := by decide +kernel
theorem dX2_init_4 : decode cX2_init 4 = .ok (.aload_n 0, 1) := by decide +kernel
theorem dX2_init_5 : decode cX2_init 5 = .ok (.bipush 96, 2) := by decide +kernel
theorem dX2_init_7 : decode cX2_init 7 = .ok (.newarray .int, 2) := by decide +kernel
theorem dX2_init_9 : decode cX2_init 9 = .ok (.putfield 9, 3) := by decide +kernel
theorem dX2_init_12 : decode cX2_init 12 = .ok (.aload_n 0, 1) := by decide +kernel
theorem dX2_init_13 : decode cX2_init 13 = .ok (.bipush 96, 2) := by decide +kernel
theorem dX2_init_15 : decode cX2_init 15 = .ok (.newarray .int, 2) := by decide +kernel
theorem dX2_init_17 : decode cX2_init 17 = .ok (.putfield 15, 3) := by decide +kernel
theorem dX2_init_20 : decode cX2_init 20 = .ok (.aload_n 0, 1) := by decide +kernel
theorem dX2_init_21 : decode cX2_init 21 = .ok (.bipush 96, 2) := by decide +kernel
theorem dX2_init_23 : decode cX2_init 23 = .ok (.newarray .int, 2) := by decide +kernel
theorem dX2_init_25 : decode cX2_init 25 = .ok (.putfield 18, 3) := by decide +kernel
theorem dX2_init_28 : decode cX2_init 28 = .ok (.aload_n 0, 1) := by decide +kernel
theorem dX2_init_29 : decode cX2_init 29 = .ok (.bipush 96, 2) := by decide +kernel
theorem dX2_init_31 : decode cX2_init 31 = .ok (.newarray .int, 2) := by decide +kernel
theorem dX2_init_33 : decode cX2_init 33 = .ok (.putfield 21, 3) := by decide +kernel
theorem dX2_init_36 : decode cX2_init 36 = .ok (.aload_n 0, 1) := by decide +kernel
theorem dX2_init_37 : decode cX2_init 37 = .ok (.iconst 3, 1) := by decide +kernel
theorem dX2_init_38 : decode cX2_init 38 = .ok (.anewarray 24, 3) := by decide +kernel
theorem dX2_init_41 : decode cX2_init 41 = .ok (.putfield 26, 3) := by decide +kernel
theorem dX2_init_44 : decode cX2_init 44 = .ok (.aload_n 0, 1) := by decide +kernel
theorem dX2_init_45 : decode cX2_init 45 = .ok (.iconst 2, 1) := by decide +kernel
theorem dX2_init_46 : decode cX2_init 46 = .ok (.putfield 30, 3) := by decide +kernel
theorem dX2_init_49 : decode cX2_init 49 = .ok (.aload_n 0, 1) := by decide +kernel
theorem dX2_init_50 : decode cX2_init 50 = .ok (.iconst 0, 1) := by decide +kernel
theorem dX2_init_51 : decode cX2_init 51 = .ok (.putfield 34, 3) := by decide +kernel
theorem dX2_init_54 : decode cX2_init 54 = .ok (.aload_n 0, 1) := by decide +kernel
theorem dX2_init_55 : decode cX2_init 55 = .ok (.iconst 0, 1) := by decide +kernel
theorem dX2_init_56 : decode cX2_init 56 = .ok (.putfield 37, 3) := by decide +kernel
theorem dX2_init_59 : decode cX2_init 59 = .ok (.aload_n 0, 1) := by decide +kernel
theorem dX2_init_60 : decode cX2_init 60 = .ok (.iconst 0, 1) := by decide +kernel
theorem dX2_init_61 : decode cX2_init 61 = .ok (.putfield 40, 3) := by decide +kernel
theorem dX2_init_64 : decode cX2_init 64 = .ok (.aload_n 0, 1) := by decide +kernel
theorem dX2_init_65 : decode cX2_init 65 = .ok (.bipush 96, 2) := by decide +kernel
theorem dX2_init_67 : decode cX2_init 67 = .ok (.newarray .int, 2) := by decide +kernel
theorem dX2_init_69 : decode cX2_init 69 = .ok (.putfield 43, 3) := by decide +kernel
theorem dX2_init_72 : decode cX2_init 72 = .ok (.aload_n 0, 1) := by decide +kernel
theorem dX2_init_73 : decode cX2_init 73 = .ok (.bipush (-9), 2) := by decide +kernel
theorem dX2_init_75 : decode cX2_init 75 = .ok (.putfield 46, 3) := by decide +kernel
theorem dX2_init_78 : decode cX2_init 78 = .ok (.iconst 0, 1) := by decide +kernel
theorem dX2_init_79 : decode cX2_init 79 = .ok (.istore_n 1, 1) := by decide +kernel
theorem dX2_init_80 : decode cX2_init 80 = .ok (.iload_n 1, 1) := by decide +kernel
theorem dX2_init_81 : decode cX2_init 81 = .ok (.iconst 3, 1) := by decide +kernel
theorem dX2_init_82 : decode cX2_init 82 = .ok (.if_icmp .ge 22, 3) := by decide +kernel
theorem dX2_init_85 : decode cX2_init 85 = .ok (.aload_n 0, 1) := by decide +kernel
theorem dX2_init_86 : decode cX2_init 86 = .ok (.getfield 26, 3) := by decide +kernel
theorem dX2_init_89 : decode cX2_init 89 = .ok (.iload_n 1, 1) := by decide +kernel
theorem dX2_init_90 : decode cX2_init 90 = .ok (.new 24, 3) := by decide +kernel
theorem dX2_init_93 : decode cX2_init 93 = .ok (.dup, 1) := by decide +kernel
theorem dX2_init_94 : decode cX2_init 94 = .ok (.invokespecial 49, 3) := by decide +kernel
theorem dX2_init_97 : decode cX2_init 97 = .ok (.aastore, 1) := by decide +kernel
theorem dX2_init_98 : decode cX2_init 98 = .ok (.iinc 1 1, 3) := by decide +kernel
theorem dX2_init_101 : decode cX2_init 101 = .ok (.goto (-21), 3) := by decide +kernel
theorem dX2_init_104 : decode cX2_init 104 = .ok (.aload_n 0, 1) := by decide +kernel
theorem dX2_init_105 : decode cX2_init 105 = .ok (.getfield 21, 3) := by decide +kernel
theorem dX2_init_108 : decode cX2_init 108 = .ok (.bipush (-9), 2) := by decide +kernel
theorem dX2_init_110 : decode cX2_init 110 = .ok (.invokestatic 50, 3) := by decide +kernel
theorem dX2_init_113 : decode cX2_init 113 = .ok (.return_, 1) := by decide +kernel
set_option maxRecDepth 20000 in
theorem ggX2_reset_J7_fill_53178 : GoodIn wsX2_reset wsJ7_fill_53178 := goodIn_r _ [13] (by decide +kernel) (by decide +kernel)
set_option maxRecDepth 20000 in
theorem gX2_reset_J7_fill_53178 : GoodIn wsX2_reset (va_wsS RX2 50 yJ7_fill_53178 wsJ7_fill_53178) := goodIn_app (goodIn_of _ (by decide +kernel)) ggX2_reset_J7_fill_53178
set_option maxRecDepth 20000 in
theorem ggX2_reset_X1_reset : GoodIn wsX2_reset wsX1_reset := goodIn_r _ [18, 19, 20, 21, 22, 23, 24, 17, 25, 26, 27, 28, 29, 41, 42, 43, 44, 45, 46, 47, 48, 49, 50, 51, 52, 53] (by decide +kernel) (by decide +kernel)
set_option maxRecDepth 20000 in
theorem gX2_reset_X1_reset : GoodIn wsX2_reset (wsV RX2 56 RX1 yX1_reset wsX1_reset) := goodIn_app (goodIn_of _ (by decide +kernel)) ggX2_reset_X1_reset
theorem dX2_reset_0 : decode cX2_reset 0 = .ok (.aload_n 0, 1) := by decide +kernel
theorem dX2_reset_1 : decode cX2_reset 1 = .ok (.getfield 9, 3) := by decide +kernel
theorem dX2_reset_4 : decode cX2_reset 4 = .ok (.iconst 0, 1) := by decide +kernel
theorem dX2_reset_5 : decode cX2_reset 5 = .ok (.invokestatic 50, 3) := by decide +kernel
theorem dX2_reset_8 : decode cX2_reset 8 = .ok (.aload_n 0, 1) := by decide +kernel
theorem dX2_reset_9 : decode cX2_reset 9 = .ok (.getfield 15, 3) := by decide +kernel
theorem dX2_reset_12 : decode cX2_reset 12 = .ok (.iconst 0, 1) := by decide +kernel
theorem dX2_reset_13 : decode cX2_reset 13 = .ok (.invokestatic 50, 3) := by decide +kernel
theorem dX2_reset_16 : decode cX2_reset 16 = .ok (.aload_n 0, 1) := by decide +kernel
theorem dX2_reset_17 : decode cX2_reset 17 = .ok (.getfield 18, 3) := by decide +kernel
theorem dX2_reset_20 : decode cX2_reset 20 = .ok (.iconst 0, 1) := by decide +kernel
theorem dX2_reset_21 : decode cX2_reset 21 = .ok (.invokestatic 50, 3) := by decide +kernel
theorem dX2_reset_24 : decode cX2_reset 24 = .ok (.aload_n 0, 1) := by decide +kernel
theorem dX2_reset_25 : decode cX2_reset 25 = .ok (.getfield 21, 3) := by decide +kernel
theorem dX2_reset_28 : decode cX2_reset 28 = .ok (.bipush (-9), 2) := by decide +kernel
theorem dX2_reset_30 : decode cX2_reset 30 = .ok (.invokestatic 50, 3) := by decide +kernel
theorem dX2_reset_33 : decode cX2_reset 33 = .ok (.iconst 0, 1) := by decide +kernel
theorem dX2_reset_34 : decode cX2_reset 34 = .ok (.istore_n 1, 1) := by decide +kernel
theorem dX2_reset_35 : decode cX2_reset 35 = .ok (.iload_n 1, 1) := by decide +kernel
theorem dX2_reset_36 : decode cX2_reset 36 = .ok (.iconst 3, 1) := by decide +kernel
theorem dX2_reset_37 : decode cX2_reset 37 = .ok (.if_icmp .ge 18, 3) := by decide +kernel
theorem dX2_reset_40 : decode cX2_reset 40 = .ok (.aload_n 0, 1) := by decide +kernel
theorem dX2_reset_41 : decode cX2_reset 41 = .ok (.getfield 26, 3) := by decide +kernel
theorem dX2_reset_44 : decode cX2_reset 44 = .ok (.iload_n 1, 1) := by decide +kernel
theorem dX2_reset_45 : decode cX2_reset 45 = .ok (.aaload, 1) := by decide +kernel
theorem dX2_reset_46 : decode cX2_reset 46 = .ok (.invokevirtual 56, 3) := by decide +kernel
theorem dX2_reset_49 : decode cX2_reset 49 = .ok (.iinc 1 1, 3) := by decide +kernel
theorem dX2_reset_52 : decode cX2_reset 52 = .ok (.goto (-17), 3) := by decide +kernel
theorem dX2_reset_55 : decode cX2_reset 55 = .ok (.aload_n 0, 1) := by decide +kernel
theorem dX2_reset_56 : decode cX2_reset 56 = .ok (.iconst 2, 1) := by decide +kernel
theorem dX2_reset_57 : decode cX2_reset 57 = .ok (.putfield 30, 3) := by decide +kernel
theorem dX2_reset_60 : decode cX2_reset 60 = .ok (.aload_n 0, 1) := by decide +kernel
theorem dX2_reset_61 : decode cX2_reset 61 = .ok (.iconst 0, 1) := by decide +kernel
theorem dX2_reset_62 : decode cX2_reset 62 = .ok (.putfield 34, 3) := by decide +kernel
theorem dX2_reset_65 : decode cX2_reset 65 = .ok (.aload_n 0, 1) := by decide +kernel
theorem dX2_reset_66 : decode cX2_reset 66 = .ok (.iconst 0, 1) := by decide +kernel
theorem dX2_reset_67 : decode cX2_reset 67 = .ok (.putfield 37, 3) := by decide +kernel
theorem dX2_reset_70 : decode cX2_reset 70 = .ok (.aload_n 0, 1) := by decide +kernel
theorem dX2_reset_71 : decode cX2_reset 71 = .ok (.iconst 0, 1) := by decide +kernel
theorem dX2_reset_72 : decode cX2_reset 72 = .ok (.putfield 40, 3) := by decide +kernel
theorem dX2_reset_75 : decode cX2_reset 75 = .ok (.return_, 1) := by decide +kernel
set_option maxRecDepth 20000 in
theorem ggX2_copyFrom_X1_copyFrom : GoodIn wsX2_copyFrom wsX1_copyFrom := goodIn_r _ [18, 19, 20, 21, 22, 23, 24, 25, 26, 27, 28, 29, 30, 31, 54, 55, 56, 57, 58, 59, 60, 61, 62, 63, 64, 65, 66] (by decide +kernel) (by decide +kernel)
set_option maxRecDepth 20000 in
theorem gX2_copyFrom_X1_copyFrom : GoodIn wsX2_copyFrom (wsV RX2 65 RX1 yX1_copyFrom wsX1_copyFrom) := goodIn_app (goodIn_of _ (by decide +kernel)) ggX2_copyFrom_X1_copyFrom
set_option maxRecDepth 20000 in
theorem ggX2_copyFrom_X2_watchFromHere : GoodIn wsX2_copyFrom wsX2_watchFromHere := goodIn_r _ [36, 37, 38, 39, 40, 41, 42, 43, 44, 45, 46, 47, 48, 49, 50, 51, 52, 53] (by decide +kernel) (by decide +kernel)
set_option maxRecDepth 20000 in
theorem gX2_copyFrom_X2_watchFromHere : GoodIn wsX2_copyFrom (wsV RX2 69 RX2 yX2_watchFromHere wsX2_watchFromHere) := goodIn_app (goodIn_of _ (by decide +kernel)) ggX2_copyFrom_X2_watchFromHere
theorem dX2_copyFrom_0 : decode cX2_copyFrom 0 = .ok (.aload_n 1, 1) := by decide +kernel
theorem dX2_copyFrom_1 : decode cX2_copyFrom 1 = .ok (.getfield 9, 3) := by decide +kernel
theorem dX2_copyFrom_4 : decode cX2_copyFrom 4 = .ok (.iconst 0, 1) := by decide +kernel
theorem dX2_copyFrom_5 : decode cX2_copyFrom 5 = .ok (.aload_n 0, 1) := by decide +kernel
theorem dX2_copyFrom_6 : decode cX2_copyFrom 6 = .ok (.getfield 9, 3) := by decide +kernel
theorem dX2_copyFrom_9 : decode cX2_copyFrom 9 = .ok (.iconst 0, 1) := by decide +kernel
theorem dX2_copyFrom_10 : decode cX2_copyFrom 10 = .ok (.bipush 96, 2) := by decide +kernel
theorem dX2_copyFrom_12 : decode cX2_copyFrom 12 = .ok (.invokestatic 59, 3) := by decide +kernel
theorem dX2_copyFrom_15 : decode cX2_copyFrom 15 = .ok (.aload_n 1, 1) := by decide +kernel
theorem dX2_copyFrom_16 : decode cX2_copyFrom 16 = .ok (.getfield 15, 3) := by decide +kernel
theorem dX2_copyFrom_19 : decode cX2_copyFrom 19 = .ok (.iconst 0, 1) := by decide +kernel
theorem dX2_copyFrom_20 : decode cX2_copyFrom 20 = .ok (.aload_n 0, 1) := by decide +kernel
theorem dX2_copyFrom_21 : decode cX2_copyFrom 21 = .ok (.getfield 15, 3) := by decide +kernel
theorem dX2_copyFrom_24 : decode cX2_copyFrom 24 = .ok (.iconst 0, 1) := by decide +kernel
theorem dX2_copyFrom_25 : decode cX2_copyFrom 25 = .ok (.bipush 96, 2) := by decide +kernel
theorem dX2_copyFrom_27 : decode cX2_copyFrom 27 = .ok (.invokestatic 59, 3) := by decide +kernel
theorem dX2_copyFrom_30 : decode cX2_copyFrom 30 = .ok (.aload_n 1, 1) := by decide +kernel
theorem dX2_copyFrom_31 : decode cX2_copyFrom 31 = .ok (.getfield 18, 3) := by decide +kernel
theorem dX2_copyFrom_34 : decode cX2_copyFrom 34 = .ok (.iconst 0, 1) := by decide +kernel
theorem dX2_copyFrom_35 : decode cX2_copyFrom 35 = .ok (.aload_n 0, 1) := by decide +kernel
theorem dX2_copyFrom_36 : decode cX2_copyFrom 36 = .ok (.getfield 18, 3) := by decide +kernel
theorem dX2_copyFrom_39 : decode cX2_copyFrom 39 = .ok (.iconst 0, 1) := by decide +kernel
theorem dX2_copyFrom_40 : decode cX2_copyFrom 40 = .ok (.bipush 96, 2) := by decide +kernel
theorem dX2_copyFrom_42 : decode cX2_copyFrom 42 = .ok (.invokestatic 59, 3) := by decide +kernel
theorem dX2_copyFrom_45 : decode cX2_copyFrom 45 = .ok (.aload_n 1, 1) := by decide +kernel
theorem dX2_copyFrom_46 : decode cX2_copyFrom 46 = .ok (.getfield 21, 3) := by decide +kernel
theorem dX2_copyFrom_49 : decode cX2_copyFrom 49 = .ok (.iconst 0, 1) := by decide +kernel
theorem dX2_copyFrom_50 : decode cX2_copyFrom 50 = .ok (.aload_n 0, 1) := by decide +kernel
theorem dX2_copyFrom_51 : decode cX2_copyFrom 51 = .ok (.getfield 21, 3) := by decide +kernel
theorem dX2_copyFrom_54 : decode cX2_copyFrom 54 = .ok (.iconst 0, 1) := by decide +kernel
theorem dX2_copyFrom_55 : decode cX2_copyFrom 55 = .ok (.bipush 96, 2) := by decide +kernel
theorem dX2_copyFrom_57 : decode cX2_copyFrom 57 = .ok (.invokestatic 59, 3) := by decide +kernel
theorem dX2_copyFrom_60 : decode cX2_copyFrom 60 = .ok (.iconst 0, 1) := by decide +kernel
theorem dX2_copyFrom_61 : decode cX2_copyFrom 61 = .ok (.istore_n 2, 1) := by decide +kernel
theorem dX2_copyFrom_62 : decode cX2_copyFrom 62 = .ok (.iload_n 2, 1) := by decide +kernel
theorem dX2_copyFrom_63 : decode cX2_copyFrom 63 = .ok (.iconst 3, 1) := by decide +kernel
theorem dX2_copyFrom_64 : decode cX2_copyFrom 64 = .ok (.if_icmp .ge 24, 3) := by decide +kernel
theorem dX2_copyFrom_67 : decode cX2_copyFrom 67 = .ok (.aload_n 0, 1) := by decide +kernel
theorem dX2_copyFrom_68 : decode cX2_copyFrom 68 = .ok (.getfield 26, 3) := by decide +kernel
theorem dX2_copyFrom_71 : decode cX2_copyFrom 71 = .ok (.iload_n 2, 1) := by decide +kernel
theorem dX2_copyFrom_72 : decode cX2_copyFrom 72 = .ok (.aaload, 1) := by decide +kernel
theorem dX2_copyFrom_73 : decode cX2_copyFrom 73 = .ok (.aload_n 1, 1) := by decide +kernel
theorem dX2_copyFrom_74 : decode cX2_copyFrom 74 = .ok (.getfield 26, 3) := by decide +kernel
theorem dX2_copyFrom_77 : decode cX2_copyFrom 77 = .ok (.iload_n 2, 1) := by decide +kernel
theorem dX2_copyFrom_78 : decode cX2_copyFrom 78 = .ok (.aaload, 1) := by decide +kernel
theorem dX2_copyFrom_79 : decode cX2_copyFrom 79 = .ok (.invokevirtual 65, 3) := by decide +kernel
theorem dX2_copyFrom_82 : decode cX2_copyFrom 82 = .ok (.iinc 2 1, 3) := by decide +kernel
theorem dX2_copyFrom_85 : decode cX2_copyFrom 85 = .ok (.goto (-23), 3) := by decide +kernel
theorem dX2_copyFrom_88 : decode cX2_copyFrom 88 = .ok (.aload_n 0, 1) := by decide +kernel
theorem dX2_copyFrom_89 : decode cX2_copyFrom 89 = .ok (.aload_n 1, 1) := by decide +kernel
theorem dX2_copyFrom_90 : decode cX2_copyFrom 90 = .ok (.getfield 30, 3) := by decide +kernel
theorem dX2_copyFrom_93 : decode cX2_copyFrom 93 = .ok (.putfield 30, 3) := by decide +kernel
theorem dX2_copyFrom_96 : decode cX2_copyFrom 96 = .ok (.aload_n 0, 1) := by decide +kernel
theorem dX2_copyFrom_97 : decode cX2_copyFrom 97 = .ok (.aload_n 1, 1) := by decide +kernel
theorem dX2_copyFrom_98 : decode cX2_copyFrom 98 = .ok (.getfield 34, 3) := by decide +kernel
theorem dX2_copyFrom_101 : decode cX2_copyFrom 101 = .ok (.putfield 34, 3) := by decide +kernel
theorem dX2_copyFrom_104 : decode cX2_copyFrom 104 = .ok (.aload_n 0, 1) := by decide +kernel
theorem dX2_copyFrom_105 : decode cX2_copyFrom 105 = .ok (.aload_n 1, 1) := by decide +kernel
theorem dX2_copyFrom_106 : decode cX2_copyFrom 106 = .ok (.getfield 37, 3) := by decide +kernel
theorem dX2_copyFrom_109 : decode cX2_copyFrom 109 = .ok (.putfield 37, 3) := by decide +kernel
theorem dX2_copyFrom_112 : decode cX2_copyFrom 112 = .ok (.aload_n 0, 1) := by decide +kernel
theorem dX2_copyFrom_113 : decode cX2_copyFrom 113 = .ok (.aload_n 1, 1) := by decide +kernel
theorem dX2_copyFrom_114 : decode cX2_copyFrom 114 = .ok (.getfield 40, 3) := by decide +kernel
theorem dX2_copyFrom_117 : decode cX2_copyFrom 117 = .ok (.putfield 40, 3) := by decide +kernel
theorem dX2_copyFrom_120 : decode cX2_copyFrom 120 = .ok (.aload_n 0, 1) := by decide +kernel
theorem dX2_copyFrom_121 : decode cX2_copyFrom 121 = .ok (.invokevirtual 69, 3) := by decide +kernel
theorem dX2_copyFrom_124 : decode cX2_copyFrom 124 = .ok (.return_, 1) := by decide +kernel
set_option maxRecDepth 20000 in
theorem ggX2_watchFromHere_J7_fill_53178 : GoodIn wsX2_watchFromHere wsJ7_fill_53178 := goodIn_r _ [6] (by decide +kernel) (by decide +kernel)
set_option maxRecDepth 20000 in
theorem gX2_watchFromHere_J7_fill_53178 : GoodIn wsX2_watchFromHere (va_wsS RX2 50 yJ7_fill_53178 wsJ7_fill_53178) := goodIn_app (goodIn_of _ (by decide +kernel)) ggX2_watchFromHere_J7_fill_53178
theorem dX2_watchFromHere_0 : decode cX2_watchFromHere 0 = .ok (.aload_n 0, 1) := by decide +kernel
theorem dX2_watchFromHere_1 : decode cX2_watchFromHere 1 = .ok (.getfield 43, 3) := by decide +kernel
theorem dX2_watchFromHere_4 : decode cX2_watchFromHere 4 = .ok (.iconst 0, 1) := by decide +kernel
theorem dX2_watchFromHere_5 : decode cX2_watchFromHere 5 = .ok (.invokestatic 50, 3) := by decide +kernel
theorem dX2_watchFromHere_8 : decode cX2_watchFromHere 8 = .ok (.aload_n 0, 1) := by decide +kernel
theorem dX2_watchFromHere_9 : decode cX2_watchFromHere 9 = .ok (.bipush (-9), 2) := by decide +kernel
theorem dX2_watchFromHere_11 : decode cX2_watchFromHere 11 = .ok (.putfield 46, 3) := by decide +kernel
theorem dX2_watchFromHere_14 : decode cX2_watchFromHere 14 = .ok (.return_, 1) := by decide +kernel
theorem dX2_channelsThatAre_0 : decode cX2_channelsThatAre 0 = .ok (.iconst 0, 1) := by decide +kernel
theorem dX2_channelsThatAre_1 : decode cX2_channelsThatAre 1 = .ok (.istore_n 2, 1) := by decide +kernel
theorem dX2_channelsThatAre_2 : decode cX2_channelsThatAre 2 = .ok (.iconst 0, 1) := by decide +kernel
theorem dX2_channelsThatAre_3 : decode cX2_channelsThatAre 3 = .ok (.istore_n 3, 1) := by decide +kernel
theorem dX2_channelsThatAre_4 : decode cX2_channelsThatAre 4 = .ok (.iload_n 3, 1) := by decide +kernel
theorem dX2_channelsThatAre_5 : decode cX2_channelsThatAre 5 = .ok (.iconst 3, 1) := by decide +kernel
theorem dX2_channelsThatAre_6 : decode cX2_channelsThatAre 6 = .ok (.if_icmp .ge 25, 3) := by decide +kernel
theorem dX2_channelsThatAre_9 : decode cX2_channelsThatAre 9 = .ok (.aload_n 0, 1) := by decide +kernel
theorem dX2_channelsThatAre_10 : decode cX2_channelsThatAre 10 = .ok (.getfield 26, 3) := by decide +kernel
theorem dX2_channelsThatAre_13 : decode cX2_channelsThatAre 13 = .ok (.iload_n 3, 1) := by decide +kernel
theorem dX2_channelsThatAre_14 : decode cX2_channelsThatAre 14 = .ok (.aaload, 1) := by decide +kernel
theorem dX2_channelsThatAre_15 : decode cX2_channelsThatAre 15 = .ok (.getfield 72, 3) := by decide +kernel
theorem dX2_channelsThatAre_18 : decode cX2_channelsThatAre 18 = .ok (.iload_n 1, 1) := by decide +kernel
theorem dX2_channelsThatAre_19 : decode cX2_channelsThatAre 19 = .ok (.if_icmp .ne 6, 3) := by decide +kernel
theorem dX2_channelsThatAre_22 : decode cX2_channelsThatAre 22 = .ok (.iinc 2 1, 3) := by decide +kernel
theorem dX2_channelsThatAre_25 : decode cX2_channelsThatAre 25 = .ok (.iinc 3 1, 3) := by decide +kernel
theorem dX2_channelsThatAre_28 : decode cX2_channelsThatAre 28 = .ok (.goto (-24), 3) := by decide +kernel
theorem dX2_channelsThatAre_31 : decode cX2_channelsThatAre 31 = .ok (.iload_n 2, 1) := by decide +kernel
theorem dX2_channelsThatAre_32 : decode cX2_channelsThatAre 32 = .ok (.ireturn, 1) := by decide +kernel
theorem dX2_sumOfValues_0 : decode cX2_sumOfValues 0 = .ok (.iconst 0, 1) := by decide +kernel
theorem dX2_sumOfValues_1 : decode cX2_sumOfValues 1 = .ok (.istore_n 1, 1) := by decide +kernel
theorem dX2_sumOfValues_2 : decode cX2_sumOfValues 2 = .ok (.iconst 0, 1) := by decide +kernel
theorem dX2_sumOfValues_3 : decode cX2_sumOfValues 3 = .ok (.istore_n 2, 1) := by decide +kernel
theorem dX2_sumOfValues_4 : decode cX2_sumOfValues 4 = .ok (.iload_n 2, 1) := by decide +kernel
theorem dX2_sumOfValues_5 : decode cX2_sumOfValues 5 = .ok (.bipush 96, 2) := by decide +kernel
theorem dX2_sumOfValues_7 : decode cX2_sumOfValues 7 = .ok (.if_icmp .ge 18, 3) := by decide +kernel
theorem dX2_sumOfValues_10 : decode cX2_sumOfValues 10 = .ok (.iload_n 1, 1) := by decide +kernel
theorem dX2_sumOfValues_11 : decode cX2_sumOfValues 11 = .ok (.aload_n 0, 1) := by decide +kernel
theorem dX2_sumOfValues_12 : decode cX2_sumOfValues 12 = .ok (.getfield 9, 3) := by decide +kernel
theorem dX2_sumOfValues_15 : decode cX2_sumOfValues 15 = .ok (.iload_n 2, 1) := by decide +kernel
theorem dX2_sumOfValues_16 : decode cX2_sumOfValues 16 = .ok (.iaload, 1) := by decide +kernel
theorem dX2_sumOfValues_17 : decode cX2_sumOfValues 17 = .ok (.iadd, 1) := by decide +kernel
theorem dX2_sumOfValues_18 : decode cX2_sumOfValues 18 = .ok (.istore_n 1, 1) := by decide +kernel
theorem dX2_sumOfValues_19 : decode cX2_sumOfValues 19 = .ok (.iinc 2 1, 3) := by decide +kernel
theorem dX2_sumOfValues_22 : decode cX2_sumOfValues 22 = .ok (.goto (-18), 3) := by decide +kernel
theorem dX2_sumOfValues_25 : decode cX2_sumOfValues 25 = .ok (.iload_n 1, 1) := by decide +kernel
theorem dX2_sumOfValues_26 : decode cX2_sumOfValues 26 = .ok (.ireturn, 1) := by decide +kernel
theorem dX2_markedCells_0 : decode cX2_markedCells 0 = .ok (.iconst 0, 1) := by decide +kernel
theorem dX2_markedCells_1 : decode cX2_markedCells 1 = .ok (.istore_n 1, 1) := by decide +kernel
theorem dX2_markedCells_2 : decode cX2_markedCells 2 = .ok (.iconst 0, 1) := by decide +kernel
theorem dX2_markedCells_3 : decode cX2_markedCells 3 = .ok (.istore_n 2, 1) := by decide +kernel
theorem dX2_markedCells_4 : decode cX2_markedCells 4 = .ok (.iload_n 2, 1) := by decide +kernel
theorem dX2_markedCells_5 : decode cX2_markedCells 5 = .ok (.bipush 96, 2) := by decide +kernel
theorem dX2_markedCells_7 : decode cX2_markedCells 7 = .ok (.if_icmp .ge 18, 3) := by decide +kernel
theorem dX2_markedCells_10 : decode cX2_markedCells 10 = .ok (.iload_n 1, 1) := by decide +kernel
theorem dX2_markedCells_11 : decode cX2_markedCells 11 = .ok (.aload_n 0, 1) := by decide +kernel
theorem dX2_markedCells_12 : decode cX2_markedCells 12 = .ok (.getfield 18, 3) := by decide +kernel
theorem dX2_markedCells_15 : decode cX2_markedCells 15 = .ok (.iload_n 2, 1) := by decide +kernel
theorem dX2_markedCells_16 : decode cX2_markedCells 16 = .ok (.iaload, 1) := by decide +kernel
theorem dX2_markedCells_17 : decode cX2_markedCells 17 = .ok (.iadd, 1) := by decide +kernel
theorem dX2_markedCells_18 : decode cX2_markedCells 18 = .ok (.istore_n 1, 1) := by decide +kernel
theorem dX2_markedCells_19 : decode cX2_markedCells 19 = .ok (.iinc 2 1, 3) := by decide +kernel
theorem dX2_markedCells_22 : decode cX2_markedCells 22 = .ok (.goto (-18), 3) := by decide +kernel
theorem dX2_markedCells_25 : decode cX2_markedCells 25 = .ok (.iload_n 1, 1) := by decide +kernel
theorem dX2_markedCells_26 : decode cX2_markedCells 26 = .ok (.ireturn, 1) := by decide +kernel
theorem dX2_ownedCells_0 : decode cX2_ownedCells 0 = .ok (.iconst 0, 1) := by decide +kernel
theorem dX2_ownedCells_1 : decode cX2_ownedCells 1 = .ok (.istore_n 1, 1) := by decide +kernel
theorem dX2_ownedCells_2 : decode cX2_ownedCells 2 = .ok (.iconst 0, 1) := by decide +kernel
theorem dX2_ownedCells_3 : decode cX2_ownedCells 3 = .ok (.istore_n 2, 1) := by decide +kernel
theorem dX2_ownedCells_4 : decode cX2_ownedCells 4 = .ok (.iload_n 2, 1) := by decide +kernel
theorem dX2_ownedCells_5 : decode cX2_ownedCells 5 = .ok (.bipush 96, 2) := by decide +kernel
theorem dX2_ownedCells_7 : decode cX2_ownedCells 7 = .ok (.if_icmp .ge 21, 3) := by decide +kernel
theorem dX2_ownedCells_10 : decode cX2_ownedCells 10 = .ok (.aload_n 0, 1) := by decide +kernel
theorem dX2_ownedCells_11 : decode cX2_ownedCells 11 = .ok (.getfield 15, 3) := by decide +kernel
theorem dX2_ownedCells_14 : decode cX2_ownedCells 14 = .ok (.iload_n 2, 1) := by decide +kernel
theorem dX2_ownedCells_15 : decode cX2_ownedCells 15 = .ok (.iaload, 1) := by decide +kernel
theorem dX2_ownedCells_16 : decode cX2_ownedCells 16 = .ok (.ifCond .eq 6, 3) := by decide +kernel
theorem dX2_ownedCells_19 : decode cX2_ownedCells 19 = .ok (.iinc 1 1, 3) := by decide +kernel
theorem dX2_ownedCells_22 : decode cX2_ownedCells 22 = .ok (.iinc 2 1, 3) := by decide +kernel
theorem dX2_ownedCells_25 : decode cX2_ownedCells 25 = .ok (.goto (-21), 3) := by decide +kernel
theorem dX2_ownedCells_28 : decode cX2_ownedCells 28 = .ok (.iload_n 1, 1) := by decide +kernel
theorem dX2_ownedCells_29 : decode cX2_ownedCells 29 = .ok (.ireturn, 1) := by decide +kernel
set_option maxRecDepth 20000 in
theorem ggX2_cellsOfSeveralWriters_J6_bitCount_0f7a4 : GoodIn wsX2_cellsOfSeveralWriters wsJ6_bitCount_0f7a4 := goodIn_r _ [5, 6, 7, 8] (by decide +kernel) (by decide +kernel)
set_option maxRecDepth 20000 in
theorem gX2_cellsOfSeveralWriters_J6_bitCount_0f7a4 : GoodIn wsX2_cellsOfSeveralWriters (va_wsS RX2 75 yJ6_bitCount_0f7a4 wsJ6_bitCount_0f7a4) := goodIn_app (goodIn_of _ (by decide +kernel)) ggX2_cellsOfSeveralWriters_J6_bitCount_0f7a4
theorem dX2_cellsOfSeveralWriters_0 : decode cX2_cellsOfSeveralWriters 0 = .ok (.iconst 0, 1) := by decide +kernel
theorem dX2_cellsOfSeveralWriters_1 : decode cX2_cellsOfSeveralWriters 1 = .ok (.istore_n 1, 1) := by decide +kernel
theorem dX2_cellsOfSeveralWriters_2 : decode cX2_cellsOfSeveralWriters 2 = .ok (.iconst 0, 1) := by decide +kernel
theorem dX2_cellsOfSeveralWriters_3 : decode cX2_cellsOfSeveralWriters 3 = .ok (.istore_n 2, 1) := by decide +kernel
theorem dX2_cellsOfSeveralWriters_4 : decode cX2_cellsOfSeveralWriters 4 = .ok (.iload_n 2, 1) := by decide +kernel
theorem dX2_cellsOfSeveralWriters_5 : decode cX2_cellsOfSeveralWriters 5 = .ok (.bipush 96, 2) := by decide +kernel
theorem dX2_cellsOfSeveralWriters_7 : decode cX2_cellsOfSeveralWriters 7 = .ok (.if_icmp .ge 25, 3) := by decide +kernel
theorem dX2_cellsOfSeveralWriters_10 : decode cX2_cellsOfSeveralWriters 10 = .ok (.aload_n 0, 1) := by decide +kernel
theorem dX2_cellsOfSeveralWriters_11 : decode cX2_cellsOfSeveralWriters 11 = .ok (.getfield 43, 3) := by decide +kernel
theorem dX2_cellsOfSeveralWriters_14 : decode cX2_cellsOfSeveralWriters 14 = .ok (.iload_n 2, 1) := by decide +kernel
theorem dX2_cellsOfSeveralWriters_15 : decode cX2_cellsOfSeveralWriters 15 = .ok (.iaload, 1) := by decide +kernel
theorem dX2_cellsOfSeveralWriters_16 : decode cX2_cellsOfSeveralWriters 16 = .ok (.invokestatic 75, 3) := by decide +kernel
theorem dX2_cellsOfSeveralWriters_19 : decode cX2_cellsOfSeveralWriters 19 = .ok (.iconst 1, 1) := by decide +kernel
theorem dX2_cellsOfSeveralWriters_20 : decode cX2_cellsOfSeveralWriters 20 = .ok (.if_icmp .le 6, 3) := by decide +kernel
theorem dX2_cellsOfSeveralWriters_23 : decode cX2_cellsOfSeveralWriters 23 = .ok (.iinc 1 1, 3) := by decide +kernel
theorem dX2_cellsOfSeveralWriters_26 : decode cX2_cellsOfSeveralWriters 26 = .ok (.iinc 2 1, 3) := by decide +kernel
theorem dX2_cellsOfSeveralWriters_29 : decode cX2_cellsOfSeveralWriters 29 = .ok (.goto (-25), 3) := by decide +kernel
theorem dX2_cellsOfSeveralWriters_32 : decode cX2_cellsOfSeveralWriters 32 = .ok (.iload_n 1, 1) := by decide +kernel
theorem dX2_cellsOfSeveralWriters_33 : decode cX2_cellsOfSeveralWriters 33 = .ok (.ireturn, 1) := by decide +kernel
theorem dX2_giveCells_0 : decode cX2_giveCells 0 = .ok (.iconst 0, 1) := by decide +kernel
theorem dX2_giveCells_1 : decode cX2_giveCells 1 = .ok (.istore 4, 2) := by decide +kernel
theorem dX2_giveCells_3 : decode cX2_giveCells 3 = .ok (.iload_n 1, 1) := by decide +kernel
theorem dX2_giveCells_4 : decode cX2_giveCells 4 = .ok (.istore 5, 2) := by decide +kernel
theorem dX2_giveCells_6 : decode cX2_giveCells 6 = .ok (.iload 5, 2) := by decide +kernel
theorem dX2_giveCells_8 : decode cX2_giveCells 8 = .ok (.bipush 96, 2) := by decide +kernel
theorem dX2_giveCells_10 : decode cX2_giveCells 10 = .ok (.if_icmp .ge 39, 3) := by decide +kernel
theorem dX2_giveCells_13 : decode cX2_giveCells 13 = .ok (.iload 5, 2) := by decide +kernel
theorem dX2_giveCells_15 : decode cX2_giveCells 15 = .ok (.iload_n 1, 1) := by decide +kernel
theorem dX2_giveCells_16 : decode cX2_giveCells 16 = .ok (.iload_n 2, 1) := by decide +kernel
theorem dX2_giveCells_17 : decode cX2_giveCells 17 = .ok (.iadd, 1) := by decide +kernel
theorem dX2_giveCells_18 : decode cX2_giveCells 18 = .ok (.if_icmp .ge 31, 3) := by decide +kernel
theorem dX2_giveCells_21 : decode cX2_giveCells 21 = .ok (.aload_n 0, 1) := by decide +kernel
theorem dX2_giveCells_22 : decode cX2_giveCells 22 = .ok (.getfield 15, 3) := by decide +kernel
theorem dX2_giveCells_25 : decode cX2_giveCells 25 = .ok (.iload 5, 2) := by decide +kernel
theorem dX2_giveCells_27 : decode cX2_giveCells 27 = .ok (.iaload, 1) := by decide +kernel
theorem dX2_giveCells_28 : decode cX2_giveCells 28 = .ok (.iload_n 3, 1) := by decide +kernel
theorem dX2_giveCells_29 : decode cX2_giveCells 29 = .ok (.if_icmp .eq 14, 3) := by decide +kernel
theorem dX2_giveCells_32 : decode cX2_giveCells 32 = .ok (.aload_n 0, 1) := by decide +kernel
theorem dX2_giveCells_33 : decode cX2_giveCells 33 = .ok (.getfield 15, 3) := by decide +kernel
theorem dX2_giveCells_36 : decode cX2_giveCells 36 = .ok (.iload 5, 2) := by decide +kernel
theorem dX2_giveCells_38 : decode cX2_giveCells 38 = .ok (.iload_n 3, 1) := by decide +kernel
theorem dX2_giveCells_39 : decode cX2_giveCells 39 = .ok (.iastore, 1) := by decide +kernel
theorem dX2_giveCells_40 : decode cX2_giveCells 40 = .ok (.iinc 4 1, 3) := by decide +kernel
theorem dX2_giveCells_43 : decode cX2_giveCells 43 = .ok (.iinc 5 1, 3) := by decide +kernel
theorem dX2_giveCells_46 : decode cX2_giveCells 46 = .ok (.goto (-40), 3) := by decide +kernel
theorem dX2_giveCells_49 : decode cX2_giveCells 49 = .ok (.iload 4, 2) := by decide +kernel
theorem dX2_giveCells_51 : decode cX2_giveCells 51 = .ok (.ireturn, 1) := by decide +kernel
theorem dX2_nextTurn_0 : decode cX2_nextTurn 0 = .ok (.iconst 1, 1) := by decide +kernel
theorem dX2_nextTurn_1 : decode cX2_nextTurn 1 = .ok (.istore_n 1, 1) := by decide +kernel
theorem dX2_nextTurn_2 : decode cX2_nextTurn 2 = .ok (.iload_n 1, 1) := by decide +kernel
theorem dX2_nextTurn_3 : decode cX2_nextTurn 3 = .ok (.iconst 3, 1) := by decide +kernel
theorem dX2_nextTurn_4 : decode cX2_nextTurn 4 = .ok (.if_icmp .gt 33, 3) := by decide +kernel
theorem dX2_nextTurn_7 : decode cX2_nextTurn 7 = .ok (.aload_n 0, 1) := by decide +kernel
theorem dX2_nextTurn_8 : decode cX2_nextTurn 8 = .ok (.getfield 30, 3) := by decide +kernel
theorem dX2_nextTurn_11 : decode cX2_nextTurn 11 = .ok (.iload_n 1, 1) := by decide +kernel
theorem dX2_nextTurn_12 : decode cX2_nextTurn 12 = .ok (.iadd, 1) := by decide +kernel
theorem dX2_nextTurn_13 : decode cX2_nextTurn 13 = .ok (.iconst 3, 1) := by decide +kernel
theorem dX2_nextTurn_14 : decode cX2_nextTurn 14 = .ok (.irem, 1) := by decide +kernel
theorem dX2_nextTurn_15 : decode cX2_nextTurn 15 = .ok (.istore_n 2, 1) := by decide +kernel
theorem dX2_nextTurn_16 : decode cX2_nextTurn 16 = .ok (.aload_n 0, 1) := by decide +kernel
theorem dX2_nextTurn_17 : decode cX2_nextTurn 17 = .ok (.getfield 26, 3) := by decide +kernel
theorem dX2_nextTurn_20 : decode cX2_nextTurn 20 = .ok (.iload_n 2, 1) := by decide +kernel
theorem dX2_nextTurn_21 : decode cX2_nextTurn 21 = .ok (.aaload, 1) := by decide +kernel
theorem dX2_nextTurn_22 : decode cX2_nextTurn 22 = .ok (.getfield 72, 3) := by decide +kernel
theorem dX2_nextTurn_25 : decode cX2_nextTurn 25 = .ok (.iconst 1, 1) := by decide +kernel
theorem dX2_nextTurn_26 : decode cX2_nextTurn 26 = .ok (.if_icmp .ne 5, 3) := by decide +kernel
theorem dX2_nextTurn_29 : decode cX2_nextTurn 29 = .ok (.iload_n 2, 1) := by decide +kernel
theorem dX2_nextTurn_30 : decode cX2_nextTurn 30 = .ok (.ireturn, 1) := by decide +kernel
theorem dX2_nextTurn_31 : decode cX2_nextTurn 31 = .ok (.iinc 1 1, 3) := by decide +kernel
theorem dX2_nextTurn_34 : decode cX2_nextTurn 34 = .ok (.goto (-32), 3) := by decide +kernel
theorem dX2_nextTurn_37 : decode cX2_nextTurn 37 = .ok (.bipush (-9), 2) := by decide +kernel
theorem dX2_nextTurn_39 : decode cX2_nextTurn 39 = .ok (.ireturn, 1) := by decide +kernel
set_option maxRecDepth 20000 in
theorem ggX2_letTicksGoBy_X2_tick : GoodIn wsX2_letTicksGoBy wsX2_tick := goodIn_r _ [5, 6, 7, 8, 9, 10, 11, 4, 12, 13, 14, 15, 16, 17, 18, 19, 20, 21, 22, 23, 24, 25, 26, 27, 28, 29, 30, 31, 32, 33, 34, 35, 36, 37, 38, 39, 40, 41, 42, 43, 44, 45, 46, 47, 48, 49, 50, 51, 52, 53, 54, 55, 56, 57, 58, 59, 60, 61, 62, 63, 64, 65, 66, 67, 68, 69, 70, 71, 72, 73, 74, 75, 76, 77, 78, 79, 80, 81, 82, 83, 84, 85, 86, 87, 88, 89, 90, 91, 92, 93, 94, 95, 96, 97, 98, 99, 100, 101, 102, 103, 104, 105, 106, 107, 108, 109, 110, 111, 112, 113, 114, 115, 116, 117] (by decide +kernel) (by decide +kernel)
set_option maxRecDepth 20000 in
theorem gX2_letTicksGoBy_X2_tick : GoodIn wsX2_letTicksGoBy (wsV RX2 81 RX2 yX2_tick wsX2_tick) := goodIn_app (goodIn_of _ (by decide +kernel)) ggX2_letTicksGoBy_X2_tick
theorem dX2_letTicksGoBy_0 : decode cX2_letTicksGoBy 0 = .ok (.iconst 0, 1) := by decide +kernel
theorem dX2_letTicksGoBy_1 : decode cX2_letTicksGoBy 1 = .ok (.istore_n 2, 1) := by decide +kernel
theorem dX2_letTicksGoBy_2 : decode cX2_letTicksGoBy 2 = .ok (.iload_n 2, 1) := by decide +kernel
theorem dX2_letTicksGoBy_3 : decode cX2_letTicksGoBy 3 = .ok (.iload_n 1, 1) := by decide +kernel
theorem dX2_letTicksGoBy_4 : decode cX2_letTicksGoBy 4 = .ok (.if_icmp .ge 18, 3) := by decide +kernel
theorem dX2_letTicksGoBy_7 : decode cX2_letTicksGoBy 7 = .ok (.aload_n 0, 1) := by decide +kernel
theorem dX2_letTicksGoBy_8 : decode cX2_letTicksGoBy 8 = .ok (.invokevirtual 81, 3) := by decide +kernel
theorem dX2_letTicksGoBy_11 : decode cX2_letTicksGoBy 11 = .ok (.ifCond .ne 5, 3) := by decide +kernel
theorem dX2_letTicksGoBy_14 : decode cX2_letTicksGoBy 14 = .ok (.iload_n 2, 1) := by decide +kernel
theorem dX2_letTicksGoBy_15 : decode cX2_letTicksGoBy 15 = .ok (.ireturn, 1) := by decide +kernel
theorem dX2_letTicksGoBy_16 : decode cX2_letTicksGoBy 16 = .ok (.iinc 2 1, 3) := by decide +kernel
theorem dX2_letTicksGoBy_19 : decode cX2_letTicksGoBy 19 = .ok (.goto (-17), 3) := by decide +kernel
theorem dX2_letTicksGoBy_22 : decode cX2_letTicksGoBy 22 = .ok (.iload_n 1, 1) := by decide +kernel
theorem dX2_letTicksGoBy_23 : decode cX2_letTicksGoBy 23 = .ok (.ireturn, 1) := by decide +kernel
set_option maxRecDepth 20000 in
theorem ggX2_tick_X2_nextTurn : GoodIn wsX2_tick wsX2_nextTurn := goodIn_r _ [8, 1, 3, 9, 90, 91, 92, 93, 94, 95, 96, 97, 98, 99, 100, 101, 102, 103, 104, 105, 106, 107, 108, 109, 110, 111, 112, 113] (by decide +kernel) (by decide +kernel)
set_option maxRecDepth 20000 in
theorem gX2_tick_X2_nextTurn : GoodIn wsX2_tick (wsV RX2 85 RX2 yX2_nextTurn wsX2_nextTurn) := goodIn_app (goodIn_of _ (by decide +kernel)) ggX2_tick_X2_nextTurn
set_option maxRecDepth 20000 in
theorem ggX2_tick_X1_hasOrder : GoodIn wsX2_tick wsX1_hasOrder := goodIn_r _ [14, 15, 101, 102, 103, 104, 105, 106, 107, 108, 109, 110, 111, 112, 113] (by decide +kernel) (by decide +kernel)
set_option maxRecDepth 20000 in
theorem gX2_tick_X1_hasOrder : GoodIn wsX2_tick (wsV RX2 89 RX1 yX1_hasOrder wsX1_hasOrder) := goodIn_app (goodIn_of _ (by decide +kernel)) ggX2_tick_X1_hasOrder
set_option maxRecDepth 20000 in
theorem ggX2_tick_X2_doUnit : GoodIn wsX2_tick wsX2_doUnit := goodIn_r _ [19, 3, 20, 21, 22, 23, 24, 25, 26, 27, 28, 29, 7, 30, 31, 32, 33, 34, 35, 13, 36, 37, 38, 39, 40, 41, 42, 15, 43, 44, 45, 46, 47, 48, 49, 50, 51, 52, 53, 54, 55, 56, 57, 58, 59, 60, 61, 62, 63, 64, 65, 66, 67, 68, 69, 70, 71, 72, 90, 91, 92, 93, 94, 95, 96, 97, 98, 99, 100, 101, 102, 103, 104, 105, 106, 107, 108, 109, 110, 111, 112, 113] (by decide +kernel) (by decide +kernel)
set_option maxRecDepth 20000 in
theorem gX2_tick_X2_doUnit : GoodIn wsX2_tick (wsV RX2 92 RX2 yX2_doUnit wsX2_doUnit) := goodIn_app (goodIn_of _ (by decide +kernel)) ggX2_tick_X2_doUnit
set_option maxRecDepth 20000 in
theorem ggX2_tick_X2_readOrder : GoodIn wsX2_tick wsX2_readOrder := goodIn_r _ [76, 77, 66, 31, 20, 21, 26, 33, 34, 35, 13, 36, 37, 38, 39, 40, 41, 42, 15, 43, 78, 79, 80, 81, 48, 82, 83, 84, 85, 86, 87, 88, 89, 44, 45, 46, 47, 101, 102, 103, 104, 105, 106, 107, 108, 109, 110, 111, 112, 113, 90, 91, 92, 93, 94, 95, 96, 97, 98, 99, 100] (by decide +kernel) (by decide +kernel)
set_option maxRecDepth 20000 in
theorem gX2_tick_X2_readOrder : GoodIn wsX2_tick (wsV RX2 96 RX2 yX2_readOrder wsX2_readOrder) := goodIn_app (goodIn_of _ (by decide +kernel)) ggX2_tick_X2_readOrder
theorem dX2_tick_0 : decode cX2_tick 0 = .ok (.aload_n 0, 1) := by decide +kernel
theorem dX2_tick_1 : decode cX2_tick 1 = .ok (.invokevirtual 85, 3) := by decide +kernel
theorem dX2_tick_4 : decode cX2_tick 4 = .ok (.istore_n 1, 1) := by decide +kernel
theorem dX2_tick_5 : decode cX2_tick 5 = .ok (.iload_n 1, 1) := by decide +kernel
theorem dX2_tick_6 : decode cX2_tick 6 = .ok (.bipush (-9), 2) := by decide +kernel
theorem dX2_tick_8 : decode cX2_tick 8 = .ok (.if_icmp .ne 5, 3) := by decide +kernel
theorem dX2_tick_11 : decode cX2_tick 11 = .ok (.iconst 0, 1) := by decide +kernel
theorem dX2_tick_12 : decode cX2_tick 12 = .ok (.ireturn, 1) := by decide +kernel
theorem dX2_tick_13 : decode cX2_tick 13 = .ok (.aload_n 0, 1) := by decide +kernel
theorem dX2_tick_14 : decode cX2_tick 14 = .ok (.iload_n 1, 1) := by decide +kernel
theorem dX2_tick_15 : decode cX2_tick 15 = .ok (.putfield 30, 3) := by decide +kernel
theorem dX2_tick_18 : decode cX2_tick 18 = .ok (.aload_n 0, 1) := by decide +kernel
theorem dX2_tick_19 : decode cX2_tick 19 = .ok (.dup, 1) := by decide +kernel
theorem dX2_tick_20 : decode cX2_tick 20 = .ok (.getfield 34, 3) := by decide +kernel
theorem dX2_tick_23 : decode cX2_tick 23 = .ok (.iconst 1, 1) := by decide +kernel
theorem dX2_tick_24 : decode cX2_tick 24 = .ok (.iadd, 1) := by decide +kernel
theorem dX2_tick_25 : decode cX2_tick 25 = .ok (.putfield 34, 3) := by decide +kernel
theorem dX2_tick_28 : decode cX2_tick 28 = .ok (.aload_n 0, 1) := by decide +kernel
theorem dX2_tick_29 : decode cX2_tick 29 = .ok (.getfield 26, 3) := by decide +kernel
theorem dX2_tick_32 : decode cX2_tick 32 = .ok (.iload_n 1, 1) := by decide +kernel
theorem dX2_tick_33 : decode cX2_tick 33 = .ok (.aaload, 1) := by decide +kernel
theorem dX2_tick_34 : decode cX2_tick 34 = .ok (.invokevirtual 89, 3) := by decide +kernel
theorem dX2_tick_37 : decode cX2_tick 37 = .ok (.ifCond .eq 11, 3) := by decide +kernel
theorem dX2_tick_40 : decode cX2_tick 40 = .ok (.aload_n 0, 1) := by decide +kernel
theorem dX2_tick_41 : decode cX2_tick 41 = .ok (.iload_n 1, 1) := by decide +kernel
theorem dX2_tick_42 : decode cX2_tick 42 = .ok (.invokevirtual 92, 3) := by decide +kernel
theorem dX2_tick_45 : decode cX2_tick 45 = .ok (.goto 13, 3) := by decide +kernel
theorem dX2_tick_48 : decode cX2_tick 48 = .ok (.aload_n 0, 1) := by decide +kernel
theorem dX2_tick_49 : decode cX2_tick 49 = .ok (.aload_n 0, 1) := by decide +kernel
theorem dX2_tick_50 : decode cX2_tick 50 = .ok (.getfield 26, 3) := by decide +kernel
theorem dX2_tick_53 : decode cX2_tick 53 = .ok (.iload_n 1, 1) := by decide +kernel
theorem dX2_tick_54 : decode cX2_tick 54 = .ok (.aaload, 1) := by decide +kernel
theorem dX2_tick_55 : decode cX2_tick 55 = .ok (.invokevirtual 96, 3) := by decide +kernel
theorem dX2_tick_58 : decode cX2_tick 58 = .ok (.iconst 1, 1) := by decide +kernel
theorem dX2_tick_59 : decode cX2_tick 59 = .ok (.ireturn, 1) := by decide +kernel
set_option maxRecDepth 20000 in
theorem ggX2_readOrder_X1_fail : GoodIn wsX2_readOrder wsX1_fail := goodIn_r _ [11, 12, 13, 14, 15, 10, 16, 17, 18, 19, 37, 38, 39, 40, 41, 42, 43, 44, 45, 46, 47, 48, 49] (by decide +kernel) (by decide +kernel)
set_option maxRecDepth 20000 in
theorem gX2_readOrder_X1_fail : GoodIn wsX2_readOrder (wsV RX2 102 RX1 yX1_fail wsX1_fail) := goodIn_app (goodIn_of _ (by decide +kernel)) ggX2_readOrder_X1_fail
set_option maxRecDepth 20000 in
theorem ggX2_readOrder_X1_takeOrder : GoodIn wsX2_readOrder wsX1_takeOrder := goodIn_r _ [23, 24, 18, 25, 26, 27, 28, 29, 30, 31, 37, 38, 39, 40, 41, 42, 43, 44, 45, 46, 47, 48, 49] (by decide +kernel) (by decide +kernel)
set_option maxRecDepth 20000 in
theorem gX2_readOrder_X1_takeOrder : GoodIn wsX2_readOrder (wsV RX2 105 RX1 yX1_takeOrder wsX1_takeOrder) := goodIn_app (goodIn_of _ (by decide +kernel)) ggX2_readOrder_X1_takeOrder
set_option maxRecDepth 20000 in
theorem ggX2_readOrder_X1_become : GoodIn wsX2_readOrder wsX1_become := goodIn_r _ [16, 17, 12, 18, 19, 37, 38, 39, 40, 41, 42, 43, 44, 45, 46, 47, 48, 49] (by decide +kernel) (by decide +kernel)
set_option maxRecDepth 20000 in
theorem gX2_readOrder_X1_become : GoodIn wsX2_readOrder (wsV RX2 112 RX1 yX1_become wsX1_become) := goodIn_app (goodIn_of _ (by decide +kernel)) ggX2_readOrder_X1_become
set_option maxRecDepth 20000 in
theorem ggX2_readOrder_X1_goOnAt : GoodIn wsX2_readOrder wsX1_goOnAt := goodIn_r _ [36, 18, 19, 24, 37, 38, 39, 40, 41, 42, 43, 44, 45, 46, 47, 48, 49] (by decide +kernel) (by decide +kernel)
set_option maxRecDepth 20000 in
theorem gX2_readOrder_X1_goOnAt : GoodIn wsX2_readOrder (wsV RX2 121 RX1 yX1_goOnAt wsX1_goOnAt) := goodIn_app (goodIn_of _ (by decide +kernel)) ggX2_readOrder_X1_goOnAt
theorem dX2_readOrder_0 : decode cX2_readOrder 0 = .ok (.aload_n 1, 1) := by decide +kernel
theorem dX2_readOrder_1 : decode cX2_readOrder 1 = .ok (.getfield 99, 3) := by decide +kernel
theorem dX2_readOrder_4 : decode cX2_readOrder 4 = .ok (.bipush 90, 2) := by decide +kernel
theorem dX2_readOrder_6 : decode cX2_readOrder 6 = .ok (.if_icmp .le 9, 3) := by decide +kernel
theorem dX2_readOrder_9 : decode cX2_readOrder 9 = .ok (.aload_n 1, 1) := by decide +kernel
theorem dX2_readOrder_10 : decode cX2_readOrder 10 = .ok (.iconst 1, 1) := by decide +kernel
theorem dX2_readOrder_11 : decode cX2_readOrder 11 = .ok (.invokevirtual 102, 3) := by decide +kernel
theorem dX2_readOrder_14 : decode cX2_readOrder 14 = .ok (.return_, 1) := by decide +kernel
theorem dX2_readOrder_15 : decode cX2_readOrder 15 = .ok (.aload_n 1, 1) := by decide +kernel
theorem dX2_readOrder_16 : decode cX2_readOrder 16 = .ok (.getfield 99, 3) := by decide +kernel
theorem dX2_readOrder_19 : decode cX2_readOrder 19 = .ok (.istore_n 2, 1) := by decide +kernel
theorem dX2_readOrder_20 : decode cX2_readOrder 20 = .ok (.iload_n 2, 1) := by decide +kernel
theorem dX2_readOrder_21 : decode cX2_readOrder 21 = .ok (.aload_n 1, 1) := by decide +kernel
theorem dX2_readOrder_22 : decode cX2_readOrder 22 = .ok (.getfield 99, 3) := by decide +kernel
theorem dX2_readOrder_25 : decode cX2_readOrder 25 = .ok (.bipush 6, 2) := by decide +kernel
theorem dX2_readOrder_27 : decode cX2_readOrder 27 = .ok (.iadd, 1) := by decide +kernel
theorem dX2_readOrder_28 : decode cX2_readOrder 28 = .ok (.if_icmp .ge 16, 3) := by decide +kernel
theorem dX2_readOrder_31 : decode cX2_readOrder 31 = .ok (.aload_n 0, 1) := by decide +kernel
theorem dX2_readOrder_32 : decode cX2_readOrder 32 = .ok (.getfield 18, 3) := by decide +kernel
theorem dX2_readOrder_35 : decode cX2_readOrder 35 = .ok (.iload_n 2, 1) := by decide +kernel
theorem dX2_readOrder_36 : decode cX2_readOrder 36 = .ok (.iconst 1, 1) := by decide +kernel
theorem dX2_readOrder_37 : decode cX2_readOrder 37 = .ok (.iastore, 1) := by decide +kernel
theorem dX2_readOrder_38 : decode cX2_readOrder 38 = .ok (.iinc 2 1, 3) := by decide +kernel
theorem dX2_readOrder_41 : decode cX2_readOrder 41 = .ok (.goto (-21), 3) := by decide +kernel
theorem dX2_readOrder_44 : decode cX2_readOrder 44 = .ok (.aload_n 1, 1) := by decide +kernel
theorem dX2_readOrder_45 : decode cX2_readOrder 45 = .ok (.aload_n 0, 1) := by decide +kernel
theorem dX2_readOrder_46 : decode cX2_readOrder 46 = .ok (.getfield 9, 3) := by decide +kernel
theorem dX2_readOrder_49 : decode cX2_readOrder 49 = .ok (.invokevirtual 105, 3) := by decide +kernel
theorem dX2_readOrder_52 : decode cX2_readOrder 52 = .ok (.aload_n 1, 1) := by decide +kernel
theorem dX2_readOrder_53 : decode cX2_readOrder 53 = .ok (.getfield 109, 3) := by decide +kernel
theorem dX2_readOrder_56 : decode cX2_readOrder 56 = .ok (.ifCond .ne 11, 3) := by decide +kernel
theorem dX2_readOrder_59 : decode cX2_readOrder 59 = .ok (.aload_n 1, 1) := by decide +kernel
theorem dX2_readOrder_60 : decode cX2_readOrder 60 = .ok (.iconst 2, 1) := by decide +kernel
theorem dX2_readOrder_61 : decode cX2_readOrder 61 = .ok (.invokevirtual 112, 3) := by decide +kernel
theorem dX2_readOrder_64 : decode cX2_readOrder 64 = .ok (.goto 44, 3) := by decide +kernel
theorem dX2_readOrder_67 : decode cX2_readOrder 67 = .ok (.aload_n 1, 1) := by decide +kernel
theorem dX2_readOrder_68 : decode cX2_readOrder 68 = .ok (.getfield 109, 3) := by decide +kernel
theorem dX2_readOrder_71 : decode cX2_readOrder 71 = .ok (.bipush 6, 2) := by decide +kernel
theorem dX2_readOrder_73 : decode cX2_readOrder 73 = .ok (.if_icmp .le 11, 3) := by decide +kernel
theorem dX2_readOrder_76 : decode cX2_readOrder 76 = .ok (.aload_n 1, 1) := by decide +kernel
theorem dX2_readOrder_77 : decode cX2_readOrder 77 = .ok (.iconst 2, 1) := by decide +kernel
theorem dX2_readOrder_78 : decode cX2_readOrder 78 = .ok (.invokevirtual 102, 3) := by decide +kernel
theorem dX2_readOrder_81 : decode cX2_readOrder 81 = .ok (.goto 27, 3) := by decide +kernel
theorem dX2_readOrder_84 : decode cX2_readOrder 84 = .ok (.aload_n 1, 1) := by decide +kernel
theorem dX2_readOrder_85 : decode cX2_readOrder 85 = .ok (.getfield 109, 3) := by decide +kernel
theorem dX2_readOrder_88 : decode cX2_readOrder 88 = .ok (.bipush 6, 2) := by decide +kernel
theorem dX2_readOrder_90 : decode cX2_readOrder 90 = .ok (.if_icmp .eq 18, 3) := by decide +kernel
theorem dX2_readOrder_93 : decode cX2_readOrder 93 = .ok (.aload_n 1, 1) := by decide +kernel
theorem dX2_readOrder_94 : decode cX2_readOrder 94 = .ok (.getfield 115, 3) := by decide +kernel
theorem dX2_readOrder_97 : decode cX2_readOrder 97 = .ok (.ifCond .ne 11, 3) := by decide +kernel
theorem dX2_readOrder_100 : decode cX2_readOrder 100 = .ok (.aload_n 1, 1) := by decide +kernel
theorem dX2_readOrder_101 : decode cX2_readOrder 101 = .ok (.aload_n 1, 1) := by decide +kernel
theorem dX2_readOrder_102 : decode cX2_readOrder 102 = .ok (.getfield 118, 3) := by decide +kernel
theorem dX2_readOrder_105 : decode cX2_readOrder 105 = .ok (.invokevirtual 121, 3) := by decide +kernel
theorem dX2_readOrder_108 : decode cX2_readOrder 108 = .ok (.return_, 1) := by decide +kernel
set_option maxRecDepth 20000 in
theorem ggX2_doUnit_X2_choose : GoodIn wsX2_doUnit wsX2_choose := goodIn_r _ [13, 7, 14, 5, 8, 15, 16, 17, 18, 19, 20, 21, 22, 23, 24, 25, 26, 27, 28, 29, 30, 31, 32, 33, 69, 70, 71, 72, 73, 74, 75, 76, 77, 78, 79, 80, 81, 58, 59, 60, 61, 62, 63, 64, 65, 66, 67, 68] (by decide +kernel) (by decide +kernel)
set_option maxRecDepth 20000 in
theorem gX2_doUnit_X2_choose : GoodIn wsX2_doUnit (wsV RX2 124 RX2 yX2_choose wsX2_choose) := goodIn_app (goodIn_of _ (by decide +kernel)) ggX2_doUnit_X2_choose
set_option maxRecDepth 20000 in
theorem ggX2_doUnit_X1_fail : GoodIn wsX2_doUnit wsX1_fail := goodIn_r _ [20, 21, 22, 23, 24, 19, 25, 26, 27, 28, 69, 70, 71, 72, 73, 74, 75, 76, 77, 78, 79, 80, 81] (by decide +kernel) (by decide +kernel)
set_option maxRecDepth 20000 in
theorem gX2_doUnit_X1_fail : GoodIn wsX2_doUnit (wsV RX2 102 RX1 yX1_fail wsX1_fail) := goodIn_app (goodIn_of _ (by decide +kernel)) ggX2_doUnit_X1_fail
set_option maxRecDepth 20000 in
theorem ggX2_doUnit_X2_isForbidden : GoodIn wsX2_doUnit wsX2_isForbidden := goodIn_r _ [37, 1, 2, 38, 39, 40, 12, 41, 42, 58, 59, 60, 61, 62, 63, 64, 65, 66, 67, 68, 69, 70, 71, 72, 73, 74, 75, 76, 77, 78, 79, 80, 81] (by decide +kernel) (by decide +kernel)
set_option maxRecDepth 20000 in
theorem gX2_doUnit_X2_isForbidden : GoodIn wsX2_doUnit (wsV RX2 139 RX2 yX2_isForbidden wsX2_isForbidden) := goodIn_app (goodIn_of _ (by decide +kernel)) ggX2_doUnit_X2_isForbidden
set_option maxRecDepth 20000 in
theorem ggX2_doUnit_X2_writeUnit : GoodIn wsX2_doUnit wsX2_writeUnit := goodIn_r _ [46, 14, 1, 2, 7, 47, 48, 49, 12, 50, 51, 52, 53, 54, 55, 56, 57, 58, 59, 60, 61, 62, 63, 64, 65, 66, 67, 68, 69, 70, 71, 72, 73, 74, 75, 76, 77, 78, 79, 80, 81] (by decide +kernel) (by decide +kernel)
set_option maxRecDepth 20000 in
theorem gX2_doUnit_X2_writeUnit : GoodIn wsX2_doUnit (wsV RX2 143 RX2 yX2_writeUnit wsX2_writeUnit) := goodIn_app (goodIn_of _ (by decide +kernel)) ggX2_doUnit_X2_writeUnit
set_option maxRecDepth 20000 in
theorem ggX2_doUnit_X1_goOnAt : GoodIn wsX2_doUnit wsX1_goOnAt := goodIn_r _ [32, 27, 28, 33, 69, 70, 71, 72, 73, 74, 75, 76, 77, 78, 79, 80, 81] (by decide +kernel) (by decide +kernel)
set_option maxRecDepth 20000 in
theorem gX2_doUnit_X1_goOnAt : GoodIn wsX2_doUnit (wsV RX2 121 RX1 yX1_goOnAt wsX1_goOnAt) := goodIn_app (goodIn_of _ (by decide +kernel)) ggX2_doUnit_X1_goOnAt
theorem dX2_doUnit_0 : decode cX2_doUnit 0 = .ok (.aload_n 0, 1) := by decide +kernel
theorem dX2_doUnit_1 : decode cX2_doUnit 1 = .ok (.getfield 26, 3) := by decide +kernel
theorem dX2_doUnit_4 : decode cX2_doUnit 4 = .ok (.iload_n 1, 1) := by decide +kernel
theorem dX2_doUnit_5 : decode cX2_doUnit 5 = .ok (.aaload, 1) := by decide +kernel
theorem dX2_doUnit_6 : decode cX2_doUnit 6 = .ok (.astore_n 2, 1) := by decide +kernel
theorem dX2_doUnit_7 : decode cX2_doUnit 7 = .ok (.aload_n 2, 1) := by decide +kernel
theorem dX2_doUnit_8 : decode cX2_doUnit 8 = .ok (.getfield 109, 3) := by decide +kernel
theorem dX2_doUnit_11 : decode cX2_doUnit 11 = .ok (.bipush 6, 2) := by decide +kernel
theorem dX2_doUnit_13 : decode cX2_doUnit 13 = .ok (.if_icmp .ne 9, 3) := by decide +kernel
theorem dX2_doUnit_16 : decode cX2_doUnit 16 = .ok (.aload_n 0, 1) := by decide +kernel
theorem dX2_doUnit_17 : decode cX2_doUnit 17 = .ok (.aload_n 2, 1) := by decide +kernel
theorem dX2_doUnit_18 : decode cX2_doUnit 18 = .ok (.invokevirtual 124, 3) := by decide +kernel
theorem dX2_doUnit_21 : decode cX2_doUnit 21 = .ok (.return_, 1) := by decide +kernel
theorem dX2_doUnit_22 : decode cX2_doUnit 22 = .ok (.aload_n 2, 1) := by decide +kernel
theorem dX2_doUnit_23 : decode cX2_doUnit 23 = .ok (.getfield 109, 3) := by decide +kernel
theorem dX2_doUnit_26 : decode cX2_doUnit 26 = .ok (.iconst 3, 1) := by decide +kernel
theorem dX2_doUnit_27 : decode cX2_doUnit 27 = .ok (.if_icmp .eq 11, 3) := by decide +kernel
theorem dX2_doUnit_30 : decode cX2_doUnit 30 = .ok (.aload_n 2, 1) := by decide +kernel
theorem dX2_doUnit_31 : decode cX2_doUnit 31 = .ok (.getfield 109, 3) := by decide +kernel
theorem dX2_doUnit_34 : decode cX2_doUnit 34 = .ok (.iconst 4, 1) := by decide +kernel
theorem dX2_doUnit_35 : decode cX2_doUnit 35 = .ok (.if_icmp .ne 7, 3) := by decide +kernel
theorem dX2_doUnit_38 : decode cX2_doUnit 38 = .ok (.iconst 1, 1) := by decide +kernel
theorem dX2_doUnit_39 : decode cX2_doUnit 39 = .ok (.goto 4, 3) := by decide +kernel
theorem dX2_doUnit_42 : decode cX2_doUnit 42 = .ok (.iconst 0, 1) := by decide +kernel
theorem dX2_doUnit_43 : decode cX2_doUnit 43 = .ok (.istore_n 3, 1) := by decide +kernel
theorem dX2_doUnit_44 : decode cX2_doUnit 44 = .ok (.aload_n 2, 1) := by decide +kernel
theorem dX2_doUnit_45 : decode cX2_doUnit 45 = .ok (.getfield 109, 3) := by decide +kernel
theorem dX2_doUnit_48 : decode cX2_doUnit 48 = .ok (.iconst 2, 1) := by decide +kernel
theorem dX2_doUnit_49 : decode cX2_doUnit 49 = .ok (.if_icmp .ne 17, 3) := by decide +kernel
theorem dX2_doUnit_52 : decode cX2_doUnit 52 = .ok (.aload_n 2, 1) := by decide +kernel
theorem dX2_doUnit_53 : decode cX2_doUnit 53 = .ok (.getfield 115, 3) := by decide +kernel
theorem dX2_doUnit_56 : decode cX2_doUnit 56 = .ok (.iconst 1, 1) := by decide +kernel
theorem dX2_doUnit_57 : decode cX2_doUnit 57 = .ok (.isub, 1) := by decide +kernel
theorem dX2_doUnit_58 : decode cX2_doUnit 58 = .ok (.aload_n 2, 1) := by decide +kernel
theorem dX2_doUnit_59 : decode cX2_doUnit 59 = .ok (.getfield 127, 3) := by decide +kernel
theorem dX2_doUnit_62 : decode cX2_doUnit 62 = .ok (.isub, 1) := by decide +kernel
theorem dX2_doUnit_63 : decode cX2_doUnit 63 = .ok (.goto 7, 3) := by decide +kernel
theorem dX2_doUnit_66 : decode cX2_doUnit 66 = .ok (.aload_n 2, 1) := by decide +kernel
theorem dX2_doUnit_67 : decode cX2_doUnit 67 = .ok (.getfield 127, 3) := by decide +kernel
theorem dX2_doUnit_70 : decode cX2_doUnit 70 = .ok (.istore 4, 2) := by decide +kernel
theorem dX2_doUnit_72 : decode cX2_doUnit 72 = .ok (.aload_n 2, 1) := by decide +kernel
theorem dX2_doUnit_73 : decode cX2_doUnit 73 = .ok (.getfield 130, 3) := by decide +kernel
theorem dX2_doUnit_76 : decode cX2_doUnit 76 = .ok (.iload_n 3, 1) := by decide +kernel
theorem dX2_doUnit_77 : decode cX2_doUnit 77 = .ok (.ifCond .eq 13, 3) := by decide +kernel
theorem dX2_doUnit_80 : decode cX2_doUnit 80 = .ok (.iload 4, 2) := by decide +kernel
theorem dX2_doUnit_82 : decode cX2_doUnit 82 = .ok (.aload_n 2, 1) := by decide +kernel
theorem dX2_doUnit_83 : decode cX2_doUnit 83 = .ok (.getfield 133, 3) := by decide +kernel
theorem dX2_doUnit_86 : decode cX2_doUnit 86 = .ok (.imul, 1) := by decide +kernel
theorem dX2_doUnit_87 : decode cX2_doUnit 87 = .ok (.goto 5, 3) := by decide +kernel
theorem dX2_doUnit_90 : decode cX2_doUnit 90 = .ok (.iload 4, 2) := by decide +kernel
theorem dX2_doUnit_92 : decode cX2_doUnit 92 = .ok (.iadd, 1) := by decide +kernel
theorem dX2_doUnit_93 : decode cX2_doUnit 93 = .ok (.istore 5, 2) := by decide +kernel
theorem dX2_doUnit_95 : decode cX2_doUnit 95 = .ok (.iload_n 3, 1) := by decide +kernel
theorem dX2_doUnit_96 : decode cX2_doUnit 96 = .ok (.ifCond .eq 8, 3) := by decide +kernel
theorem dX2_doUnit_99 : decode cX2_doUnit 99 = .ok (.iload 5, 2) := by decide +kernel
theorem dX2_doUnit_101 : decode cX2_doUnit 101 = .ok (.goto 10, 3) := by decide +kernel
theorem dX2_doUnit_104 : decode cX2_doUnit 104 = .ok (.aload_n 2, 1) := by decide +kernel
theorem dX2_doUnit_105 : decode cX2_doUnit 105 = .ok (.getfield 136, 3) := by decide +kernel
theorem dX2_doUnit_108 : decode cX2_doUnit 108 = .ok (.iload 4, 2) := by decide +kernel
theorem dX2_doUnit_110 : decode cX2_doUnit 110 = .ok (.iadd, 1) := by decide +kernel
theorem dX2_doUnit_111 : decode cX2_doUnit 111 = .ok (.istore 6, 2) := by decide +kernel
theorem dX2_doUnit_113 : decode cX2_doUnit 113 = .ok (.iload 6, 2) := by decide +kernel
theorem dX2_doUnit_115 : decode cX2_doUnit 115 = .ok (.bipush 96, 2) := by decide +kernel
theorem dX2_doUnit_117 : decode cX2_doUnit 117 = .ok (.if_icmp .ge 10, 3) := by decide +kernel
theorem dX2_doUnit_120 : decode cX2_doUnit 120 = .ok (.iload 5, 2) := by decide +kernel
theorem dX2_doUnit_122 : decode cX2_doUnit 122 = .ok (.bipush 96, 2) := by decide +kernel
theorem dX2_doUnit_124 : decode cX2_doUnit 124 = .ok (.if_icmp .lt 9, 3) := by decide +kernel
theorem dX2_doUnit_127 : decode cX2_doUnit 127 = .ok (.aload_n 2, 1) := by decide +kernel
theorem dX2_doUnit_128 : decode cX2_doUnit 128 = .ok (.iconst 3, 1) := by decide +kernel
theorem dX2_doUnit_129 : decode cX2_doUnit 129 = .ok (.invokevirtual 102, 3) := by decide +kernel
theorem dX2_doUnit_132 : decode cX2_doUnit 132 = .ok (.return_, 1) := by decide +kernel
theorem dX2_doUnit_133 : decode cX2_doUnit 133 = .ok (.aload_n 0, 1) := by decide +kernel
theorem dX2_doUnit_134 : decode cX2_doUnit 134 = .ok (.iload_n 1, 1) := by decide +kernel
theorem dX2_doUnit_135 : decode cX2_doUnit 135 = .ok (.iload 6, 2) := by decide +kernel
theorem dX2_doUnit_137 : decode cX2_doUnit 137 = .ok (.iload 5, 2) := by decide +kernel
theorem dX2_doUnit_139 : decode cX2_doUnit 139 = .ok (.invokevirtual 139, 3) := by decide +kernel
theorem dX2_doUnit_142 : decode cX2_doUnit 142 = .ok (.ifCond .eq 9, 3) := by decide +kernel
theorem dX2_doUnit_145 : decode cX2_doUnit 145 = .ok (.aload_n 2, 1) := by decide +kernel
theorem dX2_doUnit_146 : decode cX2_doUnit 146 = .ok (.iconst 4, 1) := by decide +kernel
theorem dX2_doUnit_147 : decode cX2_doUnit 147 = .ok (.invokevirtual 102, 3) := by decide +kernel
theorem dX2_doUnit_150 : decode cX2_doUnit 150 = .ok (.return_, 1) := by decide +kernel
theorem dX2_doUnit_151 : decode cX2_doUnit 151 = .ok (.aload_n 0, 1) := by decide +kernel
theorem dX2_doUnit_152 : decode cX2_doUnit 152 = .ok (.iload_n 1, 1) := by decide +kernel
theorem dX2_doUnit_153 : decode cX2_doUnit 153 = .ok (.iload 6, 2) := by decide +kernel
theorem dX2_doUnit_155 : decode cX2_doUnit 155 = .ok (.iload 5, 2) := by decide +kernel
theorem dX2_doUnit_157 : decode cX2_doUnit 157 = .ok (.invokevirtual 143, 3) := by decide +kernel
theorem dX2_doUnit_160 : decode cX2_doUnit 160 = .ok (.aload_n 2, 1) := by decide +kernel
theorem dX2_doUnit_161 : decode cX2_doUnit 161 = .ok (.dup, 1) := by decide +kernel
theorem dX2_doUnit_162 : decode cX2_doUnit 162 = .ok (.getfield 127, 3) := by decide +kernel
theorem dX2_doUnit_165 : decode cX2_doUnit 165 = .ok (.iconst 1, 1) := by decide +kernel
theorem dX2_doUnit_166 : decode cX2_doUnit 166 = .ok (.iadd, 1) := by decide +kernel
theorem dX2_doUnit_167 : decode cX2_doUnit 167 = .ok (.putfield 127, 3) := by decide +kernel
theorem dX2_doUnit_170 : decode cX2_doUnit 170 = .ok (.aload_n 2, 1) := by decide +kernel
theorem dX2_doUnit_171 : decode cX2_doUnit 171 = .ok (.getfield 127, 3) := by decide +kernel
theorem dX2_doUnit_174 : decode cX2_doUnit 174 = .ok (.aload_n 2, 1) := by decide +kernel
theorem dX2_doUnit_175 : decode cX2_doUnit 175 = .ok (.getfield 115, 3) := by decide +kernel
theorem dX2_doUnit_178 : decode cX2_doUnit 178 = .ok (.if_icmp .lt 11, 3) := by decide +kernel
theorem dX2_doUnit_181 : decode cX2_doUnit 181 = .ok (.aload_n 2, 1) := by decide +kernel
theorem dX2_doUnit_182 : decode cX2_doUnit 182 = .ok (.aload_n 2, 1) := by decide +kernel
theorem dX2_doUnit_183 : decode cX2_doUnit 183 = .ok (.getfield 118, 3) := by decide +kernel
theorem dX2_doUnit_186 : decode cX2_doUnit 186 = .ok (.invokevirtual 121, 3) := by decide +kernel
theorem dX2_doUnit_189 : decode cX2_doUnit 189 = .ok (.return_, 1) := by decide +kernel
set_option maxRecDepth 20000 in
theorem ggX2_choose_X1_fail : GoodIn wsX2_choose wsX1_fail := goodIn_r _ [10, 11, 12, 13, 14, 9, 15, 16, 17, 18, 24, 25, 26, 27, 28, 29, 30, 31, 32, 33, 34, 35, 36] (by decide +kernel) (by decide +kernel)
set_option maxRecDepth 20000 in
theorem gX2_choose_X1_fail : GoodIn wsX2_choose (wsV RX2 102 RX1 yX1_fail wsX1_fail) := goodIn_app (goodIn_of _ (by decide +kernel)) ggX2_choose_X1_fail
set_option maxRecDepth 20000 in
theorem ggX2_choose_X1_goOnAt : GoodIn wsX2_choose wsX1_goOnAt := goodIn_r _ [22, 17, 18, 23, 24, 25, 26, 27, 28, 29, 30, 31, 32, 33, 34, 35, 36] (by decide +kernel) (by decide +kernel)
set_option maxRecDepth 20000 in
theorem gX2_choose_X1_goOnAt : GoodIn wsX2_choose (wsV RX2 121 RX1 yX1_goOnAt wsX1_goOnAt) := goodIn_app (goodIn_of _ (by decide +kernel)) ggX2_choose_X1_goOnAt
theorem dX2_choose_0 : decode cX2_choose 0 = .ok (.aload_n 1, 1) := by decide +kernel
theorem dX2_choose_1 : decode cX2_choose 1 = .ok (.getfield 136, 3) := by decide +kernel
theorem dX2_choose_4 : decode cX2_choose 4 = .ok (.bipush 96, 2) := by decide +kernel
theorem dX2_choose_6 : decode cX2_choose 6 = .ok (.if_icmp .lt 9, 3) := by decide +kernel
theorem dX2_choose_9 : decode cX2_choose 9 = .ok (.aload_n 1, 1) := by decide +kernel
theorem dX2_choose_10 : decode cX2_choose 10 = .ok (.iconst 3, 1) := by decide +kernel
theorem dX2_choose_11 : decode cX2_choose 11 = .ok (.invokevirtual 102, 3) := by decide +kernel
theorem dX2_choose_14 : decode cX2_choose 14 = .ok (.return_, 1) := by decide +kernel
theorem dX2_choose_15 : decode cX2_choose 15 = .ok (.aload_n 0, 1) := by decide +kernel
theorem dX2_choose_16 : decode cX2_choose 16 = .ok (.getfield 9, 3) := by decide +kernel
theorem dX2_choose_19 : decode cX2_choose 19 = .ok (.aload_n 1, 1) := by decide +kernel
theorem dX2_choose_20 : decode cX2_choose 20 = .ok (.getfield 136, 3) := by decide +kernel
theorem dX2_choose_23 : decode cX2_choose 23 = .ok (.iaload, 1) := by decide +kernel
theorem dX2_choose_24 : decode cX2_choose 24 = .ok (.aload_n 1, 1) := by decide +kernel
theorem dX2_choose_25 : decode cX2_choose 25 = .ok (.getfield 130, 3) := by decide +kernel
theorem dX2_choose_28 : decode cX2_choose 28 = .ok (.if_icmp .ne 7, 3) := by decide +kernel
theorem dX2_choose_31 : decode cX2_choose 31 = .ok (.iconst 1, 1) := by decide +kernel
theorem dX2_choose_32 : decode cX2_choose 32 = .ok (.goto 4, 3) := by decide +kernel
theorem dX2_choose_35 : decode cX2_choose 35 = .ok (.iconst 0, 1) := by decide +kernel
theorem dX2_choose_36 : decode cX2_choose 36 = .ok (.istore_n 2, 1) := by decide +kernel
theorem dX2_choose_37 : decode cX2_choose 37 = .ok (.aload_n 1, 1) := by decide +kernel
theorem dX2_choose_38 : decode cX2_choose 38 = .ok (.iload_n 2, 1) := by decide +kernel
theorem dX2_choose_39 : decode cX2_choose 39 = .ok (.ifCond .eq 10, 3) := by decide +kernel
theorem dX2_choose_42 : decode cX2_choose 42 = .ok (.aload_n 1, 1) := by decide +kernel
theorem dX2_choose_43 : decode cX2_choose 43 = .ok (.getfield 118, 3) := by decide +kernel
theorem dX2_choose_46 : decode cX2_choose 46 = .ok (.goto 10, 3) := by decide +kernel
theorem dX2_choose_49 : decode cX2_choose 49 = .ok (.aload_n 1, 1) := by decide +kernel
theorem dX2_choose_50 : decode cX2_choose 50 = .ok (.getfield 147, 3) := by decide +kernel
theorem dX2_choose_53 : decode cX2_choose 53 = .ok (.bipush 6, 2) := by decide +kernel
theorem dX2_choose_55 : decode cX2_choose 55 = .ok (.iadd, 1) := by decide +kernel
theorem dX2_choose_56 : decode cX2_choose 56 = .ok (.invokevirtual 121, 3) := by decide +kernel
theorem dX2_choose_59 : decode cX2_choose 59 = .ok (.return_, 1) := by decide +kernel
set_option maxRecDepth 20000 in
theorem ggX2_isForbidden_X2_isForeign : GoodIn wsX2_isForbidden wsX2_isForeign := goodIn_r _ [7, 8, 9, 10, 11, 12, 13, 14, 15, 16, 17, 18, 19] (by decide +kernel) (by decide +kernel)
set_option maxRecDepth 20000 in
theorem gX2_isForbidden_X2_isForeign : GoodIn wsX2_isForbidden (wsV RX2 150 RX2 yX2_isForeign wsX2_isForeign) := goodIn_app (goodIn_of _ (by decide +kernel)) ggX2_isForbidden_X2_isForeign
theorem dX2_isForbidden_0 : decode cX2_isForbidden 0 = .ok (.aload_n 0, 1) := by decide +kernel
theorem dX2_isForbidden_1 : decode cX2_isForbidden 1 = .ok (.getfield 26, 3) := by decide +kernel
theorem dX2_isForbidden_4 : decode cX2_isForbidden 4 = .ok (.iload_n 1, 1) := by decide +kernel
theorem dX2_isForbidden_5 : decode cX2_isForbidden 5 = .ok (.aaload, 1) := by decide +kernel
theorem dX2_isForbidden_6 : decode cX2_isForbidden 6 = .ok (.getfield 109, 3) := by decide +kernel
theorem dX2_isForbidden_9 : decode cX2_isForbidden 9 = .ok (.iconst 5, 1) := by decide +kernel
theorem dX2_isForbidden_10 : decode cX2_isForbidden 10 = .ok (.if_icmp .eq 10, 3) := by decide +kernel
theorem dX2_isForbidden_13 : decode cX2_isForbidden 13 = .ok (.aload_n 0, 1) := by decide +kernel
theorem dX2_isForbidden_14 : decode cX2_isForbidden 14 = .ok (.iload_n 1, 1) := by decide +kernel
theorem dX2_isForbidden_15 : decode cX2_isForbidden 15 = .ok (.iload_n 3, 1) := by decide +kernel
theorem dX2_isForbidden_16 : decode cX2_isForbidden 16 = .ok (.invokevirtual 150, 3) := by decide +kernel
theorem dX2_isForbidden_19 : decode cX2_isForbidden 19 = .ok (.ireturn, 1) := by decide +kernel
theorem dX2_isForbidden_20 : decode cX2_isForbidden 20 = .ok (.iload_n 2, 1) := by decide +kernel
theorem dX2_isForbidden_21 : decode cX2_isForbidden 21 = .ok (.iload_n 3, 1) := by decide +kernel
theorem dX2_isForbidden_22 : decode cX2_isForbidden 22 = .ok (.if_icmp .eq 25, 3) := by decide +kernel
theorem dX2_isForbidden_25 : decode cX2_isForbidden 25 = .ok (.aload_n 0, 1) := by decide +kernel
theorem dX2_isForbidden_26 : decode cX2_isForbidden 26 = .ok (.iload_n 1, 1) := by decide +kernel
theorem dX2_isForbidden_27 : decode cX2_isForbidden 27 = .ok (.iload_n 2, 1) := by decide +kernel
theorem dX2_isForbidden_28 : decode cX2_isForbidden 28 = .ok (.invokevirtual 150, 3) := by decide +kernel
theorem dX2_isForbidden_31 : decode cX2_isForbidden 31 = .ok (.ifCond .ne 12, 3) := by decide +kernel
theorem dX2_isForbidden_34 : decode cX2_isForbidden 34 = .ok (.aload_n 0, 1) := by decide +kernel
theorem dX2_isForbidden_35 : decode cX2_isForbidden 35 = .ok (.iload_n 1, 1) := by decide +kernel
theorem dX2_isForbidden_36 : decode cX2_isForbidden 36 = .ok (.iload_n 3, 1) := by decide +kernel
theorem dX2_isForbidden_37 : decode cX2_isForbidden 37 = .ok (.invokevirtual 150, 3) := by decide +kernel
theorem dX2_isForbidden_40 : decode cX2_isForbidden 40 = .ok (.ifCond .eq 7, 3) := by decide +kernel
theorem dX2_isForbidden_43 : decode cX2_isForbidden 43 = .ok (.iconst 1, 1) := by decide +kernel
theorem dX2_isForbidden_44 : decode cX2_isForbidden 44 = .ok (.goto 4, 3) := by decide +kernel
theorem dX2_isForbidden_47 : decode cX2_isForbidden 47 = .ok (.iconst 0, 1) := by decide +kernel
theorem dX2_isForbidden_48 : decode cX2_isForbidden 48 = .ok (.ireturn, 1) := by decide +kernel
theorem dX2_isForeign_0 : decode cX2_isForeign 0 = .ok (.aload_n 0, 1) := by decide +kernel
theorem dX2_isForeign_1 : decode cX2_isForeign 1 = .ok (.getfield 15, 3) := by decide +kernel
theorem dX2_isForeign_4 : decode cX2_isForeign 4 = .ok (.iload_n 2, 1) := by decide +kernel
theorem dX2_isForeign_5 : decode cX2_isForeign 5 = .ok (.iaload, 1) := by decide +kernel
theorem dX2_isForeign_6 : decode cX2_isForeign 6 = .ok (.ifCond .eq 19, 3) := by decide +kernel
theorem dX2_isForeign_9 : decode cX2_isForeign 9 = .ok (.aload_n 0, 1) := by decide +kernel
theorem dX2_isForeign_10 : decode cX2_isForeign 10 = .ok (.getfield 15, 3) := by decide +kernel
theorem dX2_isForeign_13 : decode cX2_isForeign 13 = .ok (.iload_n 2, 1) := by decide +kernel
theorem dX2_isForeign_14 : decode cX2_isForeign 14 = .ok (.iaload, 1) := by decide +kernel
theorem dX2_isForeign_15 : decode cX2_isForeign 15 = .ok (.iload_n 1, 1) := by decide +kernel
theorem dX2_isForeign_16 : decode cX2_isForeign 16 = .ok (.iconst 1, 1) := by decide +kernel
theorem dX2_isForeign_17 : decode cX2_isForeign 17 = .ok (.iadd, 1) := by decide +kernel
theorem dX2_isForeign_18 : decode cX2_isForeign 18 = .ok (.if_icmp .eq 7, 3) := by decide +kernel
theorem dX2_isForeign_21 : decode cX2_isForeign 21 = .ok (.iconst 1, 1) := by decide +kernel
theorem dX2_isForeign_22 : decode cX2_isForeign 22 = .ok (.goto 4, 3) := by decide +kernel
theorem dX2_isForeign_25 : decode cX2_isForeign 25 = .ok (.iconst 0, 1) := by decide +kernel
theorem dX2_isForeign_26 : decode cX2_isForeign 26 = .ok (.ireturn, 1) := by decide +kernel
set_option maxRecDepth 20000 in
theorem ggX2_writeUnit_X2_write : GoodIn wsX2_writeUnit wsX2_write := goodIn_r _ [9, 10, 11, 12, 1, 13, 14, 15, 2, 16, 17, 18, 19, 20, 21, 22, 23, 24, 25, 26, 27, 28, 29, 30, 31, 32, 33, 34, 35, 36, 37, 38, 39, 40] (by decide +kernel) (by decide +kernel)
set_option maxRecDepth 20000 in
theorem gX2_writeUnit_X2_write : GoodIn wsX2_writeUnit (wsV RX2 154 RX2 yX2_write wsX2_write) := goodIn_app (goodIn_of _ (by decide +kernel)) ggX2_writeUnit_X2_write
theorem dX2_writeUnit_0 : decode cX2_writeUnit 0 = .ok (.aload_n 0, 1) := by decide +kernel
theorem dX2_writeUnit_1 : decode cX2_writeUnit 1 = .ok (.getfield 9, 3) := by decide +kernel
theorem dX2_writeUnit_4 : decode cX2_writeUnit 4 = .ok (.iload_n 2, 1) := by decide +kernel
theorem dX2_writeUnit_5 : decode cX2_writeUnit 5 = .ok (.iaload, 1) := by decide +kernel
theorem dX2_writeUnit_6 : decode cX2_writeUnit 6 = .ok (.istore 4, 2) := by decide +kernel
theorem dX2_writeUnit_8 : decode cX2_writeUnit 8 = .ok (.aload_n 0, 1) := by decide +kernel
theorem dX2_writeUnit_9 : decode cX2_writeUnit 9 = .ok (.getfield 9, 3) := by decide +kernel
theorem dX2_writeUnit_12 : decode cX2_writeUnit 12 = .ok (.iload_n 3, 1) := by decide +kernel
theorem dX2_writeUnit_13 : decode cX2_writeUnit 13 = .ok (.iaload, 1) := by decide +kernel
theorem dX2_writeUnit_14 : decode cX2_writeUnit 14 = .ok (.istore 5, 2) := by decide +kernel
theorem dX2_writeUnit_16 : decode cX2_writeUnit 16 = .ok (.aload_n 0, 1) := by decide +kernel
theorem dX2_writeUnit_17 : decode cX2_writeUnit 17 = .ok (.getfield 26, 3) := by decide +kernel
theorem dX2_writeUnit_20 : decode cX2_writeUnit 20 = .ok (.iload_n 1, 1) := by decide +kernel
theorem dX2_writeUnit_21 : decode cX2_writeUnit 21 = .ok (.aaload, 1) := by decide +kernel
theorem dX2_writeUnit_22 : decode cX2_writeUnit 22 = .ok (.getfield 109, 3) := by decide +kernel
theorem dX2_writeUnit_25 : decode cX2_writeUnit 25 = .ok (.tableswitch 84 1 4 #[73, 73, 31, 49], 31) := by decide +kernel
theorem dX2_writeUnit_56 : decode cX2_writeUnit 56 = .ok (.aload_n 0, 1) := by decide +kernel
theorem dX2_writeUnit_57 : decode cX2_writeUnit 57 = .ok (.iload_n 1, 1) := by decide +kernel
theorem dX2_writeUnit_58 : decode cX2_writeUnit 58 = .ok (.iload_n 3, 1) := by decide +kernel
theorem dX2_writeUnit_59 : decode cX2_writeUnit 59 = .ok (.aload_n 0, 1) := by decide +kernel
theorem dX2_writeUnit_60 : decode cX2_writeUnit 60 = .ok (.getfield 26, 3) := by decide +kernel
theorem dX2_writeUnit_63 : decode cX2_writeUnit 63 = .ok (.iload_n 1, 1) := by decide +kernel
theorem dX2_writeUnit_64 : decode cX2_writeUnit 64 = .ok (.aaload, 1) := by decide +kernel
theorem dX2_writeUnit_65 : decode cX2_writeUnit 65 = .ok (.getfield 136, 3) := by decide +kernel
theorem dX2_writeUnit_68 : decode cX2_writeUnit 68 = .ok (.invokevirtual 154, 3) := by decide +kernel
theorem dX2_writeUnit_71 : decode cX2_writeUnit 71 = .ok (.goto 59, 3) := by decide +kernel
theorem dX2_writeUnit_74 : decode cX2_writeUnit 74 = .ok (.aload_n 0, 1) := by decide +kernel
theorem dX2_writeUnit_75 : decode cX2_writeUnit 75 = .ok (.iload_n 1, 1) := by decide +kernel
theorem dX2_writeUnit_76 : decode cX2_writeUnit 76 = .ok (.iload_n 3, 1) := by decide +kernel
theorem dX2_writeUnit_77 : decode cX2_writeUnit 77 = .ok (.iload 5, 2) := by decide +kernel
theorem dX2_writeUnit_79 : decode cX2_writeUnit 79 = .ok (.aload_n 0, 1) := by decide +kernel
theorem dX2_writeUnit_80 : decode cX2_writeUnit 80 = .ok (.getfield 26, 3) := by decide +kernel
theorem dX2_writeUnit_83 : decode cX2_writeUnit 83 = .ok (.iload_n 1, 1) := by decide +kernel
theorem dX2_writeUnit_84 : decode cX2_writeUnit 84 = .ok (.aaload, 1) := by decide +kernel
theorem dX2_writeUnit_85 : decode cX2_writeUnit 85 = .ok (.getfield 136, 3) := by decide +kernel
theorem dX2_writeUnit_88 : decode cX2_writeUnit 88 = .ok (.iadd, 1) := by decide +kernel
theorem dX2_writeUnit_89 : decode cX2_writeUnit 89 = .ok (.bipush 100, 2) := by decide +kernel
theorem dX2_writeUnit_91 : decode cX2_writeUnit 91 = .ok (.irem, 1) := by decide +kernel
theorem dX2_writeUnit_92 : decode cX2_writeUnit 92 = .ok (.invokevirtual 154, 3) := by decide +kernel
theorem dX2_writeUnit_95 : decode cX2_writeUnit 95 = .ok (.goto 35, 3) := by decide +kernel
theorem dX2_writeUnit_98 : decode cX2_writeUnit 98 = .ok (.aload_n 0, 1) := by decide +kernel
theorem dX2_writeUnit_99 : decode cX2_writeUnit 99 = .ok (.iload_n 1, 1) := by decide +kernel
theorem dX2_writeUnit_100 : decode cX2_writeUnit 100 = .ok (.iload_n 3, 1) := by decide +kernel
theorem dX2_writeUnit_101 : decode cX2_writeUnit 101 = .ok (.iload 4, 2) := by decide +kernel
theorem dX2_writeUnit_103 : decode cX2_writeUnit 103 = .ok (.invokevirtual 154, 3) := by decide +kernel
theorem dX2_writeUnit_106 : decode cX2_writeUnit 106 = .ok (.goto 24, 3) := by decide +kernel
theorem dX2_writeUnit_109 : decode cX2_writeUnit 109 = .ok (.iload_n 2, 1) := by decide +kernel
theorem dX2_writeUnit_110 : decode cX2_writeUnit 110 = .ok (.iload_n 3, 1) := by decide +kernel
theorem dX2_writeUnit_111 : decode cX2_writeUnit 111 = .ok (.if_icmp .eq 19, 3) := by decide +kernel
theorem dX2_writeUnit_114 : decode cX2_writeUnit 114 = .ok (.aload_n 0, 1) := by decide +kernel
theorem dX2_writeUnit_115 : decode cX2_writeUnit 115 = .ok (.iload_n 1, 1) := by decide +kernel
theorem dX2_writeUnit_116 : decode cX2_writeUnit 116 = .ok (.iload_n 2, 1) := by decide +kernel
theorem dX2_writeUnit_117 : decode cX2_writeUnit 117 = .ok (.iload 5, 2) := by decide +kernel
theorem dX2_writeUnit_119 : decode cX2_writeUnit 119 = .ok (.invokevirtual 154, 3) := by decide +kernel
theorem dX2_writeUnit_122 : decode cX2_writeUnit 122 = .ok (.aload_n 0, 1) := by decide +kernel
theorem dX2_writeUnit_123 : decode cX2_writeUnit 123 = .ok (.iload_n 1, 1) := by decide +kernel
theorem dX2_writeUnit_124 : decode cX2_writeUnit 124 = .ok (.iload_n 3, 1) := by decide +kernel
theorem dX2_writeUnit_125 : decode cX2_writeUnit 125 = .ok (.iload 4, 2) := by decide +kernel
theorem dX2_writeUnit_127 : decode cX2_writeUnit 127 = .ok (.invokevirtual 154, 3) := by decide +kernel
theorem dX2_writeUnit_130 : decode cX2_writeUnit 130 = .ok (.return_, 1) := by decide +kernel
theorem dX2_write_0 : decode cX2_write 0 = .ok (.aload_n 0, 1) := by decide +kernel
theorem dX2_write_1 : decode cX2_write 1 = .ok (.getfield 18, 3) := by decide +kernel
theorem dX2_write_4 : decode cX2_write 4 = .ok (.iload_n 2, 1) := by decide +kernel
theorem dX2_write_5 : decode cX2_write 5 = .ok (.iaload, 1) := by decide +kernel
theorem dX2_write_6 : decode cX2_write 6 = .ok (.iconst 1, 1) := by decide +kernel
theorem dX2_write_7 : decode cX2_write 7 = .ok (.if_icmp .ne 32, 3) := by decide +kernel
theorem dX2_write_10 : decode cX2_write 10 = .ok (.aload_n 0, 1) := by decide +kernel
theorem dX2_write_11 : decode cX2_write 11 = .ok (.dup, 1) := by decide +kernel
theorem dX2_write_12 : decode cX2_write 12 = .ok (.getfield 37, 3) := by decide +kernel
theorem dX2_write_15 : decode cX2_write 15 = .ok (.iconst 1, 1) := by decide +kernel
theorem dX2_write_16 : decode cX2_write 16 = .ok (.iadd, 1) := by decide +kernel
theorem dX2_write_17 : decode cX2_write 17 = .ok (.putfield 37, 3) := by decide +kernel
theorem dX2_write_20 : decode cX2_write 20 = .ok (.aload_n 0, 1) := by decide +kernel
theorem dX2_write_21 : decode cX2_write 21 = .ok (.getfield 46, 3) := by decide +kernel
theorem dX2_write_24 : decode cX2_write 24 = .ok (.bipush (-9), 2) := by decide +kernel
theorem dX2_write_26 : decode cX2_write 26 = .ok (.if_icmp .ne 13, 3) := by decide +kernel
theorem dX2_write_29 : decode cX2_write 29 = .ok (.aload_n 0, 1) := by decide +kernel
theorem dX2_write_30 : decode cX2_write 30 = .ok (.bipush 100, 2) := by decide +kernel
theorem dX2_write_32 : decode cX2_write 32 = .ok (.iload_n 1, 1) := by decide +kernel
theorem dX2_write_33 : decode cX2_write 33 = .ok (.imul, 1) := by decide +kernel
theorem dX2_write_34 : decode cX2_write 34 = .ok (.iload_n 2, 1) := by decide +kernel
theorem dX2_write_35 : decode cX2_write 35 = .ok (.iadd, 1) := by decide +kernel
theorem dX2_write_36 : decode cX2_write 36 = .ok (.putfield 46, 3) := by decide +kernel
theorem dX2_write_39 : decode cX2_write 39 = .ok (.aload_n 0, 1) := by decide +kernel
theorem dX2_write_40 : decode cX2_write 40 = .ok (.getfield 9, 3) := by decide +kernel
theorem dX2_write_43 : decode cX2_write 43 = .ok (.iload_n 2, 1) := by decide +kernel
theorem dX2_write_44 : decode cX2_write 44 = .ok (.iload_n 3, 1) := by decide +kernel
theorem dX2_write_45 : decode cX2_write 45 = .ok (.iastore, 1) := by decide +kernel
theorem dX2_write_46 : decode cX2_write 46 = .ok (.aload_n 0, 1) := by decide +kernel
theorem dX2_write_47 : decode cX2_write 47 = .ok (.getfield 21, 3) := by decide +kernel
theorem dX2_write_50 : decode cX2_write 50 = .ok (.iload_n 2, 1) := by decide +kernel
theorem dX2_write_51 : decode cX2_write 51 = .ok (.iload_n 1, 1) := by decide +kernel
theorem dX2_write_52 : decode cX2_write 52 = .ok (.iastore, 1) := by decide +kernel
theorem dX2_write_53 : decode cX2_write 53 = .ok (.aload_n 0, 1) := by decide +kernel
theorem dX2_write_54 : decode cX2_write 54 = .ok (.getfield 43, 3) := by decide +kernel
theorem dX2_write_57 : decode cX2_write 57 = .ok (.iload_n 2, 1) := by decide +kernel
theorem dX2_write_58 : decode cX2_write 58 = .ok (.dup2, 1) := by decide +kernel
theorem dX2_write_59 : decode cX2_write 59 = .ok (.iaload, 1) := by decide +kernel
theorem dX2_write_60 : decode cX2_write 60 = .ok (.iconst 1, 1) := by decide +kernel
theorem dX2_write_61 : decode cX2_write 61 = .ok (.iload_n 1, 1) := by decide +kernel
theorem dX2_write_62 : decode cX2_write 62 = .ok (.ishl, 1) := by decide +kernel
theorem dX2_write_63 : decode cX2_write 63 = .ok (.ior, 1) := by decide +kernel
theorem dX2_write_64 : decode cX2_write 64 = .ok (.iastore, 1) := by decide +kernel
theorem dX2_write_65 : decode cX2_write 65 = .ok (.aload_n 0, 1) := by decide +kernel
theorem dX2_write_66 : decode cX2_write 66 = .ok (.dup, 1) := by decide +kernel
theorem dX2_write_67 : decode cX2_write 67 = .ok (.getfield 40, 3) := by decide +kernel
theorem dX2_write_70 : decode cX2_write 70 = .ok (.iconst 1, 1) := by decide +kernel
theorem dX2_write_71 : decode cX2_write 71 = .ok (.iadd, 1) := by decide +kernel
theorem dX2_write_72 : decode cX2_write 72 = .ok (.putfield 40, 3) := by decide +kernel
theorem dX2_write_75 : decode cX2_write 75 = .ok (.aload_n 0, 1) := by decide +kernel
theorem dX2_write_76 : decode cX2_write 76 = .ok (.getfield 26, 3) := by decide +kernel
theorem dX2_write_79 : decode cX2_write 79 = .ok (.iload_n 1, 1) := by decide +kernel
theorem dX2_write_80 : decode cX2_write 80 = .ok (.aaload, 1) := by decide +kernel
theorem dX2_write_81 : decode cX2_write 81 = .ok (.dup, 1) := by decide +kernel
theorem dX2_write_82 : decode cX2_write 82 = .ok (.getfield 157, 3) := by decide +kernel
theorem dX2_write_85 : decode cX2_write 85 = .ok (.iconst 1, 1) := by decide +kernel
theorem dX2_write_86 : decode cX2_write 86 = .ok (.iadd, 1) := by decide +kernel
theorem dX2_write_87 : decode cX2_write 87 = .ok (.putfield 157, 3) := by decide +kernel
theorem dX2_write_90 : decode cX2_write 90 = .ok (.return_, 1) := by decide +kernel
set_option maxRecDepth 20000 in
theorem ggX3_init_X2_init : GoodIn wsX3_init wsX2_init := goodIn_r _ [12, 13, 2, 3, 14, 15, 16, 17, 18, 19, 20, 21, 22, 23, 24, 25, 26, 27, 28, 29, 30, 31, 32, 33, 34, 35, 36, 37, 38, 39, 40, 41, 42, 43, 44, 45, 46, 47, 48, 52, 53, 54, 55, 56, 57, 58, 59, 60, 61, 62, 63, 64, 65, 66, 67, 68, 69, 70, 71, 72, 73, 74, 75] (by decide +kernel) (by decide +kernel)
set_option maxRecDepth 20000 in
theorem gX3_init_X2_init : GoodIn wsX3_init (wsX2_init) := ggX3_init_X2_init
theorem dX3_init_0 : decode cX3_init 0 = .ok (.aload_n 0, 1) := by decide +kernel
theorem dX3_init_1 : decode cX3_init 1 = .ok (.invokespecial 3, 3) := by decide +kernel
theorem dX3_init_4 : decode cX3_init 4 = .ok (.aload_n 0, 1) := by decide +kernel
theorem dX3_init_5 : decode cX3_init 5 = .ok (.bipush 14, 2) := by decide +kernel
theorem dX3_init_7 : decode cX3_init 7 = .ok (.anewarray 9, 3) := by decide +kernel
theorem dX3_init_10 : decode cX3_init 10 = .ok (.putfield 11, 3) := by decide +kernel
theorem dX3_init_13 : decode cX3_init 13 = .ok (.aload_n 0, 1) := by decide +kernel
theorem dX3_init_14 : decode cX3_init 14 = .ok (.iconst 0, 1) := by decide +kernel
theorem dX3_init_15 : decode cX3_init 15 = .ok (.putfield 17, 3) := by decide +kernel
theorem dX3_init_18 : decode cX3_init 18 = .ok (.aload_n 0, 1) := by decide +kernel
theorem dX3_init_19 : decode cX3_init 19 = .ok (.iconst 0, 1) := by decide +kernel
theorem dX3_init_20 : decode cX3_init 20 = .ok (.putfield 21, 3) := by decide +kernel
theorem dX3_init_23 : decode cX3_init 23 = .ok (.iconst 0, 1) := by decide +kernel
theorem dX3_init_24 : decode cX3_init 24 = .ok (.istore_n 1, 1) := by decide +kernel
theorem dX3_init_25 : decode cX3_init 25 = .ok (.iload_n 1, 1) := by decide +kernel
theorem dX3_init_26 : decode cX3_init 26 = .ok (.bipush 14, 2) := by decide +kernel
theorem dX3_init_28 : decode cX3_init 28 = .ok (.if_icmp .ge 22, 3) := by decide +kernel
theorem dX3_init_31 : decode cX3_init 31 = .ok (.aload_n 0, 1) := by decide +kernel
theorem dX3_init_32 : decode cX3_init 32 = .ok (.getfield 11, 3) := by decide +kernel
theorem dX3_init_35 : decode cX3_init 35 = .ok (.iload_n 1, 1) := by decide +kernel
theorem dX3_init_36 : decode cX3_init 36 = .ok (.new 9, 3) := by decide +kernel
theorem dX3_init_39 : decode cX3_init 39 = .ok (.dup, 1) := by decide +kernel
theorem dX3_init_40 : decode cX3_init 40 = .ok (.invokespecial 24, 3) := by decide +kernel
theorem dX3_init_43 : decode cX3_init 43 = .ok (.aastore, 1) := by decide +kernel
theorem dX3_init_44 : decode cX3_init 44 = .ok (.iinc 1 1, 3) := by decide +kernel
theorem dX3_init_47 : decode cX3_init 47 = .ok (.goto (-22), 3) := by decide +kernel
theorem dX3_init_50 : decode cX3_init 50 = .ok (.return_, 1) := by decide +kernel
set_option maxRecDepth 20000 in
theorem ggX3_remember_X2_copyFrom : GoodIn wsX3_remember wsX2_copyFrom := goodIn_r _ [8, 9, 10, 11, 12, 13, 14, 15, 16, 17, 18, 19, 20, 21, 22, 23, 24, 25, 26, 27, 28, 29, 30, 31, 32, 33, 34, 35, 36, 37, 38, 39, 40, 41, 42, 7, 43, 44, 45, 46, 47, 48, 49, 53, 54, 55, 56, 57, 58, 59, 60, 61, 62, 63, 64, 65, 66, 67, 68, 69, 70, 71, 72, 73, 74, 75, 76] (by decide +kernel) (by decide +kernel)
set_option maxRecDepth 20000 in
theorem gX3_remember_X2_copyFrom : GoodIn wsX3_remember (wsV RX3 25 RX2 yX2_copyFrom wsX2_copyFrom) := goodIn_app (goodIn_of _ (by decide +kernel)) ggX3_remember_X2_copyFrom
theorem dX3_remember_0 : decode cX3_remember 0 = .ok (.aload_n 0, 1) := by decide +kernel
theorem dX3_remember_1 : decode cX3_remember 1 = .ok (.getfield 11, 3) := by decide +kernel
theorem dX3_remember_4 : decode cX3_remember 4 = .ok (.aload_n 0, 1) := by decide +kernel
theorem dX3_remember_5 : decode cX3_remember 5 = .ok (.getfield 17, 3) := by decide +kernel
theorem dX3_remember_8 : decode cX3_remember 8 = .ok (.aload_n 0, 1) := by decide +kernel
theorem dX3_remember_9 : decode cX3_remember 9 = .ok (.getfield 21, 3) := by decide +kernel
theorem dX3_remember_12 : decode cX3_remember 12 = .ok (.iadd, 1) := by decide +kernel
theorem dX3_remember_13 : decode cX3_remember 13 = .ok (.bipush 14, 2) := by decide +kernel
theorem dX3_remember_15 : decode cX3_remember 15 = .ok (.irem, 1) := by decide +kernel
theorem dX3_remember_16 : decode cX3_remember 16 = .ok (.aaload, 1) := by decide +kernel
theorem dX3_remember_17 : decode cX3_remember 17 = .ok (.aload_n 1, 1) := by decide +kernel
theorem dX3_remember_18 : decode cX3_remember 18 = .ok (.invokevirtual 25, 3) := by decide +kernel
theorem dX3_remember_21 : decode cX3_remember 21 = .ok (.aload_n 0, 1) := by decide +kernel
theorem dX3_remember_22 : decode cX3_remember 22 = .ok (.getfield 21, 3) := by decide +kernel
theorem dX3_remember_25 : decode cX3_remember 25 = .ok (.bipush 14, 2) := by decide +kernel
theorem dX3_remember_27 : decode cX3_remember 27 = .ok (.if_icmp .ge 16, 3) := by decide +kernel
theorem dX3_remember_30 : decode cX3_remember 30 = .ok (.aload_n 0, 1) := by decide +kernel
theorem dX3_remember_31 : decode cX3_remember 31 = .ok (.dup, 1) := by decide +kernel
theorem dX3_remember_32 : decode cX3_remember 32 = .ok (.getfield 21, 3) := by decide +kernel
theorem dX3_remember_35 : decode cX3_remember 35 = .ok (.iconst 1, 1) := by decide +kernel
theorem dX3_remember_36 : decode cX3_remember 36 = .ok (.iadd, 1) := by decide +kernel
theorem dX3_remember_37 : decode cX3_remember 37 = .ok (.putfield 21, 3) := by decide +kernel
theorem dX3_remember_40 : decode cX3_remember 40 = .ok (.goto 16, 3) := by decide +kernel
theorem dX3_remember_43 : decode cX3_remember 43 = .ok (.aload_n 0, 1) := by decide +kernel
theorem dX3_remember_44 : decode cX3_remember 44 = .ok (.aload_n 0, 1) := by decide +kernel
theorem dX3_remember_45 : decode cX3_remember 45 = .ok (.getfield 17, 3) := by decide +kernel
theorem dX3_remember_48 : decode cX3_remember 48 = .ok (.iconst 1, 1) := by decide +kernel
theorem dX3_remember_49 : decode cX3_remember 49 = .ok (.iadd, 1) := by decide +kernel
theorem dX3_remember_50 : decode cX3_remember 50 = .ok (.bipush 14, 2) := by decide +kernel
theorem dX3_remember_52 : decode cX3_remember 52 = .ok (.irem, 1) := by decide +kernel
theorem dX3_remember_53 : decode cX3_remember 53 = .ok (.putfield 17, 3) := by decide +kernel
theorem dX3_remember_56 : decode cX3_remember 56 = .ok (.return_, 1) := by decide +kernel
set_option maxRecDepth 20000 in
theorem ggX3_takeBack_X2_copyFrom : GoodIn wsX3_takeBack wsX2_copyFrom := goodIn_r _ [8, 9, 10, 11, 12, 13, 14, 15, 16, 17, 18, 19, 20, 21, 22, 23, 24, 25, 26, 27, 28, 29, 30, 31, 32, 33, 34, 35, 36, 37, 38, 39, 40, 41, 42, 7, 43, 44, 45, 46, 47, 48, 49, 53, 54, 55, 56, 57, 58, 59, 60, 61, 62, 63, 64, 65, 66, 67, 68, 69, 70, 71, 72, 73, 74, 75, 76] (by decide +kernel) (by decide +kernel)
set_option maxRecDepth 20000 in
theorem gX3_takeBack_X2_copyFrom : GoodIn wsX3_takeBack (wsV RX3 25 RX2 yX2_copyFrom wsX2_copyFrom) := goodIn_app (goodIn_of _ (by decide +kernel)) ggX3_takeBack_X2_copyFrom
theorem dX3_takeBack_0 : decode cX3_takeBack 0 = .ok (.aload_n 0, 1) := by decide +kernel
theorem dX3_takeBack_1 : decode cX3_takeBack 1 = .ok (.getfield 21, 3) := by decide +kernel
theorem dX3_takeBack_4 : decode cX3_takeBack 4 = .ok (.ifCond .le 34, 3) := by decide +kernel
theorem dX3_takeBack_7 : decode cX3_takeBack 7 = .ok (.aload_n 0, 1) := by decide +kernel
theorem dX3_takeBack_8 : decode cX3_takeBack 8 = .ok (.dup, 1) := by decide +kernel
theorem dX3_takeBack_9 : decode cX3_takeBack 9 = .ok (.getfield 21, 3) := by decide +kernel
theorem dX3_takeBack_12 : decode cX3_takeBack 12 = .ok (.iconst 1, 1) := by decide +kernel
theorem dX3_takeBack_13 : decode cX3_takeBack 13 = .ok (.isub, 1) := by decide +kernel
theorem dX3_takeBack_14 : decode cX3_takeBack 14 = .ok (.putfield 21, 3) := by decide +kernel
theorem dX3_takeBack_17 : decode cX3_takeBack 17 = .ok (.aload_n 1, 1) := by decide +kernel
theorem dX3_takeBack_18 : decode cX3_takeBack 18 = .ok (.aload_n 0, 1) := by decide +kernel
theorem dX3_takeBack_19 : decode cX3_takeBack 19 = .ok (.getfield 11, 3) := by decide +kernel
theorem dX3_takeBack_22 : decode cX3_takeBack 22 = .ok (.aload_n 0, 1) := by decide +kernel
theorem dX3_takeBack_23 : decode cX3_takeBack 23 = .ok (.getfield 17, 3) := by decide +kernel
theorem dX3_takeBack_26 : decode cX3_takeBack 26 = .ok (.aload_n 0, 1) := by decide +kernel
theorem dX3_takeBack_27 : decode cX3_takeBack 27 = .ok (.getfield 21, 3) := by decide +kernel
theorem dX3_takeBack_30 : decode cX3_takeBack 30 = .ok (.iadd, 1) := by decide +kernel
theorem dX3_takeBack_31 : decode cX3_takeBack 31 = .ok (.bipush 14, 2) := by decide +kernel
theorem dX3_takeBack_33 : decode cX3_takeBack 33 = .ok (.irem, 1) := by decide +kernel
theorem dX3_takeBack_34 : decode cX3_takeBack 34 = .ok (.aaload, 1) := by decide +kernel
theorem dX3_takeBack_35 : decode cX3_takeBack 35 = .ok (.invokevirtual 25, 3) := by decide +kernel
theorem dX3_takeBack_38 : decode cX3_takeBack 38 = .ok (.return_, 1) := by decide +kernel
theorem dX3_forget_0 : decode cX3_forget 0 = .ok (.aload_n 0, 1) := by decide +kernel
theorem dX3_forget_1 : decode cX3_forget 1 = .ok (.iconst 0, 1) := by decide +kernel
theorem dX3_forget_2 : decode cX3_forget 2 = .ok (.putfield 21, 3) := by decide +kernel
theorem dX3_forget_5 : decode cX3_forget 5 = .ok (.return_, 1) := by decide +kernel
set_option maxRecDepth 20000 in
theorem ggX4_succeeds_X4_setsValue : GoodIn wsX4_succeeds wsX4_setsValue := goodIn_r _ [9, 1, 10, 11, 12, 130, 131, 132, 133, 134, 135, 136, 137, 138, 139, 140] (by decide +kernel) (by decide +kernel)
set_option maxRecDepth 20000 in
theorem gX4_succeeds_X4_setsValue : GoodIn wsX4_succeeds (va_wsS RX4 9 yX4_setsValue wsX4_setsValue) := goodIn_app (goodIn_of _ (by decide +kernel)) ggX4_succeeds_X4_setsValue
set_option maxRecDepth 20000 in
theorem ggX4_succeeds_X2_letTicksGoBy : GoodIn wsX4_succeeds wsX2_letTicksGoBy := goodIn_r _ [17, 18, 19, 20, 16, 21, 22, 23, 24, 25, 26, 27, 28, 29, 30, 31, 32, 33, 34, 35, 36, 37, 38, 39, 40, 41, 42, 43, 44, 45, 46, 47, 48, 49, 50, 51, 52, 53, 54, 55, 56, 57, 58, 59, 60, 61, 62, 63, 64, 65, 66, 67, 68, 69, 70, 71, 72, 73, 74, 75, 76, 77, 78, 79, 80, 81, 82, 83, 84, 85, 86, 87, 88, 89, 90, 91, 92, 93, 94, 95, 96, 97, 98, 99, 100, 101, 102, 103, 104, 105, 106, 107, 108, 109, 130, 131, 132, 133, 134, 135, 136, 137, 138, 139, 140, 141, 142, 143, 144, 145, 146, 147, 148, 149, 150, 151, 152, 153] (by decide +kernel) (by decide +kernel)
set_option maxRecDepth 20000 in
theorem gX4_succeeds_X2_letTicksGoBy : GoodIn wsX4_succeeds (wsV RX4 15 RX2 yX2_letTicksGoBy wsX2_letTicksGoBy) := goodIn_app (goodIn_of _ (by decide +kernel)) ggX4_succeeds_X2_letTicksGoBy
set_option maxRecDepth 20000 in
theorem ggX4_succeeds_X4_starts : GoodIn wsX4_succeeds wsX4_starts := goodIn_r _ [112, 2, 113, 11, 114, 10, 12, 115, 116, 117, 33, 118, 68, 58, 59, 60, 61, 62, 57, 35, 63, 130, 131, 132, 133, 134, 135, 136, 137, 138, 139, 140, 141, 142, 143, 144, 145, 146, 147, 148, 149, 150, 151, 152, 153] (by decide +kernel) (by decide +kernel)
set_option maxRecDepth 20000 in
theorem gX4_succeeds_X4_starts : GoodIn wsX4_succeeds (va_wsS RX4 21 yX4_starts wsX4_starts) := goodIn_app (goodIn_of _ (by decide +kernel)) ggX4_succeeds_X4_starts
set_option maxRecDepth 20000 in
theorem ggX4_succeeds_X4_stops : GoodIn wsX4_succeeds wsX4_stops := goodIn_r _ [121, 2, 3, 113, 11, 114, 122, 59, 60, 33, 61, 62, 57, 35, 63, 130, 131, 132, 133, 134, 135, 136, 137, 138, 139, 140, 141, 142, 143, 144, 145, 146, 147, 148, 149, 150, 151, 152, 153] (by decide +kernel) (by decide +kernel)
set_option maxRecDepth 20000 in
theorem gX4_succeeds_X4_stops : GoodIn wsX4_succeeds (va_wsS RX4 24 yX4_stops wsX4_stops) := goodIn_app (goodIn_of _ (by decide +kernel)) ggX4_succeeds_X4_stops
set_option maxRecDepth 20000 in
theorem ggX4_succeeds_X4_gives : GoodIn wsX4_succeeds wsX4_gives := goodIn_r _ [125, 10, 11, 12, 126, 127, 128, 16, 129, 77, 130, 131, 132, 133, 134, 135, 136, 137, 138, 139, 140] (by decide +kernel) (by decide +kernel)
set_option maxRecDepth 20000 in
theorem gX4_succeeds_X4_gives : GoodIn wsX4_succeeds (va_wsS RX4 28 yX4_gives wsX4_gives) := goodIn_app (goodIn_of _ (by decide +kernel)) ggX4_succeeds_X4_gives
set_option maxRecDepth 20000 in
theorem ggX4_succeeds_X6_isCell : GoodIn wsX4_succeeds wsX6_isCell := goodIn_r _ [12] (by decide +kernel) (by decide +kernel)
set_option maxRecDepth 20000 in
theorem gX4_succeeds_X6_isCell_n32 : GoodIn wsX4_succeeds (wsX6_isCell) := ggX4_succeeds_X6_isCell
set_option maxRecDepth 20000 in
theorem ggX4_succeeds_X6_isChannel : GoodIn wsX4_succeeds wsX6_isChannel := goodIn_r _ [114] (by decide +kernel) (by decide +kernel)
set_option maxRecDepth 20000 in
theorem gX4_succeeds_X6_isChannel_n40 : GoodIn wsX4_succeeds (wsX6_isChannel) := ggX4_succeeds_X6_isChannel
theorem dX4_succeeds_0 : decode cX4_succeeds 0 = .ok (.iload_n 1, 1) := by decide +kernel
theorem dX4_succeeds_1 : decode cX4_succeeds 1 = .ok (.sipush 1000, 3) := by decide +kernel
theorem dX4_succeeds_4 : decode cX4_succeeds 4 = .ok (.idiv, 1) := by decide +kernel
theorem dX4_succeeds_5 : decode cX4_succeeds 5 = .ok (.bipush 10, 2) := by decide +kernel
theorem dX4_succeeds_7 : decode cX4_succeeds 7 = .ok (.irem, 1) := by decide +kernel
theorem dX4_succeeds_8 : decode cX4_succeeds 8 = .ok (.istore_n 2, 1) := by decide +kernel
theorem dX4_succeeds_9 : decode cX4_succeeds 9 = .ok (.iload_n 1, 1) := by decide +kernel
theorem dX4_succeeds_10 : decode cX4_succeeds 10 = .ok (.bipush 100, 2) := by decide +kernel
theorem dX4_succeeds_12 : decode cX4_succeeds 12 = .ok (.idiv, 1) := by decide +kernel
theorem dX4_succeeds_13 : decode cX4_succeeds 13 = .ok (.bipush 10, 2) := by decide +kernel
theorem dX4_succeeds_15 : decode cX4_succeeds 15 = .ok (.irem, 1) := by decide +kernel
theorem dX4_succeeds_16 : decode cX4_succeeds 16 = .ok (.istore_n 3, 1) := by decide +kernel
theorem dX4_succeeds_17 : decode cX4_succeeds 17 = .ok (.iload_n 1, 1) := by decide +kernel
theorem dX4_succeeds_18 : decode cX4_succeeds 18 = .ok (.bipush 10, 2) := by decide +kernel
theorem dX4_succeeds_20 : decode cX4_succeeds 20 = .ok (.idiv, 1) := by decide +kernel
theorem dX4_succeeds_21 : decode cX4_succeeds 21 = .ok (.bipush 10, 2) := by decide +kernel
theorem dX4_succeeds_23 : decode cX4_succeeds 23 = .ok (.irem, 1) := by decide +kernel
theorem dX4_succeeds_24 : decode cX4_succeeds 24 = .ok (.istore 4, 2) := by decide +kernel
theorem dX4_succeeds_26 : decode cX4_succeeds 26 = .ok (.iload_n 1, 1) := by decide +kernel
theorem dX4_succeeds_27 : decode cX4_succeeds 27 = .ok (.bipush 10, 2) := by decide +kernel
theorem dX4_succeeds_29 : decode cX4_succeeds 29 = .ok (.irem, 1) := by decide +kernel
theorem dX4_succeeds_30 : decode cX4_succeeds 30 = .ok (.istore 5, 2) := by decide +kernel
theorem dX4_succeeds_32 : decode cX4_succeeds 32 = .ok (.bipush 10, 2) := by decide +kernel
theorem dX4_succeeds_34 : decode cX4_succeeds 34 = .ok (.iload_n 2, 1) := by decide +kernel
theorem dX4_succeeds_35 : decode cX4_succeeds 35 = .ok (.imul, 1) := by decide +kernel
theorem dX4_succeeds_36 : decode cX4_succeeds 36 = .ok (.iload_n 3, 1) := by decide +kernel
theorem dX4_succeeds_37 : decode cX4_succeeds 37 = .ok (.iadd, 1) := by decide +kernel
theorem dX4_succeeds_38 : decode cX4_succeeds 38 = .ok (.istore 6, 2) := by decide +kernel
theorem dX4_succeeds_40 : decode cX4_succeeds 40 = .ok (.bipush 10, 2) := by decide +kernel
theorem dX4_succeeds_42 : decode cX4_succeeds 42 = .ok (.iload_n 3, 1) := by decide +kernel
theorem dX4_succeeds_43 : decode cX4_succeeds 43 = .ok (.imul, 1) := by decide +kernel
theorem dX4_succeeds_44 : decode cX4_succeeds 44 = .ok (.iload 4, 2) := by decide +kernel
theorem dX4_succeeds_46 : decode cX4_succeeds 46 = .ok (.iadd, 1) := by decide +kernel
theorem dX4_succeeds_47 : decode cX4_succeeds 47 = .ok (.istore 7, 2) := by decide +kernel
theorem dX4_succeeds_49 : decode cX4_succeeds 49 = .ok (.bipush 10, 2) := by decide +kernel
theorem dX4_succeeds_51 : decode cX4_succeeds 51 = .ok (.iload 4, 2) := by decide +kernel
theorem dX4_succeeds_53 : decode cX4_succeeds 53 = .ok (.imul, 1) := by decide +kernel
theorem dX4_succeeds_54 : decode cX4_succeeds 54 = .ok (.iload 5, 2) := by decide +kernel
theorem dX4_succeeds_56 : decode cX4_succeeds 56 = .ok (.iadd, 1) := by decide +kernel
theorem dX4_succeeds_57 : decode cX4_succeeds 57 = .ok (.istore 8, 2) := by decide +kernel
theorem dX4_succeeds_59 : decode cX4_succeeds 59 = .ok (.iload_n 1, 1) := by decide +kernel
theorem dX4_succeeds_60 : decode cX4_succeeds 60 = .ok (.sipush 10000, 3) := by decide +kernel
theorem dX4_succeeds_63 : decode cX4_succeeds 63 = .ok (.idiv, 1) := by decide +kernel
theorem dX4_succeeds_64 : decode cX4_succeeds 64 = .ok (.tableswitch 245 1 9 #[52, 61, 81, 102, 125, 136, 162, 194, 225], 52) := by decide +kernel
theorem dX4_succeeds_116 : decode cX4_succeeds 116 = .ok (.aload_n 0, 1) := by decide +kernel
theorem dX4_succeeds_117 : decode cX4_succeeds 117 = .ok (.iload 6, 2) := by decide +kernel
theorem dX4_succeeds_119 : decode cX4_succeeds 119 = .ok (.iload 8, 2) := by decide +kernel
theorem dX4_succeeds_121 : decode cX4_succeeds 121 = .ok (.invokestatic 9, 3) := by decide +kernel
theorem dX4_succeeds_124 : decode cX4_succeeds 124 = .ok (.ireturn, 1) := by decide +kernel
theorem dX4_succeeds_125 : decode cX4_succeeds 125 = .ok (.iload 6, 2) := by decide +kernel
theorem dX4_succeeds_127 : decode cX4_succeeds 127 = .ok (.ifCond .ne 16, 3) := by decide +kernel
theorem dX4_succeeds_130 : decode cX4_succeeds 130 = .ok (.aload_n 0, 1) := by decide +kernel
theorem dX4_succeeds_131 : decode cX4_succeeds 131 = .ok (.iload 8, 2) := by decide +kernel
theorem dX4_succeeds_133 : decode cX4_succeeds 133 = .ok (.invokevirtual 15, 3) := by decide +kernel
theorem dX4_succeeds_136 : decode cX4_succeeds 136 = .ok (.ifCond .le 7, 3) := by decide +kernel
theorem dX4_succeeds_139 : decode cX4_succeeds 139 = .ok (.iconst 1, 1) := by decide +kernel
theorem dX4_succeeds_140 : decode cX4_succeeds 140 = .ok (.goto 4, 3) := by decide +kernel
theorem dX4_succeeds_143 : decode cX4_succeeds 143 = .ok (.iconst 0, 1) := by decide +kernel
theorem dX4_succeeds_144 : decode cX4_succeeds 144 = .ok (.ireturn, 1) := by decide +kernel
theorem dX4_succeeds_145 : decode cX4_succeeds 145 = .ok (.iload 5, 2) := by decide +kernel
theorem dX4_succeeds_147 : decode cX4_succeeds 147 = .ok (.ifCond .ne 17, 3) := by decide +kernel
theorem dX4_succeeds_150 : decode cX4_succeeds 150 = .ok (.aload_n 0, 1) := by decide +kernel
theorem dX4_succeeds_151 : decode cX4_succeeds 151 = .ok (.iload_n 2, 1) := by decide +kernel
theorem dX4_succeeds_152 : decode cX4_succeeds 152 = .ok (.iload 7, 2) := by decide +kernel
theorem dX4_succeeds_154 : decode cX4_succeeds 154 = .ok (.invokestatic 21, 3) := by decide +kernel
theorem dX4_succeeds_157 : decode cX4_succeeds 157 = .ok (.ifCond .eq 7, 3) := by decide +kernel
theorem dX4_succeeds_160 : decode cX4_succeeds 160 = .ok (.iconst 1, 1) := by decide +kernel
theorem dX4_succeeds_161 : decode cX4_succeeds 161 = .ok (.goto 4, 3) := by decide +kernel
theorem dX4_succeeds_164 : decode cX4_succeeds 164 = .ok (.iconst 0, 1) := by decide +kernel
theorem dX4_succeeds_165 : decode cX4_succeeds 165 = .ok (.ireturn, 1) := by decide +kernel
theorem dX4_succeeds_166 : decode cX4_succeeds 166 = .ok (.iload_n 3, 1) := by decide +kernel
theorem dX4_succeeds_167 : decode cX4_succeeds 167 = .ok (.ifCond .ne 20, 3) := by decide +kernel
theorem dX4_succeeds_170 : decode cX4_succeeds 170 = .ok (.iload 8, 2) := by decide +kernel
theorem dX4_succeeds_172 : decode cX4_succeeds 172 = .ok (.ifCond .ne 15, 3) := by decide +kernel
theorem dX4_succeeds_175 : decode cX4_succeeds 175 = .ok (.aload_n 0, 1) := by decide +kernel
theorem dX4_succeeds_176 : decode cX4_succeeds 176 = .ok (.iload_n 2, 1) := by decide +kernel
theorem dX4_succeeds_177 : decode cX4_succeeds 177 = .ok (.invokestatic 24, 3) := by decide +kernel
theorem dX4_succeeds_180 : decode cX4_succeeds 180 = .ok (.ifCond .eq 7, 3) := by decide +kernel
theorem dX4_succeeds_183 : decode cX4_succeeds 183 = .ok (.iconst 1, 1) := by decide +kernel
theorem dX4_succeeds_184 : decode cX4_succeeds 184 = .ok (.goto 4, 3) := by decide +kernel
theorem dX4_succeeds_187 : decode cX4_succeeds 187 = .ok (.iconst 0, 1) := by decide +kernel
theorem dX4_succeeds_188 : decode cX4_succeeds 188 = .ok (.ireturn, 1) := by decide +kernel
theorem dX4_succeeds_189 : decode cX4_succeeds 189 = .ok (.aload_n 0, 1) := by decide +kernel
theorem dX4_succeeds_190 : decode cX4_succeeds 190 = .ok (.iload 6, 2) := by decide +kernel
theorem dX4_succeeds_192 : decode cX4_succeeds 192 = .ok (.iload 5, 2) := by decide +kernel
theorem dX4_succeeds_194 : decode cX4_succeeds 194 = .ok (.iload 4, 2) := by decide +kernel
theorem dX4_succeeds_196 : decode cX4_succeeds 196 = .ok (.invokestatic 28, 3) := by decide +kernel
theorem dX4_succeeds_199 : decode cX4_succeeds 199 = .ok (.ireturn, 1) := by decide +kernel
theorem dX4_succeeds_200 : decode cX4_succeeds 200 = .ok (.iload 6, 2) := by decide +kernel
theorem dX4_succeeds_202 : decode cX4_succeeds 202 = .ok (.invokestatic 32, 3) := by decide +kernel
theorem dX4_succeeds_205 : decode cX4_succeeds 205 = .ok (.ifCond .eq 19, 3) := by decide +kernel
theorem dX4_succeeds_208 : decode cX4_succeeds 208 = .ok (.aload_n 0, 1) := by decide +kernel
theorem dX4_succeeds_209 : decode cX4_succeeds 209 = .ok (.getfield 36, 3) := by decide +kernel
theorem dX4_succeeds_212 : decode cX4_succeeds 212 = .ok (.iload 6, 2) := by decide +kernel
theorem dX4_succeeds_214 : decode cX4_succeeds 214 = .ok (.iaload, 1) := by decide +kernel
theorem dX4_succeeds_215 : decode cX4_succeeds 215 = .ok (.iload 8, 2) := by decide +kernel
theorem dX4_succeeds_217 : decode cX4_succeeds 217 = .ok (.if_icmp .ne 7, 3) := by decide +kernel
theorem dX4_succeeds_220 : decode cX4_succeeds 220 = .ok (.iconst 1, 1) := by decide +kernel
theorem dX4_succeeds_221 : decode cX4_succeeds 221 = .ok (.goto 4, 3) := by decide +kernel
theorem dX4_succeeds_224 : decode cX4_succeeds 224 = .ok (.iconst 0, 1) := by decide +kernel
theorem dX4_succeeds_225 : decode cX4_succeeds 225 = .ok (.ireturn, 1) := by decide +kernel
theorem dX4_succeeds_226 : decode cX4_succeeds 226 = .ok (.iload 7, 2) := by decide +kernel
theorem dX4_succeeds_228 : decode cX4_succeeds 228 = .ok (.ifCond .ne 28, 3) := by decide +kernel
theorem dX4_succeeds_231 : decode cX4_succeeds 231 = .ok (.iload_n 2, 1) := by decide +kernel
theorem dX4_succeeds_232 : decode cX4_succeeds 232 = .ok (.invokestatic 40, 3) := by decide +kernel
theorem dX4_succeeds_235 : decode cX4_succeeds 235 = .ok (.ifCond .eq 21, 3) := by decide +kernel
theorem dX4_succeeds_238 : decode cX4_succeeds 238 = .ok (.aload_n 0, 1) := by decide +kernel
theorem dX4_succeeds_239 : decode cX4_succeeds 239 = .ok (.getfield 43, 3) := by decide +kernel
theorem dX4_succeeds_242 : decode cX4_succeeds 242 = .ok (.iload_n 2, 1) := by decide +kernel
theorem dX4_succeeds_243 : decode cX4_succeeds 243 = .ok (.aaload, 1) := by decide +kernel
theorem dX4_succeeds_244 : decode cX4_succeeds 244 = .ok (.getfield 47, 3) := by decide +kernel
theorem dX4_succeeds_247 : decode cX4_succeeds 247 = .ok (.iload 5, 2) := by decide +kernel
theorem dX4_succeeds_249 : decode cX4_succeeds 249 = .ok (.if_icmp .ne 7, 3) := by decide +kernel
theorem dX4_succeeds_252 : decode cX4_succeeds 252 = .ok (.iconst 1, 1) := by decide +kernel
theorem dX4_succeeds_253 : decode cX4_succeeds 253 = .ok (.goto 4, 3) := by decide +kernel
theorem dX4_succeeds_256 : decode cX4_succeeds 256 = .ok (.iconst 0, 1) := by decide +kernel
theorem dX4_succeeds_257 : decode cX4_succeeds 257 = .ok (.ireturn, 1) := by decide +kernel
theorem dX4_succeeds_258 : decode cX4_succeeds 258 = .ok (.iload_n 3, 1) := by decide +kernel
theorem dX4_succeeds_259 : decode cX4_succeeds 259 = .ok (.ifCond .ne 28, 3) := by decide +kernel
theorem dX4_succeeds_262 : decode cX4_succeeds 262 = .ok (.iload_n 2, 1) := by decide +kernel
theorem dX4_succeeds_263 : decode cX4_succeeds 263 = .ok (.invokestatic 40, 3) := by decide +kernel
theorem dX4_succeeds_266 : decode cX4_succeeds 266 = .ok (.ifCond .eq 21, 3) := by decide +kernel
theorem dX4_succeeds_269 : decode cX4_succeeds 269 = .ok (.aload_n 0, 1) := by decide +kernel
theorem dX4_succeeds_270 : decode cX4_succeeds 270 = .ok (.getfield 43, 3) := by decide +kernel
theorem dX4_succeeds_273 : decode cX4_succeeds 273 = .ok (.iload_n 2, 1) := by decide +kernel
theorem dX4_succeeds_274 : decode cX4_succeeds 274 = .ok (.aaload, 1) := by decide +kernel
theorem dX4_succeeds_275 : decode cX4_succeeds 275 = .ok (.getfield 53, 3) := by decide +kernel
theorem dX4_succeeds_278 : decode cX4_succeeds 278 = .ok (.iload 8, 2) := by decide +kernel
theorem dX4_succeeds_280 : decode cX4_succeeds 280 = .ok (.if_icmp .lt 7, 3) := by decide +kernel
theorem dX4_succeeds_283 : decode cX4_succeeds 283 = .ok (.iconst 1, 1) := by decide +kernel
theorem dX4_succeeds_284 : decode cX4_succeeds 284 = .ok (.goto 4, 3) := by decide +kernel
theorem dX4_succeeds_287 : decode cX4_succeeds 287 = .ok (.iconst 0, 1) := by decide +kernel
theorem dX4_succeeds_288 : decode cX4_succeeds 288 = .ok (.ireturn, 1) := by decide +kernel
theorem dX4_succeeds_289 : decode cX4_succeeds 289 = .ok (.iload 6, 2) := by decide +kernel
theorem dX4_succeeds_291 : decode cX4_succeeds 291 = .ok (.ifCond .ne 16, 3) := by decide +kernel
theorem dX4_succeeds_294 : decode cX4_succeeds 294 = .ok (.aload_n 0, 1) := by decide +kernel
theorem dX4_succeeds_295 : decode cX4_succeeds 295 = .ok (.getfield 56, 3) := by decide +kernel
theorem dX4_succeeds_298 : decode cX4_succeeds 298 = .ok (.iload 8, 2) := by decide +kernel
theorem dX4_succeeds_300 : decode cX4_succeeds 300 = .ok (.if_icmp .gt 7, 3) := by decide +kernel
theorem dX4_succeeds_303 : decode cX4_succeeds 303 = .ok (.iconst 1, 1) := by decide +kernel
theorem dX4_succeeds_304 : decode cX4_succeeds 304 = .ok (.goto 4, 3) := by decide +kernel
theorem dX4_succeeds_307 : decode cX4_succeeds 307 = .ok (.iconst 0, 1) := by decide +kernel
theorem dX4_succeeds_308 : decode cX4_succeeds 308 = .ok (.ireturn, 1) := by decide +kernel
theorem dX4_succeeds_309 : decode cX4_succeeds 309 = .ok (.iconst 0, 1) := by decide +kernel
theorem dX4_succeeds_310 : decode cX4_succeeds 310 = .ok (.ireturn, 1) := by decide +kernel
set_option maxRecDepth 20000 in
theorem ggX4_setsValue_X6_isCell : GoodIn wsX4_setsValue wsX6_isCell := goodIn_r _ [4] (by decide +kernel) (by decide +kernel)
set_option maxRecDepth 20000 in
theorem gX4_setsValue_X6_isCell_n32 : GoodIn wsX4_setsValue (wsX6_isCell) := ggX4_setsValue_X6_isCell
theorem dX4_setsValue_0 : decode cX4_setsValue 0 = .ok (.iload_n 1, 1) := by decide +kernel
theorem dX4_setsValue_1 : decode cX4_setsValue 1 = .ok (.invokestatic 32, 3) := by decide +kernel
theorem dX4_setsValue_4 : decode cX4_setsValue 4 = .ok (.ifCond .ne 5, 3) := by decide +kernel
theorem dX4_setsValue_7 : decode cX4_setsValue 7 = .ok (.iconst 0, 1) := by decide +kernel
theorem dX4_setsValue_8 : decode cX4_setsValue 8 = .ok (.ireturn, 1) := by decide +kernel
theorem dX4_setsValue_9 : decode cX4_setsValue 9 = .ok (.aload_n 0, 1) := by decide +kernel
theorem dX4_setsValue_10 : decode cX4_setsValue 10 = .ok (.getfield 36, 3) := by decide +kernel
theorem dX4_setsValue_13 : decode cX4_setsValue 13 = .ok (.iload_n 1, 1) := by decide +kernel
theorem dX4_setsValue_14 : decode cX4_setsValue 14 = .ok (.iload_n 2, 1) := by decide +kernel
theorem dX4_setsValue_15 : decode cX4_setsValue 15 = .ok (.iastore, 1) := by decide +kernel
theorem dX4_setsValue_16 : decode cX4_setsValue 16 = .ok (.iconst 1, 1) := by decide +kernel
theorem dX4_setsValue_17 : decode cX4_setsValue 17 = .ok (.ireturn, 1) := by decide +kernel
set_option maxRecDepth 20000 in
theorem ggX4_starts_X6_isChannel : GoodIn wsX4_starts wsX6_isChannel := goodIn_r _ [4] (by decide +kernel) (by decide +kernel)
set_option maxRecDepth 20000 in
theorem gX4_starts_X6_isChannel_n40 : GoodIn wsX4_starts (wsX6_isChannel) := ggX4_starts_X6_isChannel
set_option maxRecDepth 20000 in
theorem ggX4_starts_X6_isCell : GoodIn wsX4_starts wsX6_isCell := goodIn_r _ [6] (by decide +kernel) (by decide +kernel)
set_option maxRecDepth 20000 in
theorem gX4_starts_X6_isCell_n32 : GoodIn wsX4_starts (wsX6_isCell) := ggX4_starts_X6_isCell
set_option maxRecDepth 20000 in
theorem ggX4_starts_X1_beginAt : GoodIn wsX4_starts wsX1_beginAt := goodIn_r _ [11, 12, 13, 14, 15, 10, 16, 17, 18, 19, 20, 32, 33, 34, 35, 36, 37, 38, 39, 40, 41, 42, 43, 44] (by decide +kernel) (by decide +kernel)
set_option maxRecDepth 20000 in
theorem gX4_starts_X1_beginAt : GoodIn wsX4_starts (wsV RX4 59 RX1 yX1_beginAt wsX1_beginAt) := goodIn_app (goodIn_of _ (by decide +kernel)) ggX4_starts_X1_beginAt
theorem dX4_starts_0 : decode cX4_starts 0 = .ok (.iload_n 1, 1) := by decide +kernel
theorem dX4_starts_1 : decode cX4_starts 1 = .ok (.invokestatic 40, 3) := by decide +kernel
theorem dX4_starts_4 : decode cX4_starts 4 = .ok (.ifCond .eq 10, 3) := by decide +kernel
theorem dX4_starts_7 : decode cX4_starts 7 = .ok (.iload_n 2, 1) := by decide +kernel
theorem dX4_starts_8 : decode cX4_starts 8 = .ok (.invokestatic 32, 3) := by decide +kernel
theorem dX4_starts_11 : decode cX4_starts 11 = .ok (.ifCond .ne 5, 3) := by decide +kernel
theorem dX4_starts_14 : decode cX4_starts 14 = .ok (.iconst 0, 1) := by decide +kernel
theorem dX4_starts_15 : decode cX4_starts 15 = .ok (.ireturn, 1) := by decide +kernel
theorem dX4_starts_16 : decode cX4_starts 16 = .ok (.aload_n 0, 1) := by decide +kernel
theorem dX4_starts_17 : decode cX4_starts 17 = .ok (.getfield 43, 3) := by decide +kernel
theorem dX4_starts_20 : decode cX4_starts 20 = .ok (.iload_n 1, 1) := by decide +kernel
theorem dX4_starts_21 : decode cX4_starts 21 = .ok (.aaload, 1) := by decide +kernel
theorem dX4_starts_22 : decode cX4_starts 22 = .ok (.iload_n 2, 1) := by decide +kernel
theorem dX4_starts_23 : decode cX4_starts 23 = .ok (.invokevirtual 59, 3) := by decide +kernel
theorem dX4_starts_26 : decode cX4_starts 26 = .ok (.iconst 1, 1) := by decide +kernel
theorem dX4_starts_27 : decode cX4_starts 27 = .ok (.ireturn, 1) := by decide +kernel
set_option maxRecDepth 20000 in
theorem ggX4_stops_X6_isChannel : GoodIn wsX4_stops wsX6_isChannel := goodIn_r _ [5] (by decide +kernel) (by decide +kernel)
set_option maxRecDepth 20000 in
theorem gX4_stops_X6_isChannel_n40 : GoodIn wsX4_stops (wsX6_isChannel) := ggX4_stops_X6_isChannel
set_option maxRecDepth 20000 in
theorem ggX4_stops_X1_become : GoodIn wsX4_stops wsX1_become := goodIn_r _ [10, 11, 12, 13, 14, 26, 27, 28, 29, 30, 31, 32, 33, 34, 35, 36, 37, 38] (by decide +kernel) (by decide +kernel)
set_option maxRecDepth 20000 in
theorem gX4_stops_X1_become : GoodIn wsX4_stops (wsV RX4 63 RX1 yX1_become wsX1_become) := goodIn_app (goodIn_of _ (by decide +kernel)) ggX4_stops_X1_become
theorem dX4_stops_0 : decode cX4_stops 0 = .ok (.iload_n 1, 1) := by decide +kernel
theorem dX4_stops_1 : decode cX4_stops 1 = .ok (.invokestatic 40, 3) := by decide +kernel
theorem dX4_stops_4 : decode cX4_stops 4 = .ok (.ifCond .eq 16, 3) := by decide +kernel
theorem dX4_stops_7 : decode cX4_stops 7 = .ok (.aload_n 0, 1) := by decide +kernel
theorem dX4_stops_8 : decode cX4_stops 8 = .ok (.getfield 43, 3) := by decide +kernel
theorem dX4_stops_11 : decode cX4_stops 11 = .ok (.iload_n 1, 1) := by decide +kernel
theorem dX4_stops_12 : decode cX4_stops 12 = .ok (.aaload, 1) := by decide +kernel
theorem dX4_stops_13 : decode cX4_stops 13 = .ok (.getfield 47, 3) := by decide +kernel
theorem dX4_stops_16 : decode cX4_stops 16 = .ok (.iconst 1, 1) := by decide +kernel
theorem dX4_stops_17 : decode cX4_stops 17 = .ok (.if_icmp .eq 5, 3) := by decide +kernel
theorem dX4_stops_20 : decode cX4_stops 20 = .ok (.iconst 0, 1) := by decide +kernel
theorem dX4_stops_21 : decode cX4_stops 21 = .ok (.ireturn, 1) := by decide +kernel
theorem dX4_stops_22 : decode cX4_stops 22 = .ok (.aload_n 0, 1) := by decide +kernel
theorem dX4_stops_23 : decode cX4_stops 23 = .ok (.getfield 43, 3) := by decide +kernel
theorem dX4_stops_26 : decode cX4_stops 26 = .ok (.iload_n 1, 1) := by decide +kernel
theorem dX4_stops_27 : decode cX4_stops 27 = .ok (.aaload, 1) := by decide +kernel
theorem dX4_stops_28 : decode cX4_stops 28 = .ok (.iconst 0, 1) := by decide +kernel
theorem dX4_stops_29 : decode cX4_stops 29 = .ok (.invokevirtual 63, 3) := by decide +kernel
theorem dX4_stops_32 : decode cX4_stops 32 = .ok (.iconst 1, 1) := by decide +kernel
theorem dX4_stops_33 : decode cX4_stops 33 = .ok (.ireturn, 1) := by decide +kernel
set_option maxRecDepth 20000 in
theorem ggX4_gives_X6_isCell : GoodIn wsX4_gives wsX6_isCell := goodIn_r _ [3] (by decide +kernel) (by decide +kernel)
set_option maxRecDepth 20000 in
theorem gX4_gives_X6_isCell_n32 : GoodIn wsX4_gives (wsX6_isCell) := ggX4_gives_X6_isCell
set_option maxRecDepth 20000 in
theorem ggX4_gives_X2_giveCells : GoodIn wsX4_gives wsX2_giveCells := goodIn_r _ [8, 9, 10, 11, 12, 13, 14, 15, 16, 17, 18, 19, 20] (by decide +kernel) (by decide +kernel)
set_option maxRecDepth 20000 in
theorem gX4_gives_X2_giveCells : GoodIn wsX4_gives (wsV RX4 66 RX2 yX2_giveCells wsX2_giveCells) := goodIn_app (goodIn_of _ (by decide +kernel)) ggX4_gives_X2_giveCells
theorem dX4_gives_0 : decode cX4_gives 0 = .ok (.iload_n 1, 1) := by decide +kernel
theorem dX4_gives_1 : decode cX4_gives 1 = .ok (.invokestatic 32, 3) := by decide +kernel
theorem dX4_gives_4 : decode cX4_gives 4 = .ok (.ifCond .eq 13, 3) := by decide +kernel
theorem dX4_gives_7 : decode cX4_gives 7 = .ok (.iload_n 2, 1) := by decide +kernel
theorem dX4_gives_8 : decode cX4_gives 8 = .ok (.iconst 1, 1) := by decide +kernel
theorem dX4_gives_9 : decode cX4_gives 9 = .ok (.if_icmp .lt 8, 3) := by decide +kernel
theorem dX4_gives_12 : decode cX4_gives 12 = .ok (.iload_n 3, 1) := by decide +kernel
theorem dX4_gives_13 : decode cX4_gives 13 = .ok (.iconst 4, 1) := by decide +kernel
theorem dX4_gives_14 : decode cX4_gives 14 = .ok (.if_icmp .lt 5, 3) := by decide +kernel
theorem dX4_gives_17 : decode cX4_gives 17 = .ok (.iconst 0, 1) := by decide +kernel
theorem dX4_gives_18 : decode cX4_gives 18 = .ok (.ireturn, 1) := by decide +kernel
theorem dX4_gives_19 : decode cX4_gives 19 = .ok (.aload_n 0, 1) := by decide +kernel
theorem dX4_gives_20 : decode cX4_gives 20 = .ok (.iload_n 1, 1) := by decide +kernel
theorem dX4_gives_21 : decode cX4_gives 21 = .ok (.iload_n 2, 1) := by decide +kernel
theorem dX4_gives_22 : decode cX4_gives 22 = .ok (.iload_n 3, 1) := by decide +kernel
theorem dX4_gives_23 : decode cX4_gives 23 = .ok (.invokevirtual 66, 3) := by decide +kernel
theorem dX4_gives_26 : decode cX4_gives 26 = .ok (.pop, 1) := by decide +kernel
theorem dX4_gives_27 : decode cX4_gives 27 = .ok (.iconst 1, 1) := by decide +kernel
theorem dX4_gives_28 : decode cX4_gives 28 = .ok (.ireturn, 1) := by decide +kernel
theorem dX5_init_0 : decode cX5_init 0 = .ok (.aload_n 0, 1) := by decide +kernel
theorem dX5_init_1 : decode cX5_init 1 = .ok (.invokespecial 3, 3) := by decide +kernel
theorem dX5_init_4 : decode cX5_init 4 = .ok (.aload_n 0, 1) := by decide +kernel
theorem dX5_init_5 : decode cX5_init 5 = .ok (.iconst 0, 1) := by decide +kernel
theorem dX5_init_6 : decode cX5_init 6 = .ok (.putfield 11, 3) := by decide +kernel
theorem dX5_init_9 : decode cX5_init 9 = .ok (.aload_n 0, 1) := by decide +kernel
theorem dX5_init_10 : decode cX5_init 10 = .ok (.iconst 0, 1) := by decide +kernel
theorem dX5_init_11 : decode cX5_init 11 = .ok (.putfield 15, 3) := by decide +kernel
theorem dX5_init_14 : decode cX5_init 14 = .ok (.aload_n 0, 1) := by decide +kernel
theorem dX5_init_15 : decode cX5_init 15 = .ok (.iconst 0, 1) := by decide +kernel
theorem dX5_init_16 : decode cX5_init 16 = .ok (.putfield 18, 3) := by decide +kernel
theorem dX5_init_19 : decode cX5_init 19 = .ok (.aload_n 0, 1) := by decide +kernel
theorem dX5_init_20 : decode cX5_init 20 = .ok (.iconst 0, 1) := by decide +kernel
theorem dX5_init_21 : decode cX5_init 21 = .ok (.putfield 21, 3) := by decide +kernel
theorem dX5_init_24 : decode cX5_init 24 = .ok (.aload_n 0, 1) := by decide +kernel
theorem dX5_init_25 : decode cX5_init 25 = .ok (.iconst 0, 1) := by decide +kernel
theorem dX5_init_26 : decode cX5_init 26 = .ok (.putfield 24, 3) := by decide +kernel
theorem dX5_init_29 : decode cX5_init 29 = .ok (.return_, 1) := by decide +kernel
set_option maxRecDepth 20000 in
theorem ggX5_readInto_X2_reset : GoodIn wsX5_readInto wsX2_reset := goodIn_r _ [8, 9, 10, 11, 12, 13, 14, 15, 16, 17, 18, 19, 20, 21, 22, 23, 24, 25, 26, 27, 28, 29, 30, 31, 32, 33, 34, 35, 36, 37, 98, 99, 100, 101, 102, 103, 104, 105, 106, 107, 108, 109, 110, 111, 112, 113, 114, 115, 116, 117, 118, 119, 120, 121] (by decide +kernel) (by decide +kernel)
set_option maxRecDepth 20000 in
theorem gX5_readInto_X2_reset : GoodIn wsX5_readInto (wsV RX5 27 RX2 yX2_reset wsX2_reset) := goodIn_app (goodIn_of _ (by decide +kernel)) ggX5_readInto_X2_reset
set_option maxRecDepth 20000 in
theorem ggX5_readInto_X5_takes : GoodIn wsX5_readInto wsX5_takes := goodIn_r _ [42, 1, 43, 44, 45, 41, 46, 47, 48, 49, 50, 2, 51, 52, 53, 54, 55, 56, 57, 58, 59, 60, 61, 62, 63, 64, 65, 66, 67, 68, 69, 70, 71, 3, 72, 73, 74, 75, 76, 77, 78, 79, 80, 81, 82, 83, 84, 85, 86, 87, 88, 89, 90, 91, 25, 92, 27, 30, 31, 32, 33, 34, 35, 36, 37, 93, 94, 95, 96, 97, 98, 99, 100, 101, 102, 103, 104, 105, 106, 107, 108, 109, 110, 111, 112, 113, 114, 115, 116, 117, 118, 119, 120, 121] (by decide +kernel) (by decide +kernel)
set_option maxRecDepth 20000 in
theorem gX5_readInto_X5_takes : GoodIn wsX5_readInto (wsV RX5 32 RX5 yX5_takes wsX5_takes) := goodIn_app (goodIn_of _ (by decide +kernel)) ggX5_readInto_X5_takes
theorem dX5_readInto_0 : decode cX5_readInto 0 = .ok (.aload_n 1, 1) := by decide +kernel
theorem dX5_readInto_1 : decode cX5_readInto 1 = .ok (.invokevirtual 27, 3) := by decide +kernel
theorem dX5_readInto_4 : decode cX5_readInto 4 = .ok (.aload_n 0, 1) := by decide +kernel
theorem dX5_readInto_5 : decode cX5_readInto 5 = .ok (.iconst 0, 1) := by decide +kernel
theorem dX5_readInto_6 : decode cX5_readInto 6 = .ok (.putfield 11, 3) := by decide +kernel
theorem dX5_readInto_9 : decode cX5_readInto 9 = .ok (.aload_n 0, 1) := by decide +kernel
theorem dX5_readInto_10 : decode cX5_readInto 10 = .ok (.iconst 0, 1) := by decide +kernel
theorem dX5_readInto_11 : decode cX5_readInto 11 = .ok (.putfield 18, 3) := by decide +kernel
theorem dX5_readInto_14 : decode cX5_readInto 14 = .ok (.aload_n 0, 1) := by decide +kernel
theorem dX5_readInto_15 : decode cX5_readInto 15 = .ok (.iconst 0, 1) := by decide +kernel
theorem dX5_readInto_16 : decode cX5_readInto 16 = .ok (.putfield 21, 3) := by decide +kernel
theorem dX5_readInto_19 : decode cX5_readInto 19 = .ok (.iconst 0, 1) := by decide +kernel
theorem dX5_readInto_20 : decode cX5_readInto 20 = .ok (.istore 4, 2) := by decide +kernel
theorem dX5_readInto_22 : decode cX5_readInto 22 = .ok (.iload 4, 2) := by decide +kernel
theorem dX5_readInto_24 : decode cX5_readInto 24 = .ok (.iload_n 3, 1) := by decide +kernel
theorem dX5_readInto_25 : decode cX5_readInto 25 = .ok (.if_icmp .ge 31, 3) := by decide +kernel
theorem dX5_readInto_28 : decode cX5_readInto 28 = .ok (.iload 4, 2) := by decide +kernel
theorem dX5_readInto_30 : decode cX5_readInto 30 = .ok (.aload_n 2, 1) := by decide +kernel
theorem dX5_readInto_31 : decode cX5_readInto 31 = .ok (.arraylength, 1) := by decide +kernel
theorem dX5_readInto_32 : decode cX5_readInto 32 = .ok (.if_icmp .ge 24, 3) := by decide +kernel
theorem dX5_readInto_35 : decode cX5_readInto 35 = .ok (.aload_n 0, 1) := by decide +kernel
theorem dX5_readInto_36 : decode cX5_readInto 36 = .ok (.aload_n 1, 1) := by decide +kernel
theorem dX5_readInto_37 : decode cX5_readInto 37 = .ok (.aload_n 2, 1) := by decide +kernel
theorem dX5_readInto_38 : decode cX5_readInto 38 = .ok (.iload 4, 2) := by decide +kernel
theorem dX5_readInto_40 : decode cX5_readInto 40 = .ok (.iaload, 1) := by decide +kernel
theorem dX5_readInto_41 : decode cX5_readInto 41 = .ok (.invokevirtual 32, 3) := by decide +kernel
theorem dX5_readInto_44 : decode cX5_readInto 44 = .ok (.ifCond .ne 6, 3) := by decide +kernel
theorem dX5_readInto_47 : decode cX5_readInto 47 = .ok (.iload 4, 2) := by decide +kernel
theorem dX5_readInto_49 : decode cX5_readInto 49 = .ok (.ireturn, 1) := by decide +kernel
theorem dX5_readInto_50 : decode cX5_readInto 50 = .ok (.iinc 4 1, 3) := by decide +kernel
theorem dX5_readInto_53 : decode cX5_readInto 53 = .ok (.goto (-31), 3) := by decide +kernel
theorem dX5_readInto_56 : decode cX5_readInto 56 = .ok (.aload_n 0, 1) := by decide +kernel
theorem dX5_readInto_57 : decode cX5_readInto 57 = .ok (.getfield 11, 3) := by decide +kernel
theorem dX5_readInto_60 : decode cX5_readInto 60 = .ok (.iconst 1, 1) := by decide +kernel
theorem dX5_readInto_61 : decode cX5_readInto 61 = .ok (.if_icmp .ne 8, 3) := by decide +kernel
theorem dX5_readInto_64 : decode cX5_readInto 64 = .ok (.bipush (-9), 2) := by decide +kernel
theorem dX5_readInto_66 : decode cX5_readInto 66 = .ok (.goto 4, 3) := by decide +kernel
theorem dX5_readInto_69 : decode cX5_readInto 69 = .ok (.iload_n 3, 1) := by decide +kernel
theorem dX5_readInto_70 : decode cX5_readInto 70 = .ok (.ireturn, 1) := by decide +kernel
set_option maxRecDepth 20000 in
theorem ggX5_takes_X5_takesFirstSign : GoodIn wsX5_takes wsX5_takesFirstSign := goodIn_r _ [6, 1, 7, 8, 9, 5, 10, 11, 12, 13, 14, 15, 16, 17, 18, 65, 66, 67, 68, 69] (by decide +kernel) (by decide +kernel)
set_option maxRecDepth 20000 in
theorem gX5_takes_X5_takesFirstSign : GoodIn wsX5_takes (wsV RX5 36 RX5 yX5_takesFirstSign wsX5_takesFirstSign) := goodIn_app (goodIn_of _ (by decide +kernel)) ggX5_takes_X5_takesFirstSign
set_option maxRecDepth 20000 in
theorem ggX5_takes_X5_isDigit : GoodIn wsX5_takes wsX5_isDigit := goodIn_r _ [15] (by decide +kernel) (by decide +kernel)
set_option maxRecDepth 20000 in
theorem gX5_takes_X5_isDigit : GoodIn wsX5_takes (va_wsS RX5 40 yX5_isDigit wsX5_isDigit) := goodIn_app (goodIn_of _ (by decide +kernel)) ggX5_takes_X5_isDigit
set_option maxRecDepth 20000 in
theorem ggX5_takes_X5_takesDigit : GoodIn wsX5_takes wsX5_takesDigit := goodIn_r _ [22, 1, 12, 23, 24, 25, 5, 26, 11, 16, 17, 18, 27, 28, 29, 30, 31, 32, 33, 34, 35, 36, 37, 38, 39, 40, 41, 42, 43, 44, 45, 46, 47, 48, 49, 50, 51, 52, 53, 54, 55, 56, 57, 58, 59, 60, 61, 62, 63, 64, 65, 66, 67, 68, 69, 70, 71, 72, 73, 74, 75, 76, 77, 78, 79, 80, 81, 82, 83, 84, 85, 86, 87, 88, 89, 90, 91, 92, 93] (by decide +kernel) (by decide +kernel)
set_option maxRecDepth 20000 in
theorem gX5_takes_X5_takesDigit : GoodIn wsX5_takes (wsV RX5 43 RX5 yX5_takesDigit wsX5_takesDigit) := goodIn_app (goodIn_of _ (by decide +kernel)) ggX5_takes_X5_takesDigit
theorem dX5_takes_0 : decode cX5_takes 0 = .ok (.aload_n 0, 1) := by decide +kernel
theorem dX5_takes_1 : decode cX5_takes 1 = .ok (.getfield 11, 3) := by decide +kernel
theorem dX5_takes_4 : decode cX5_takes 4 = .ok (.ifCond .ne 20, 3) := by decide +kernel
theorem dX5_takes_7 : decode cX5_takes 7 = .ok (.aload_n 0, 1) := by decide +kernel
theorem dX5_takes_8 : decode cX5_takes 8 = .ok (.iconst 1, 1) := by decide +kernel
theorem dX5_takes_9 : decode cX5_takes 9 = .ok (.putfield 11, 3) := by decide +kernel
theorem dX5_takes_12 : decode cX5_takes 12 = .ok (.iload_n 2, 1) := by decide +kernel
theorem dX5_takes_13 : decode cX5_takes 13 = .ok (.bipush 69, 2) := by decide +kernel
theorem dX5_takes_15 : decode cX5_takes 15 = .ok (.if_icmp .ne 7, 3) := by decide +kernel
theorem dX5_takes_18 : decode cX5_takes 18 = .ok (.iconst 1, 1) := by decide +kernel
theorem dX5_takes_19 : decode cX5_takes 19 = .ok (.goto 4, 3) := by decide +kernel
theorem dX5_takes_22 : decode cX5_takes 22 = .ok (.iconst 0, 1) := by decide +kernel
theorem dX5_takes_23 : decode cX5_takes 23 = .ok (.ireturn, 1) := by decide +kernel
theorem dX5_takes_24 : decode cX5_takes 24 = .ok (.aload_n 0, 1) := by decide +kernel
theorem dX5_takes_25 : decode cX5_takes 25 = .ok (.getfield 11, 3) := by decide +kernel
theorem dX5_takes_28 : decode cX5_takes 28 = .ok (.iconst 1, 1) := by decide +kernel
theorem dX5_takes_29 : decode cX5_takes 29 = .ok (.if_icmp .ne 9, 3) := by decide +kernel
theorem dX5_takes_32 : decode cX5_takes 32 = .ok (.aload_n 0, 1) := by decide +kernel
theorem dX5_takes_33 : decode cX5_takes 33 = .ok (.iload_n 2, 1) := by decide +kernel
theorem dX5_takes_34 : decode cX5_takes 34 = .ok (.invokevirtual 36, 3) := by decide +kernel
theorem dX5_takes_37 : decode cX5_takes 37 = .ok (.ireturn, 1) := by decide +kernel
theorem dX5_takes_38 : decode cX5_takes 38 = .ok (.iload_n 2, 1) := by decide +kernel
theorem dX5_takes_39 : decode cX5_takes 39 = .ok (.invokestatic 40, 3) := by decide +kernel
theorem dX5_takes_42 : decode cX5_takes 42 = .ok (.ifCond .eq 19, 3) := by decide +kernel
theorem dX5_takes_45 : decode cX5_takes 45 = .ok (.aload_n 0, 1) := by decide +kernel
theorem dX5_takes_46 : decode cX5_takes 46 = .ok (.aload_n 1, 1) := by decide +kernel
theorem dX5_takes_47 : decode cX5_takes 47 = .ok (.iload_n 2, 1) := by decide +kernel
theorem dX5_takes_48 : decode cX5_takes 48 = .ok (.bipush 48, 2) := by decide +kernel
theorem dX5_takes_50 : decode cX5_takes 50 = .ok (.isub, 1) := by decide +kernel
theorem dX5_takes_51 : decode cX5_takes 51 = .ok (.invokevirtual 43, 3) := by decide +kernel
theorem dX5_takes_54 : decode cX5_takes 54 = .ok (.ifCond .eq 7, 3) := by decide +kernel
theorem dX5_takes_57 : decode cX5_takes 57 = .ok (.iconst 1, 1) := by decide +kernel
theorem dX5_takes_58 : decode cX5_takes 58 = .ok (.goto 4, 3) := by decide +kernel
theorem dX5_takes_61 : decode cX5_takes 61 = .ok (.iconst 0, 1) := by decide +kernel
theorem dX5_takes_62 : decode cX5_takes 62 = .ok (.ireturn, 1) := by decide +kernel
theorem dX5_isDigit_0 : decode cX5_isDigit 0 = .ok (.iload_n 0, 1) := by decide +kernel
theorem dX5_isDigit_1 : decode cX5_isDigit 1 = .ok (.bipush 48, 2) := by decide +kernel
theorem dX5_isDigit_3 : decode cX5_isDigit 3 = .ok (.if_icmp .lt 13, 3) := by decide +kernel
theorem dX5_isDigit_6 : decode cX5_isDigit 6 = .ok (.iload_n 0, 1) := by decide +kernel
theorem dX5_isDigit_7 : decode cX5_isDigit 7 = .ok (.bipush 57, 2) := by decide +kernel
theorem dX5_isDigit_9 : decode cX5_isDigit 9 = .ok (.if_icmp .gt 7, 3) := by decide +kernel
theorem dX5_isDigit_12 : decode cX5_isDigit 12 = .ok (.iconst 1, 1) := by decide +kernel
theorem dX5_isDigit_13 : decode cX5_isDigit 13 = .ok (.goto 4, 3) := by decide +kernel
theorem dX5_isDigit_16 : decode cX5_isDigit 16 = .ok (.iconst 0, 1) := by decide +kernel
theorem dX5_isDigit_17 : decode cX5_isDigit 17 = .ok (.ireturn, 1) := by decide +kernel
set_option maxRecDepth 20000 in
theorem ggX5_takesFirstSign_X5_takesFirstDigit : GoodIn wsX5_takesFirstSign wsX5_takesFirstDigit := goodIn_r _ [6, 7, 8, 1, 9, 10, 5, 11, 12, 13, 14, 15, 16, 17, 18, 19] (by decide +kernel) (by decide +kernel)
set_option maxRecDepth 20000 in
theorem gX5_takesFirstSign_X5_takesFirstDigit : GoodIn wsX5_takesFirstSign (wsV RX5 46 RX5 yX5_takesFirstDigit wsX5_takesFirstDigit) := goodIn_app (goodIn_of _ (by decide +kernel)) ggX5_takesFirstSign_X5_takesFirstDigit
theorem dX5_takesFirstSign_0 : decode cX5_takesFirstSign 0 = .ok (.iload_n 1, 1) := by decide +kernel
theorem dX5_takesFirstSign_1 : decode cX5_takesFirstSign 1 = .ok (.lookupswitch 57 #[(64, 35), (111, 42), (115, 49)], 35) := by decide +kernel
theorem dX5_takesFirstSign_36 : decode cX5_takesFirstSign 36 = .ok (.aload_n 0, 1) := by decide +kernel
theorem dX5_takesFirstSign_37 : decode cX5_takesFirstSign 37 = .ok (.iconst 2, 1) := by decide +kernel
theorem dX5_takesFirstSign_38 : decode cX5_takesFirstSign 38 = .ok (.putfield 11, 3) := by decide +kernel
theorem dX5_takesFirstSign_41 : decode cX5_takesFirstSign 41 = .ok (.iconst 1, 1) := by decide +kernel
theorem dX5_takesFirstSign_42 : decode cX5_takesFirstSign 42 = .ok (.ireturn, 1) := by decide +kernel
theorem dX5_takesFirstSign_43 : decode cX5_takesFirstSign 43 = .ok (.aload_n 0, 1) := by decide +kernel
theorem dX5_takesFirstSign_44 : decode cX5_takesFirstSign 44 = .ok (.iconst 5, 1) := by decide +kernel
theorem dX5_takesFirstSign_45 : decode cX5_takesFirstSign 45 = .ok (.putfield 11, 3) := by decide +kernel
theorem dX5_takesFirstSign_48 : decode cX5_takesFirstSign 48 = .ok (.iconst 1, 1) := by decide +kernel
theorem dX5_takesFirstSign_49 : decode cX5_takesFirstSign 49 = .ok (.ireturn, 1) := by decide +kernel
theorem dX5_takesFirstSign_50 : decode cX5_takesFirstSign 50 = .ok (.aload_n 0, 1) := by decide +kernel
theorem dX5_takesFirstSign_51 : decode cX5_takesFirstSign 51 = .ok (.bipush 6, 2) := by decide +kernel
theorem dX5_takesFirstSign_53 : decode cX5_takesFirstSign 53 = .ok (.putfield 11, 3) := by decide +kernel
theorem dX5_takesFirstSign_56 : decode cX5_takesFirstSign 56 = .ok (.iconst 1, 1) := by decide +kernel
theorem dX5_takesFirstSign_57 : decode cX5_takesFirstSign 57 = .ok (.ireturn, 1) := by decide +kernel
theorem dX5_takesFirstSign_58 : decode cX5_takesFirstSign 58 = .ok (.aload_n 0, 1) := by decide +kernel
theorem dX5_takesFirstSign_59 : decode cX5_takesFirstSign 59 = .ok (.iload_n 1, 1) := by decide +kernel
theorem dX5_takesFirstSign_60 : decode cX5_takesFirstSign 60 = .ok (.invokevirtual 46, 3) := by decide +kernel
theorem dX5_takesFirstSign_63 : decode cX5_takesFirstSign 63 = .ok (.ireturn, 1) := by decide +kernel
set_option maxRecDepth 20000 in
theorem ggX5_takesFirstDigit_X5_isDigit : GoodIn wsX5_takesFirstDigit wsX5_isDigit := goodIn_r _ [7] (by decide +kernel) (by decide +kernel)
set_option maxRecDepth 20000 in
theorem gX5_takesFirstDigit_X5_isDigit : GoodIn wsX5_takesFirstDigit (va_wsS RX5 40 yX5_isDigit wsX5_isDigit) := goodIn_app (goodIn_of _ (by decide +kernel)) ggX5_takesFirstDigit_X5_isDigit
set_option maxRecDepth 20000 in
theorem ggX5_takesFirstDigit_X6_isCell : GoodIn wsX5_takesFirstDigit wsX6_isCell := goodIn_r _ [10] (by decide +kernel) (by decide +kernel)
set_option maxRecDepth 20000 in
theorem gX5_takesFirstDigit_X6_isCell_n49 : GoodIn wsX5_takesFirstDigit (wsX6_isCell) := ggX5_takesFirstDigit_X6_isCell
theorem dX5_takesFirstDigit_0 : decode cX5_takesFirstDigit 0 = .ok (.iload_n 1, 1) := by decide +kernel
theorem dX5_takesFirstDigit_1 : decode cX5_takesFirstDigit 1 = .ok (.invokestatic 40, 3) := by decide +kernel
theorem dX5_takesFirstDigit_4 : decode cX5_takesFirstDigit 4 = .ok (.ifCond .eq 13, 3) := by decide +kernel
theorem dX5_takesFirstDigit_7 : decode cX5_takesFirstDigit 7 = .ok (.aload_n 0, 1) := by decide +kernel
theorem dX5_takesFirstDigit_8 : decode cX5_takesFirstDigit 8 = .ok (.getfield 18, 3) := by decide +kernel
theorem dX5_takesFirstDigit_11 : decode cX5_takesFirstDigit 11 = .ok (.invokestatic 49, 3) := by decide +kernel
theorem dX5_takesFirstDigit_14 : decode cX5_takesFirstDigit 14 = .ok (.ifCond .ne 5, 3) := by decide +kernel
theorem dX5_takesFirstDigit_17 : decode cX5_takesFirstDigit 17 = .ok (.iconst 0, 1) := by decide +kernel
theorem dX5_takesFirstDigit_18 : decode cX5_takesFirstDigit 18 = .ok (.ireturn, 1) := by decide +kernel
theorem dX5_takesFirstDigit_19 : decode cX5_takesFirstDigit 19 = .ok (.aload_n 0, 1) := by decide +kernel
theorem dX5_takesFirstDigit_20 : decode cX5_takesFirstDigit 20 = .ok (.iload_n 1, 1) := by decide +kernel
theorem dX5_takesFirstDigit_21 : decode cX5_takesFirstDigit 21 = .ok (.bipush 48, 2) := by decide +kernel
theorem dX5_takesFirstDigit_23 : decode cX5_takesFirstDigit 23 = .ok (.isub, 1) := by decide +kernel
theorem dX5_takesFirstDigit_24 : decode cX5_takesFirstDigit 24 = .ok (.putfield 15, 3) := by decide +kernel
theorem dX5_takesFirstDigit_27 : decode cX5_takesFirstDigit 27 = .ok (.aload_n 0, 1) := by decide +kernel
theorem dX5_takesFirstDigit_28 : decode cX5_takesFirstDigit 28 = .ok (.iconst 4, 1) := by decide +kernel
theorem dX5_takesFirstDigit_29 : decode cX5_takesFirstDigit 29 = .ok (.putfield 11, 3) := by decide +kernel
theorem dX5_takesFirstDigit_32 : decode cX5_takesFirstDigit 32 = .ok (.iconst 1, 1) := by decide +kernel
theorem dX5_takesFirstDigit_33 : decode cX5_takesFirstDigit 33 = .ok (.ireturn, 1) := by decide +kernel
set_option maxRecDepth 20000 in
theorem ggX5_takesDigit_X5_takesCell : GoodIn wsX5_takesDigit wsX5_takesCell := goodIn_r _ [7, 8, 1, 9, 10, 11, 50, 51, 52, 53, 54] (by decide +kernel) (by decide +kernel)
set_option maxRecDepth 20000 in
theorem gX5_takesDigit_X5_takesCell : GoodIn wsX5_takesDigit (wsV RX5 52 RX5 yX5_takesCell wsX5_takesCell) := goodIn_app (goodIn_of _ (by decide +kernel)) ggX5_takesDigit_X5_takesCell
set_option maxRecDepth 20000 in
theorem ggX5_takesDigit_X5_takesValue : GoodIn wsX5_takesDigit wsX5_takesValue := goodIn_r _ [15, 16, 8, 17, 18, 1, 55, 56, 57, 58, 59, 60, 61, 62, 63, 64, 65, 50, 51, 52, 53, 54] (by decide +kernel) (by decide +kernel)
set_option maxRecDepth 20000 in
theorem gX5_takesDigit_X5_takesValue : GoodIn wsX5_takesDigit (wsV RX5 55 RX5 yX5_takesValue wsX5_takesValue) := goodIn_app (goodIn_of _ (by decide +kernel)) ggX5_takesDigit_X5_takesValue
set_option maxRecDepth 20000 in
theorem ggX5_takesDigit_X5_takesOwner : GoodIn wsX5_takesDigit wsX5_takesOwner := goodIn_r _ [22, 18, 1, 50, 51, 52, 53, 54] (by decide +kernel) (by decide +kernel)
set_option maxRecDepth 20000 in
theorem gX5_takesDigit_X5_takesOwner : GoodIn wsX5_takesDigit (wsV RX5 58 RX5 yX5_takesOwner wsX5_takesOwner) := goodIn_app (goodIn_of _ (by decide +kernel)) ggX5_takesDigit_X5_takesOwner
set_option maxRecDepth 20000 in
theorem ggX5_takesDigit_X5_takesChannel : GoodIn wsX5_takesDigit wsX5_takesChannel := goodIn_r _ [26, 27, 28, 29, 1, 30, 10, 31, 55, 56, 57, 58, 59, 60, 61, 62, 63, 64, 65, 66, 67, 68, 69, 70, 71, 72, 73, 74, 75, 76, 77, 78, 50, 51, 52, 53, 54] (by decide +kernel) (by decide +kernel)
set_option maxRecDepth 20000 in
theorem gX5_takesDigit_X5_takesChannel : GoodIn wsX5_takesDigit (wsV RX5 61 RX5 yX5_takesChannel wsX5_takesChannel) := goodIn_app (goodIn_of _ (by decide +kernel)) ggX5_takesDigit_X5_takesChannel
set_option maxRecDepth 20000 in
theorem ggX5_takesDigit_X5_takesHead : GoodIn wsX5_takesDigit wsX5_takesHead := goodIn_r _ [35, 27, 29, 1, 9, 10, 11, 36, 37, 38, 39, 40, 41, 42, 43, 44, 45, 46, 47, 48, 49, 55, 56, 57, 58, 59, 60, 61, 62, 63, 64, 65, 50, 51, 52, 53, 54, 66, 67, 68, 69, 70, 71, 72, 73, 74, 75, 76, 77, 78] (by decide +kernel) (by decide +kernel)
set_option maxRecDepth 20000 in
theorem gX5_takesDigit_X5_takesHead : GoodIn wsX5_takesDigit (wsV RX5 64 RX5 yX5_takesHead wsX5_takesHead) := goodIn_app (goodIn_of _ (by decide +kernel)) ggX5_takesDigit_X5_takesHead
theorem dX5_takesDigit_0 : decode cX5_takesDigit 0 = .ok (.aload_n 0, 1) := by decide +kernel
theorem dX5_takesDigit_1 : decode cX5_takesDigit 1 = .ok (.getfield 11, 3) := by decide +kernel
theorem dX5_takesDigit_4 : decode cX5_takesDigit 4 = .ok (.tableswitch 107 2 7 #[40, 52, 66, 81, 87, 94], 40) := by decide +kernel
theorem dX5_takesDigit_44 : decode cX5_takesDigit 44 = .ok (.aload_n 0, 1) := by decide +kernel
theorem dX5_takesDigit_45 : decode cX5_takesDigit 45 = .ok (.iload_n 2, 1) := by decide +kernel
theorem dX5_takesDigit_46 : decode cX5_takesDigit 46 = .ok (.putfield 15, 3) := by decide +kernel
theorem dX5_takesDigit_49 : decode cX5_takesDigit 49 = .ok (.aload_n 0, 1) := by decide +kernel
theorem dX5_takesDigit_50 : decode cX5_takesDigit 50 = .ok (.iconst 3, 1) := by decide +kernel
theorem dX5_takesDigit_51 : decode cX5_takesDigit 51 = .ok (.putfield 11, 3) := by decide +kernel
theorem dX5_takesDigit_54 : decode cX5_takesDigit 54 = .ok (.iconst 1, 1) := by decide +kernel
theorem dX5_takesDigit_55 : decode cX5_takesDigit 55 = .ok (.ireturn, 1) := by decide +kernel
theorem dX5_takesDigit_56 : decode cX5_takesDigit 56 = .ok (.aload_n 0, 1) := by decide +kernel
theorem dX5_takesDigit_57 : decode cX5_takesDigit 57 = .ok (.bipush 10, 2) := by decide +kernel
theorem dX5_takesDigit_59 : decode cX5_takesDigit 59 = .ok (.aload_n 0, 1) := by decide +kernel
theorem dX5_takesDigit_60 : decode cX5_takesDigit 60 = .ok (.getfield 15, 3) := by decide +kernel
theorem dX5_takesDigit_63 : decode cX5_takesDigit 63 = .ok (.imul, 1) := by decide +kernel
theorem dX5_takesDigit_64 : decode cX5_takesDigit 64 = .ok (.iload_n 2, 1) := by decide +kernel
theorem dX5_takesDigit_65 : decode cX5_takesDigit 65 = .ok (.iadd, 1) := by decide +kernel
theorem dX5_takesDigit_66 : decode cX5_takesDigit 66 = .ok (.invokevirtual 52, 3) := by decide +kernel
theorem dX5_takesDigit_69 : decode cX5_takesDigit 69 = .ok (.ireturn, 1) := by decide +kernel
theorem dX5_takesDigit_70 : decode cX5_takesDigit 70 = .ok (.aload_n 0, 1) := by decide +kernel
theorem dX5_takesDigit_71 : decode cX5_takesDigit 71 = .ok (.aload_n 1, 1) := by decide +kernel
theorem dX5_takesDigit_72 : decode cX5_takesDigit 72 = .ok (.bipush 10, 2) := by decide +kernel
theorem dX5_takesDigit_74 : decode cX5_takesDigit 74 = .ok (.aload_n 0, 1) := by decide +kernel
theorem dX5_takesDigit_75 : decode cX5_takesDigit 75 = .ok (.getfield 15, 3) := by decide +kernel
theorem dX5_takesDigit_78 : decode cX5_takesDigit 78 = .ok (.imul, 1) := by decide +kernel
theorem dX5_takesDigit_79 : decode cX5_takesDigit 79 = .ok (.iload_n 2, 1) := by decide +kernel
theorem dX5_takesDigit_80 : decode cX5_takesDigit 80 = .ok (.iadd, 1) := by decide +kernel
theorem dX5_takesDigit_81 : decode cX5_takesDigit 81 = .ok (.invokevirtual 55, 3) := by decide +kernel
theorem dX5_takesDigit_84 : decode cX5_takesDigit 84 = .ok (.ireturn, 1) := by decide +kernel
theorem dX5_takesDigit_85 : decode cX5_takesDigit 85 = .ok (.aload_n 0, 1) := by decide +kernel
theorem dX5_takesDigit_86 : decode cX5_takesDigit 86 = .ok (.iload_n 2, 1) := by decide +kernel
theorem dX5_takesDigit_87 : decode cX5_takesDigit 87 = .ok (.invokevirtual 58, 3) := by decide +kernel
theorem dX5_takesDigit_90 : decode cX5_takesDigit 90 = .ok (.ireturn, 1) := by decide +kernel
theorem dX5_takesDigit_91 : decode cX5_takesDigit 91 = .ok (.aload_n 0, 1) := by decide +kernel
theorem dX5_takesDigit_92 : decode cX5_takesDigit 92 = .ok (.aload_n 1, 1) := by decide +kernel
theorem dX5_takesDigit_93 : decode cX5_takesDigit 93 = .ok (.iload_n 2, 1) := by decide +kernel
theorem dX5_takesDigit_94 : decode cX5_takesDigit 94 = .ok (.invokevirtual 61, 3) := by decide +kernel
theorem dX5_takesDigit_97 : decode cX5_takesDigit 97 = .ok (.ireturn, 1) := by decide +kernel
theorem dX5_takesDigit_98 : decode cX5_takesDigit 98 = .ok (.aload_n 0, 1) := by decide +kernel
theorem dX5_takesDigit_99 : decode cX5_takesDigit 99 = .ok (.iload_n 2, 1) := by decide +kernel
theorem dX5_takesDigit_100 : decode cX5_takesDigit 100 = .ok (.putfield 15, 3) := by decide +kernel
theorem dX5_takesDigit_103 : decode cX5_takesDigit 103 = .ok (.aload_n 0, 1) := by decide +kernel
theorem dX5_takesDigit_104 : decode cX5_takesDigit 104 = .ok (.bipush 8, 2) := by decide +kernel
theorem dX5_takesDigit_106 : decode cX5_takesDigit 106 = .ok (.putfield 11, 3) := by decide +kernel
theorem dX5_takesDigit_109 : decode cX5_takesDigit 109 = .ok (.iconst 1, 1) := by decide +kernel
theorem dX5_takesDigit_110 : decode cX5_takesDigit 110 = .ok (.ireturn, 1) := by decide +kernel
theorem dX5_takesDigit_111 : decode cX5_takesDigit 111 = .ok (.aload_n 0, 1) := by decide +kernel
theorem dX5_takesDigit_112 : decode cX5_takesDigit 112 = .ok (.aload_n 1, 1) := by decide +kernel
theorem dX5_takesDigit_113 : decode cX5_takesDigit 113 = .ok (.bipush 10, 2) := by decide +kernel
theorem dX5_takesDigit_115 : decode cX5_takesDigit 115 = .ok (.aload_n 0, 1) := by decide +kernel
theorem dX5_takesDigit_116 : decode cX5_takesDigit 116 = .ok (.getfield 15, 3) := by decide +kernel
theorem dX5_takesDigit_119 : decode cX5_takesDigit 119 = .ok (.imul, 1) := by decide +kernel
theorem dX5_takesDigit_120 : decode cX5_takesDigit 120 = .ok (.iload_n 2, 1) := by decide +kernel
theorem dX5_takesDigit_121 : decode cX5_takesDigit 121 = .ok (.iadd, 1) := by decide +kernel
theorem dX5_takesDigit_122 : decode cX5_takesDigit 122 = .ok (.invokevirtual 64, 3) := by decide +kernel
theorem dX5_takesDigit_125 : decode cX5_takesDigit 125 = .ok (.ireturn, 1) := by decide +kernel
set_option maxRecDepth 20000 in
theorem ggX5_takesCell_X6_isCell : GoodIn wsX5_takesCell wsX6_isCell := goodIn_r _ [5] (by decide +kernel) (by decide +kernel)
set_option maxRecDepth 20000 in
theorem gX5_takesCell_X6_isCell_n49 : GoodIn wsX5_takesCell (wsX6_isCell) := ggX5_takesCell_X6_isCell
theorem dX5_takesCell_0 : decode cX5_takesCell 0 = .ok (.iload_n 1, 1) := by decide +kernel
theorem dX5_takesCell_1 : decode cX5_takesCell 1 = .ok (.invokestatic 49, 3) := by decide +kernel
theorem dX5_takesCell_4 : decode cX5_takesCell 4 = .ok (.ifCond .ne 5, 3) := by decide +kernel
theorem dX5_takesCell_7 : decode cX5_takesCell 7 = .ok (.iconst 0, 1) := by decide +kernel
theorem dX5_takesCell_8 : decode cX5_takesCell 8 = .ok (.ireturn, 1) := by decide +kernel
theorem dX5_takesCell_9 : decode cX5_takesCell 9 = .ok (.aload_n 0, 1) := by decide +kernel
theorem dX5_takesCell_10 : decode cX5_takesCell 10 = .ok (.iload_n 1, 1) := by decide +kernel
theorem dX5_takesCell_11 : decode cX5_takesCell 11 = .ok (.putfield 18, 3) := by decide +kernel
theorem dX5_takesCell_14 : decode cX5_takesCell 14 = .ok (.aload_n 0, 1) := by decide +kernel
theorem dX5_takesCell_15 : decode cX5_takesCell 15 = .ok (.iconst 1, 1) := by decide +kernel
theorem dX5_takesCell_16 : decode cX5_takesCell 16 = .ok (.putfield 11, 3) := by decide +kernel
theorem dX5_takesCell_19 : decode cX5_takesCell 19 = .ok (.iconst 1, 1) := by decide +kernel
theorem dX5_takesCell_20 : decode cX5_takesCell 20 = .ok (.ireturn, 1) := by decide +kernel
theorem dX5_takesValue_0 : decode cX5_takesValue 0 = .ok (.aload_n 1, 1) := by decide +kernel
theorem dX5_takesValue_1 : decode cX5_takesValue 1 = .ok (.getfield 67, 3) := by decide +kernel
theorem dX5_takesValue_4 : decode cX5_takesValue 4 = .ok (.aload_n 0, 1) := by decide +kernel
theorem dX5_takesValue_5 : decode cX5_takesValue 5 = .ok (.getfield 18, 3) := by decide +kernel
theorem dX5_takesValue_8 : decode cX5_takesValue 8 = .ok (.iload_n 2, 1) := by decide +kernel
theorem dX5_takesValue_9 : decode cX5_takesValue 9 = .ok (.iastore, 1) := by decide +kernel
theorem dX5_takesValue_10 : decode cX5_takesValue 10 = .ok (.aload_n 1, 1) := by decide +kernel
theorem dX5_takesValue_11 : decode cX5_takesValue 11 = .ok (.getfield 71, 3) := by decide +kernel
theorem dX5_takesValue_14 : decode cX5_takesValue 14 = .ok (.aload_n 0, 1) := by decide +kernel
theorem dX5_takesValue_15 : decode cX5_takesValue 15 = .ok (.getfield 18, 3) := by decide +kernel
theorem dX5_takesValue_18 : decode cX5_takesValue 18 = .ok (.aload_n 0, 1) := by decide +kernel
theorem dX5_takesValue_19 : decode cX5_takesValue 19 = .ok (.getfield 21, 3) := by decide +kernel
theorem dX5_takesValue_22 : decode cX5_takesValue 22 = .ok (.iastore, 1) := by decide +kernel
theorem dX5_takesValue_23 : decode cX5_takesValue 23 = .ok (.aload_n 0, 1) := by decide +kernel
theorem dX5_takesValue_24 : decode cX5_takesValue 24 = .ok (.dup, 1) := by decide +kernel
theorem dX5_takesValue_25 : decode cX5_takesValue 25 = .ok (.getfield 18, 3) := by decide +kernel
theorem dX5_takesValue_28 : decode cX5_takesValue 28 = .ok (.iconst 1, 1) := by decide +kernel
theorem dX5_takesValue_29 : decode cX5_takesValue 29 = .ok (.iadd, 1) := by decide +kernel
theorem dX5_takesValue_30 : decode cX5_takesValue 30 = .ok (.putfield 18, 3) := by decide +kernel
theorem dX5_takesValue_33 : decode cX5_takesValue 33 = .ok (.aload_n 0, 1) := by decide +kernel
theorem dX5_takesValue_34 : decode cX5_takesValue 34 = .ok (.iconst 1, 1) := by decide +kernel
theorem dX5_takesValue_35 : decode cX5_takesValue 35 = .ok (.putfield 11, 3) := by decide +kernel
theorem dX5_takesValue_38 : decode cX5_takesValue 38 = .ok (.iconst 1, 1) := by decide +kernel
theorem dX5_takesValue_39 : decode cX5_takesValue 39 = .ok (.ireturn, 1) := by decide +kernel
theorem dX5_takesOwner_0 : decode cX5_takesOwner 0 = .ok (.iload_n 1, 1) := by decide +kernel
theorem dX5_takesOwner_1 : decode cX5_takesOwner 1 = .ok (.iconst 4, 1) := by decide +kernel
theorem dX5_takesOwner_2 : decode cX5_takesOwner 2 = .ok (.if_icmp .lt 5, 3) := by decide +kernel
theorem dX5_takesOwner_5 : decode cX5_takesOwner 5 = .ok (.iconst 0, 1) := by decide +kernel
theorem dX5_takesOwner_6 : decode cX5_takesOwner 6 = .ok (.ireturn, 1) := by decide +kernel
theorem dX5_takesOwner_7 : decode cX5_takesOwner 7 = .ok (.aload_n 0, 1) := by decide +kernel
theorem dX5_takesOwner_8 : decode cX5_takesOwner 8 = .ok (.iload_n 1, 1) := by decide +kernel
theorem dX5_takesOwner_9 : decode cX5_takesOwner 9 = .ok (.putfield 21, 3) := by decide +kernel
theorem dX5_takesOwner_12 : decode cX5_takesOwner 12 = .ok (.aload_n 0, 1) := by decide +kernel
theorem dX5_takesOwner_13 : decode cX5_takesOwner 13 = .ok (.iconst 1, 1) := by decide +kernel
theorem dX5_takesOwner_14 : decode cX5_takesOwner 14 = .ok (.putfield 11, 3) := by decide +kernel
theorem dX5_takesOwner_17 : decode cX5_takesOwner 17 = .ok (.iconst 1, 1) := by decide +kernel
theorem dX5_takesOwner_18 : decode cX5_takesOwner 18 = .ok (.ireturn, 1) := by decide +kernel
set_option maxRecDepth 20000 in
theorem ggX5_takesChannel_X6_isChannel : GoodIn wsX5_takesChannel wsX6_isChannel := goodIn_r _ [7] (by decide +kernel) (by decide +kernel)
set_option maxRecDepth 20000 in
theorem gX5_takesChannel_X6_isChannel_n74 : GoodIn wsX5_takesChannel (wsX6_isChannel) := ggX5_takesChannel_X6_isChannel
theorem dX5_takesChannel_0 : decode cX5_takesChannel 0 = .ok (.iload_n 2, 1) := by decide +kernel
theorem dX5_takesChannel_1 : decode cX5_takesChannel 1 = .ok (.invokestatic 74, 3) := by decide +kernel
theorem dX5_takesChannel_4 : decode cX5_takesChannel 4 = .ok (.ifCond .eq 15, 3) := by decide +kernel
theorem dX5_takesChannel_7 : decode cX5_takesChannel 7 = .ok (.aload_n 1, 1) := by decide +kernel
theorem dX5_takesChannel_8 : decode cX5_takesChannel 8 = .ok (.getfield 77, 3) := by decide +kernel
theorem dX5_takesChannel_11 : decode cX5_takesChannel 11 = .ok (.iload_n 2, 1) := by decide +kernel
theorem dX5_takesChannel_12 : decode cX5_takesChannel 12 = .ok (.aaload, 1) := by decide +kernel
theorem dX5_takesChannel_13 : decode cX5_takesChannel 13 = .ok (.getfield 81, 3) := by decide +kernel
theorem dX5_takesChannel_16 : decode cX5_takesChannel 16 = .ok (.ifCond .eq 5, 3) := by decide +kernel
theorem dX5_takesChannel_19 : decode cX5_takesChannel 19 = .ok (.iconst 0, 1) := by decide +kernel
theorem dX5_takesChannel_20 : decode cX5_takesChannel 20 = .ok (.ireturn, 1) := by decide +kernel
theorem dX5_takesChannel_21 : decode cX5_takesChannel 21 = .ok (.aload_n 0, 1) := by decide +kernel
theorem dX5_takesChannel_22 : decode cX5_takesChannel 22 = .ok (.iload_n 2, 1) := by decide +kernel
theorem dX5_takesChannel_23 : decode cX5_takesChannel 23 = .ok (.putfield 24, 3) := by decide +kernel
theorem dX5_takesChannel_26 : decode cX5_takesChannel 26 = .ok (.aload_n 0, 1) := by decide +kernel
theorem dX5_takesChannel_27 : decode cX5_takesChannel 27 = .ok (.bipush 7, 2) := by decide +kernel
theorem dX5_takesChannel_29 : decode cX5_takesChannel 29 = .ok (.putfield 11, 3) := by decide +kernel
theorem dX5_takesChannel_32 : decode cX5_takesChannel 32 = .ok (.iconst 1, 1) := by decide +kernel
theorem dX5_takesChannel_33 : decode cX5_takesChannel 33 = .ok (.ireturn, 1) := by decide +kernel
set_option maxRecDepth 20000 in
theorem ggX5_takesHead_X6_isCell : GoodIn wsX5_takesHead wsX6_isCell := goodIn_r _ [6] (by decide +kernel) (by decide +kernel)
set_option maxRecDepth 20000 in
theorem gX5_takesHead_X6_isCell_n49 : GoodIn wsX5_takesHead (wsX6_isCell) := ggX5_takesHead_X6_isCell
set_option maxRecDepth 20000 in
theorem ggX5_takesHead_X1_beginAt : GoodIn wsX5_takesHead wsX1_beginAt := goodIn_r _ [11, 12, 13, 14, 15, 10, 16, 17, 18, 19, 20, 37, 38, 39, 40, 41, 42, 43, 44, 45, 46, 47, 48, 49] (by decide +kernel) (by decide +kernel)
set_option maxRecDepth 20000 in
theorem gX5_takesHead_X1_beginAt : GoodIn wsX5_takesHead (wsV RX5 86 RX1 yX1_beginAt wsX1_beginAt) := goodIn_app (goodIn_of _ (by decide +kernel)) ggX5_takesHead_X1_beginAt
theorem dX5_takesHead_0 : decode cX5_takesHead 0 = .ok (.iload_n 2, 1) := by decide +kernel
theorem dX5_takesHead_1 : decode cX5_takesHead 1 = .ok (.invokestatic 49, 3) := by decide +kernel
theorem dX5_takesHead_4 : decode cX5_takesHead 4 = .ok (.ifCond .ne 5, 3) := by decide +kernel
theorem dX5_takesHead_7 : decode cX5_takesHead 7 = .ok (.iconst 0, 1) := by decide +kernel
theorem dX5_takesHead_8 : decode cX5_takesHead 8 = .ok (.ireturn, 1) := by decide +kernel
theorem dX5_takesHead_9 : decode cX5_takesHead 9 = .ok (.aload_n 1, 1) := by decide +kernel
theorem dX5_takesHead_10 : decode cX5_takesHead 10 = .ok (.getfield 77, 3) := by decide +kernel
theorem dX5_takesHead_13 : decode cX5_takesHead 13 = .ok (.aload_n 0, 1) := by decide +kernel
theorem dX5_takesHead_14 : decode cX5_takesHead 14 = .ok (.getfield 24, 3) := by decide +kernel
theorem dX5_takesHead_17 : decode cX5_takesHead 17 = .ok (.aaload, 1) := by decide +kernel
theorem dX5_takesHead_18 : decode cX5_takesHead 18 = .ok (.iload_n 2, 1) := by decide +kernel
theorem dX5_takesHead_19 : decode cX5_takesHead 19 = .ok (.invokevirtual 86, 3) := by decide +kernel
theorem dX5_takesHead_22 : decode cX5_takesHead 22 = .ok (.aload_n 0, 1) := by decide +kernel
theorem dX5_takesHead_23 : decode cX5_takesHead 23 = .ok (.iconst 1, 1) := by decide +kernel
theorem dX5_takesHead_24 : decode cX5_takesHead 24 = .ok (.putfield 11, 3) := by decide +kernel
theorem dX5_takesHead_27 : decode cX5_takesHead 27 = .ok (.iconst 1, 1) := by decide +kernel
theorem dX5_takesHead_28 : decode cX5_takesHead 28 = .ok (.ireturn, 1) := by decide +kernel
theorem dJ6_bitCount_0f7a4_0 : decode cJ6_bitCount_0f7a4 0 = .ok (.iload_n 0, 1) := by decide +kernel
theorem dJ6_bitCount_0f7a4_1 : decode cJ6_bitCount_0f7a4 1 = .ok (.iload_n 0, 1) := by decide +kernel
theorem dJ6_bitCount_0f7a4_2 : decode cJ6_bitCount_0f7a4 2 = .ok (.iconst 1, 1) := by decide +kernel
theorem dJ6_bitCount_0f7a4_3 : decode cJ6_bitCount_0f7a4 3 = .ok (.iushr, 1) := by decide +kernel
theorem dJ6_bitCount_0f7a4_4 : decode cJ6_bitCount_0f7a4 4 = .ok (.ldc_w 265, 3) := by decide +kernel
theorem dJ6_bitCount_0f7a4_7 : decode cJ6_bitCount_0f7a4 7 = .ok (.iand, 1) := by decide +kernel
theorem dJ6_bitCount_0f7a4_8 : decode cJ6_bitCount_0f7a4 8 = .ok (.isub, 1) := by decide +kernel
theorem dJ6_bitCount_0f7a4_9 : decode cJ6_bitCount_0f7a4 9 = .ok (.istore_n 0, 1) := by decide +kernel
theorem dJ6_bitCount_0f7a4_10 : decode cJ6_bitCount_0f7a4 10 = .ok (.iload_n 0, 1) := by decide +kernel
theorem dJ6_bitCount_0f7a4_11 : decode cJ6_bitCount_0f7a4 11 = .ok (.ldc_w 266, 3) := by decide +kernel
theorem dJ6_bitCount_0f7a4_14 : decode cJ6_bitCount_0f7a4 14 = .ok (.iand, 1) := by decide +kernel
theorem dJ6_bitCount_0f7a4_15 : decode cJ6_bitCount_0f7a4 15 = .ok (.iload_n 0, 1) := by decide +kernel
theorem dJ6_bitCount_0f7a4_16 : decode cJ6_bitCount_0f7a4 16 = .ok (.iconst 2, 1) := by decide +kernel
theorem dJ6_bitCount_0f7a4_17 : decode cJ6_bitCount_0f7a4 17 = .ok (.iushr, 1) := by decide +kernel
theorem dJ6_bitCount_0f7a4_18 : decode cJ6_bitCount_0f7a4 18 = .ok (.ldc_w 266, 3) := by decide +kernel
theorem dJ6_bitCount_0f7a4_21 : decode cJ6_bitCount_0f7a4 21 = .ok (.iand, 1) := by decide +kernel
theorem dJ6_bitCount_0f7a4_22 : decode cJ6_bitCount_0f7a4 22 = .ok (.iadd, 1) := by decide +kernel
theorem dJ6_bitCount_0f7a4_23 : decode cJ6_bitCount_0f7a4 23 = .ok (.istore_n 0, 1) := by decide +kernel
theorem dJ6_bitCount_0f7a4_24 : decode cJ6_bitCount_0f7a4 24 = .ok (.iload_n 0, 1) := by decide +kernel
theorem dJ6_bitCount_0f7a4_25 : decode cJ6_bitCount_0f7a4 25 = .ok (.iload_n 0, 1) := by decide +kernel
theorem dJ6_bitCount_0f7a4_26 : decode cJ6_bitCount_0f7a4 26 = .ok (.iconst 4, 1) := by decide +kernel
theorem dJ6_bitCount_0f7a4_27 : decode cJ6_bitCount_0f7a4 27 = .ok (.iushr, 1) := by decide +kernel
theorem dJ6_bitCount_0f7a4_28 : decode cJ6_bitCount_0f7a4 28 = .ok (.iadd, 1) := by decide +kernel
theorem dJ6_bitCount_0f7a4_29 : decode cJ6_bitCount_0f7a4 29 = .ok (.ldc_w 267, 3) := by decide +kernel
theorem dJ6_bitCount_0f7a4_32 : decode cJ6_bitCount_0f7a4 32 = .ok (.iand, 1) := by decide +kernel
theorem dJ6_bitCount_0f7a4_33 : decode cJ6_bitCount_0f7a4 33 = .ok (.istore_n 0, 1) := by decide +kernel
theorem dJ6_bitCount_0f7a4_34 : decode cJ6_bitCount_0f7a4 34 = .ok (.iload_n 0, 1) := by decide +kernel
theorem dJ6_bitCount_0f7a4_35 : decode cJ6_bitCount_0f7a4 35 = .ok (.iload_n 0, 1) := by decide +kernel
theorem dJ6_bitCount_0f7a4_36 : decode cJ6_bitCount_0f7a4 36 = .ok (.bipush 8, 2) := by decide +kernel
theorem dJ6_bitCount_0f7a4_38 : decode cJ6_bitCount_0f7a4 38 = .ok (.iushr, 1) := by decide +kernel
theorem dJ6_bitCount_0f7a4_39 : decode cJ6_bitCount_0f7a4 39 = .ok (.iadd, 1) := by decide +kernel
theorem dJ6_bitCount_0f7a4_40 : decode cJ6_bitCount_0f7a4 40 = .ok (.istore_n 0, 1) := by decide +kernel
theorem dJ6_bitCount_0f7a4_41 : decode cJ6_bitCount_0f7a4 41 = .ok (.iload_n 0, 1) := by decide +kernel
theorem dJ6_bitCount_0f7a4_42 : decode cJ6_bitCount_0f7a4 42 = .ok (.iload_n 0, 1) := by decide +kernel
theorem dJ6_bitCount_0f7a4_43 : decode cJ6_bitCount_0f7a4 43 = .ok (.bipush 16, 2) := by decide +kernel
theorem dJ6_bitCount_0f7a4_45 : decode cJ6_bitCount_0f7a4 45 = .ok (.iushr, 1) := by decide +kernel
theorem dJ6_bitCount_0f7a4_46 : decode cJ6_bitCount_0f7a4 46 = .ok (.iadd, 1) := by decide +kernel
theorem dJ6_bitCount_0f7a4_47 : decode cJ6_bitCount_0f7a4 47 = .ok (.istore_n 0, 1) := by decide +kernel
theorem dJ6_bitCount_0f7a4_48 : decode cJ6_bitCount_0f7a4 48 = .ok (.iload_n 0, 1) := by decide +kernel
theorem dJ6_bitCount_0f7a4_49 : decode cJ6_bitCount_0f7a4 49 = .ok (.bipush 63, 2) := by decide +kernel
theorem dJ6_bitCount_0f7a4_51 : decode cJ6_bitCount_0f7a4 51 = .ok (.iand, 1) := by decide +kernel
theorem dJ6_bitCount_0f7a4_52 : decode cJ6_bitCount_0f7a4 52 = .ok (.ireturn, 1) := by decide +kernel
theorem dJ7_fill_53178_0 : decode cJ7_fill_53178 0 = .ok (.iconst 0, 1) := by decide +kernel
theorem dJ7_fill_53178_1 : decode cJ7_fill_53178 1 = .ok (.istore_n 2, 1) := by decide +kernel
theorem dJ7_fill_53178_2 : decode cJ7_fill_53178 2 = .ok (.aload_n 0, 1) := by decide +kernel
theorem dJ7_fill_53178_3 : decode cJ7_fill_53178 3 = .ok (.arraylength, 1) := by decide +kernel
theorem dJ7_fill_53178_4 : decode cJ7_fill_53178 4 = .ok (.istore_n 3, 1) := by decide +kernel
theorem dJ7_fill_53178_5 : decode cJ7_fill_53178 5 = .ok (.iload_n 2, 1) := by decide +kernel
theorem dJ7_fill_53178_6 : decode cJ7_fill_53178 6 = .ok (.iload_n 3, 1) := by decide +kernel
theorem dJ7_fill_53178_7 : decode cJ7_fill_53178 7 = .ok (.if_icmp .ge 13, 3) := by decide +kernel
theorem dJ7_fill_53178_10 : decode cJ7_fill_53178 10 = .ok (.aload_n 0, 1) := by decide +kernel
theorem dJ7_fill_53178_11 : decode cJ7_fill_53178 11 = .ok (.iload_n 2, 1) := by decide +kernel
theorem dJ7_fill_53178_12 : decode cJ7_fill_53178 12 = .ok (.iload_n 1, 1) := by decide +kernel
theorem dJ7_fill_53178_13 : decode cJ7_fill_53178 13 = .ok (.iastore, 1) := by decide +kernel
theorem dJ7_fill_53178_14 : decode cJ7_fill_53178 14 = .ok (.iinc 2 1, 3) := by decide +kernel
theorem dJ7_fill_53178_17 : decode cJ7_fill_53178 17 = .ok (.goto (-12), 3) := by decide +kernel
theorem dJ7_fill_53178_20 : decode cJ7_fill_53178 20 = .ok (.return_, 1) := by decide +kernel
