theorem dX7_init_0 : decode cX7_init 0 = .ok (.aload_n 0, 1) := by decide +kernel
theorem dX7_init_1 : decode cX7_init 1 = .ok (.invokespecial 1, 3) := by decide +kernel
theorem dX7_init_4 : decode cX7_init 4 = .ok (.aload_n 0, 1) := by decide +kernel
theorem dX7_init_5 : decode cX7_init 5 = .ok (.sipush 140, 3) := by decide +kernel
theorem dX7_init_8 : decode cX7_init 8 = .ok (.newarray .int, 2) := by decide +kernel
theorem dX7_init_10 : decode cX7_init 10 = .ok (.putfield 7, 3) := by decide +kernel
theorem dX7_init_13 : decode cX7_init 13 = .ok (.aload_n 0, 1) := by decide +kernel
theorem dX7_init_14 : decode cX7_init 14 = .ok (.sipush 427, 3) := by decide +kernel
theorem dX7_init_17 : decode cX7_init 17 = .ok (.newarray .int, 2) := by decide +kernel
theorem dX7_init_19 : decode cX7_init 19 = .ok (.putfield 13, 3) := by decide +kernel
theorem dX7_init_22 : decode cX7_init 22 = .ok (.aload_n 0, 1) := by decide +kernel
theorem dX7_init_23 : decode cX7_init 23 = .ok (.sipush 427, 3) := by decide +kernel
theorem dX7_init_26 : decode cX7_init 26 = .ok (.newarray .int, 2) := by decide +kernel
theorem dX7_init_28 : decode cX7_init 28 = .ok (.putfield 16, 3) := by decide +kernel
theorem dX7_init_31 : decode cX7_init 31 = .ok (.aload_n 0, 1) := by decide +kernel
theorem dX7_init_32 : decode cX7_init 32 = .ok (.sipush 427, 3) := by decide +kernel
theorem dX7_init_35 : decode cX7_init 35 = .ok (.newarray .int, 2) := by decide +kernel
theorem dX7_init_37 : decode cX7_init 37 = .ok (.putfield 19, 3) := by decide +kernel
theorem dX7_init_40 : decode cX7_init 40 = .ok (.aload_n 0, 1) := by decide +kernel
theorem dX7_init_41 : decode cX7_init 41 = .ok (.sipush 5978, 3) := by decide +kernel
theorem dX7_init_44 : decode cX7_init 44 = .ok (.newarray .int, 2) := by decide +kernel
theorem dX7_init_46 : decode cX7_init 46 = .ok (.putfield 22, 3) := by decide +kernel
theorem dX7_init_49 : decode cX7_init 49 = .ok (.aload_n 0, 1) := by decide +kernel
theorem dX7_init_50 : decode cX7_init 50 = .ok (.sipush 854, 3) := by decide +kernel
theorem dX7_init_53 : decode cX7_init 53 = .ok (.newarray .int, 2) := by decide +kernel
theorem dX7_init_55 : decode cX7_init 55 = .ok (.putfield 25, 3) := by decide +kernel
theorem dX7_init_58 : decode cX7_init 58 = .ok (.aload_n 0, 1) := by decide +kernel
theorem dX7_init_59 : decode cX7_init 59 = .ok (.iconst 2, 1) := by decide +kernel
theorem dX7_init_60 : decode cX7_init 60 = .ok (.newarray .boolean, 2) := by decide +kernel
theorem dX7_init_62 : decode cX7_init 62 = .ok (.putfield 28, 3) := by decide +kernel
theorem dX7_init_65 : decode cX7_init 65 = .ok (.aload_n 0, 1) := by decide +kernel
theorem dX7_init_66 : decode cX7_init 66 = .ok (.bipush 96, 2) := by decide +kernel
theorem dX7_init_68 : decode cX7_init 68 = .ok (.newarray .int, 2) := by decide +kernel
theorem dX7_init_70 : decode cX7_init 70 = .ok (.putfield 32, 3) := by decide +kernel
theorem dX7_init_73 : decode cX7_init 73 = .ok (.aload_n 0, 1) := by decide +kernel
theorem dX7_init_74 : decode cX7_init 74 = .ok (.bipush 96, 2) := by decide +kernel
theorem dX7_init_76 : decode cX7_init 76 = .ok (.newarray .boolean, 2) := by decide +kernel
theorem dX7_init_78 : decode cX7_init 78 = .ok (.putfield 35, 3) := by decide +kernel
theorem dX7_init_81 : decode cX7_init 81 = .ok (.aload_n 0, 1) := by decide +kernel
theorem dX7_init_82 : decode cX7_init 82 = .ok (.iconst 0, 1) := by decide +kernel
theorem dX7_init_83 : decode cX7_init 83 = .ok (.putfield 38, 3) := by decide +kernel
theorem dX7_init_86 : decode cX7_init 86 = .ok (.return_, 1) := by decide +kernel
theorem dX7_thrown_0 : decode cX7_thrown 0 = .ok (.aload_n 0, 1) := by decide +kernel
theorem dX7_thrown_1 : decode cX7_thrown 1 = .ok (.getfield 42, 3) := by decide +kernel
theorem dX7_thrown_4 : decode cX7_thrown 4 = .ok (.ireturn, 1) := by decide +kernel
theorem dX7_refused_0 : decode cX7_refused 0 = .ok (.aload_n 0, 1) := by decide +kernel
theorem dX7_refused_1 : decode cX7_refused 1 = .ok (.iload_n 1, 1) := by decide +kernel
theorem dX7_refused_2 : decode cX7_refused 2 = .ok (.putfield 42, 3) := by decide +kernel
theorem dX7_refused_5 : decode cX7_refused 5 = .ok (.iload_n 1, 1) := by decide +kernel
theorem dX7_refused_6 : decode cX7_refused 6 = .ok (.ifCond .le 7, 3) := by decide +kernel
theorem dX7_refused_9 : decode cX7_refused 9 = .ok (.iconst 1, 1) := by decide +kernel
theorem dX7_refused_10 : decode cX7_refused 10 = .ok (.goto 4, 3) := by decide +kernel
theorem dX7_refused_13 : decode cX7_refused 13 = .ok (.iconst 0, 1) := by decide +kernel
theorem dX7_refused_14 : decode cX7_refused 14 = .ok (.ireturn, 1) := by decide +kernel
theorem dX7_in_0 : decode cX7_in 0 = .ok (.lload_n 0, 1) := by decide +kernel
theorem dX7_in_1 : decode cX7_in 1 = .ok (.lload_n 2, 1) := by decide +kernel
theorem dX7_in_2 : decode cX7_in 2 = .ok (.lcmp, 1) := by decide +kernel
theorem dX7_in_3 : decode cX7_in 3 = .ok (.ifCond .lt 14, 3) := by decide +kernel
theorem dX7_in_6 : decode cX7_in 6 = .ok (.lload_n 0, 1) := by decide +kernel
theorem dX7_in_7 : decode cX7_in 7 = .ok (.lload 4, 2) := by decide +kernel
theorem dX7_in_9 : decode cX7_in 9 = .ok (.lcmp, 1) := by decide +kernel
theorem dX7_in_10 : decode cX7_in 10 = .ok (.ifCond .gt 7, 3) := by decide +kernel
theorem dX7_in_13 : decode cX7_in 13 = .ok (.iconst 1, 1) := by decide +kernel
theorem dX7_in_14 : decode cX7_in 14 = .ok (.goto 4, 3) := by decide +kernel
theorem dX7_in_17 : decode cX7_in 17 = .ok (.iconst 0, 1) := by decide +kernel
theorem dX7_in_18 : decode cX7_in 18 = .ok (.ireturn, 1) := by decide +kernel
theorem dX7_copyEngine_0 : decode cX7_copyEngine 0 = .ok (.iconst 0, 1) := by decide +kernel
theorem dX7_copyEngine_1 : decode cX7_copyEngine 1 = .ok (.istore 4, 2) := by decide +kernel
theorem dX7_copyEngine_3 : decode cX7_copyEngine 3 = .ok (.iload 4, 2) := by decide +kernel
theorem dX7_copyEngine_5 : decode cX7_copyEngine 5 = .ok (.sipush 427, 3) := by decide +kernel
theorem dX7_copyEngine_8 : decode cX7_copyEngine 8 = .ok (.if_icmp .ge 21, 3) := by decide +kernel
theorem dX7_copyEngine_11 : decode cX7_copyEngine 11 = .ok (.aload_n 2, 1) := by decide +kernel
theorem dX7_copyEngine_12 : decode cX7_copyEngine 12 = .ok (.iload_n 3, 1) := by decide +kernel
theorem dX7_copyEngine_13 : decode cX7_copyEngine 13 = .ok (.iload 4, 2) := by decide +kernel
theorem dX7_copyEngine_15 : decode cX7_copyEngine 15 = .ok (.iadd, 1) := by decide +kernel
theorem dX7_copyEngine_16 : decode cX7_copyEngine 16 = .ok (.aload_n 0, 1) := by decide +kernel
theorem dX7_copyEngine_17 : decode cX7_copyEngine 17 = .ok (.iload_n 1, 1) := by decide +kernel
theorem dX7_copyEngine_18 : decode cX7_copyEngine 18 = .ok (.iload 4, 2) := by decide +kernel
theorem dX7_copyEngine_20 : decode cX7_copyEngine 20 = .ok (.iadd, 1) := by decide +kernel
theorem dX7_copyEngine_21 : decode cX7_copyEngine 21 = .ok (.iaload, 1) := by decide +kernel
theorem dX7_copyEngine_22 : decode cX7_copyEngine 22 = .ok (.iastore, 1) := by decide +kernel
theorem dX7_copyEngine_23 : decode cX7_copyEngine 23 = .ok (.iinc 4 1, 3) := by decide +kernel
theorem dX7_copyEngine_26 : decode cX7_copyEngine 26 = .ok (.goto (-23), 3) := by decide +kernel
theorem dX7_copyEngine_29 : decode cX7_copyEngine 29 = .ok (.return_, 1) := by decide +kernel
set_option maxRecDepth 20000 in
theorem ggX7_isCell_X7_in : GoodIn wsX7_isCell wsX7_in := goodIn_r _ [5] (by decide +kernel) (by decide +kernel)
set_option maxRecDepth 20000 in
theorem gX7_isCell_X7_in : GoodIn wsX7_isCell (va_wsS RX7 47 yX7_in wsX7_in) := goodIn_app (goodIn_of _ (by decide +kernel)) ggX7_isCell_X7_in
theorem dX7_isCell_0 : decode cX7_isCell 0 = .ok (.iload_n 0, 1) := by decide +kernel
theorem dX7_isCell_1 : decode cX7_isCell 1 = .ok (.i2l, 1) := by decide +kernel
theorem dX7_isCell_2 : decode cX7_isCell 2 = .ok (.lconst 0, 1) := by decide +kernel
theorem dX7_isCell_3 : decode cX7_isCell 3 = .ok (.ldc2_w 45, 3) := by decide +kernel
theorem dX7_isCell_6 : decode cX7_isCell 6 = .ok (.invokestatic 47, 3) := by decide +kernel
theorem dX7_isCell_9 : decode cX7_isCell 9 = .ok (.ireturn, 1) := by decide +kernel
set_option maxRecDepth 20000 in
theorem ggX7_isChannel_X7_in : GoodIn wsX7_isChannel wsX7_in := goodIn_r _ [5] (by decide +kernel) (by decide +kernel)
set_option maxRecDepth 20000 in
theorem gX7_isChannel_X7_in : GoodIn wsX7_isChannel (va_wsS RX7 47 yX7_in wsX7_in) := goodIn_app (goodIn_of _ (by decide +kernel)) ggX7_isChannel_X7_in
theorem dX7_isChannel_0 : decode cX7_isChannel 0 = .ok (.iload_n 0, 1) := by decide +kernel
theorem dX7_isChannel_1 : decode cX7_isChannel 1 = .ok (.i2l, 1) := by decide +kernel
theorem dX7_isChannel_2 : decode cX7_isChannel 2 = .ok (.lconst 0, 1) := by decide +kernel
theorem dX7_isChannel_3 : decode cX7_isChannel 3 = .ok (.ldc2_w 51, 3) := by decide +kernel
theorem dX7_isChannel_6 : decode cX7_isChannel 6 = .ok (.invokestatic 47, 3) := by decide +kernel
theorem dX7_isChannel_9 : decode cX7_isChannel 9 = .ok (.ireturn, 1) := by decide +kernel
theorem dX7_at_0 : decode cX7_at 0 = .ok (.sipush 384, 3) := by decide +kernel
theorem dX7_at_3 : decode cX7_at 3 = .ok (.bipush 13, 2) := by decide +kernel
theorem dX7_at_5 : decode cX7_at 5 = .ok (.iload_n 0, 1) := by decide +kernel
theorem dX7_at_6 : decode cX7_at 6 = .ok (.imul, 1) := by decide +kernel
theorem dX7_at_7 : decode cX7_at 7 = .ok (.iadd, 1) := by decide +kernel
theorem dX7_at_8 : decode cX7_at 8 = .ok (.ireturn, 1) := by decide +kernel
theorem dX7_watch_0 : decode cX7_watch 0 = .ok (.iconst 0, 1) := by decide +kernel
theorem dX7_watch_1 : decode cX7_watch 1 = .ok (.istore_n 1, 1) := by decide +kernel
theorem dX7_watch_2 : decode cX7_watch 2 = .ok (.iload_n 1, 1) := by decide +kernel
theorem dX7_watch_3 : decode cX7_watch 3 = .ok (.bipush 96, 2) := by decide +kernel
theorem dX7_watch_5 : decode cX7_watch 5 = .ok (.if_icmp .ge 16, 3) := by decide +kernel
theorem dX7_watch_8 : decode cX7_watch 8 = .ok (.aload_n 0, 1) := by decide +kernel
theorem dX7_watch_9 : decode cX7_watch 9 = .ok (.getfield 32, 3) := by decide +kernel
theorem dX7_watch_12 : decode cX7_watch 12 = .ok (.iload_n 1, 1) := by decide +kernel
theorem dX7_watch_13 : decode cX7_watch 13 = .ok (.iconst 0, 1) := by decide +kernel
theorem dX7_watch_14 : decode cX7_watch 14 = .ok (.iastore, 1) := by decide +kernel
theorem dX7_watch_15 : decode cX7_watch 15 = .ok (.iinc 1 1, 3) := by decide +kernel
theorem dX7_watch_18 : decode cX7_watch 18 = .ok (.goto (-16), 3) := by decide +kernel
theorem dX7_watch_21 : decode cX7_watch 21 = .ok (.aload_n 0, 1) := by decide +kernel
theorem dX7_watch_22 : decode cX7_watch 22 = .ok (.bipush (-9), 2) := by decide +kernel
theorem dX7_watch_24 : decode cX7_watch 24 = .ok (.putfield 53, 3) := by decide +kernel
theorem dX7_watch_27 : decode cX7_watch 27 = .ok (.aload_n 0, 1) := by decide +kernel
theorem dX7_watch_28 : decode cX7_watch 28 = .ok (.bipush (-9), 2) := by decide +kernel
theorem dX7_watch_30 : decode cX7_watch 30 = .ok (.putfield 56, 3) := by decide +kernel
theorem dX7_watch_33 : decode cX7_watch 33 = .ok (.return_, 1) := by decide +kernel
set_option maxRecDepth 20000 in
theorem ggX7_turnOf_X7_at : GoodIn wsX7_turnOf wsX7_at := goodIn_r _ [4] (by decide +kernel) (by decide +kernel)
set_option maxRecDepth 20000 in
theorem gX7_turnOf_X7_at : GoodIn wsX7_turnOf (va_wsS RX7 59 yX7_at wsX7_at) := goodIn_app (goodIn_of _ (by decide +kernel)) ggX7_turnOf_X7_at
theorem dX7_turnOf_0 : decode cX7_turnOf 0 = .ok (.iconst 0, 1) := by decide +kernel
theorem dX7_turnOf_1 : decode cX7_turnOf 1 = .ok (.istore_n 1, 1) := by decide +kernel
theorem dX7_turnOf_2 : decode cX7_turnOf 2 = .ok (.iload_n 1, 1) := by decide +kernel
theorem dX7_turnOf_3 : decode cX7_turnOf 3 = .ok (.iconst 3, 1) := by decide +kernel
theorem dX7_turnOf_4 : decode cX7_turnOf 4 = .ok (.if_icmp .ge 31, 3) := by decide +kernel
theorem dX7_turnOf_7 : decode cX7_turnOf 7 = .ok (.aload_n 0, 1) := by decide +kernel
theorem dX7_turnOf_8 : decode cX7_turnOf 8 = .ok (.sipush 426, 3) := by decide +kernel
theorem dX7_turnOf_11 : decode cX7_turnOf 11 = .ok (.iaload, 1) := by decide +kernel
theorem dX7_turnOf_12 : decode cX7_turnOf 12 = .ok (.iload_n 1, 1) := by decide +kernel
theorem dX7_turnOf_13 : decode cX7_turnOf 13 = .ok (.iadd, 1) := by decide +kernel
theorem dX7_turnOf_14 : decode cX7_turnOf 14 = .ok (.iconst 3, 1) := by decide +kernel
theorem dX7_turnOf_15 : decode cX7_turnOf 15 = .ok (.irem, 1) := by decide +kernel
theorem dX7_turnOf_16 : decode cX7_turnOf 16 = .ok (.istore_n 2, 1) := by decide +kernel
theorem dX7_turnOf_17 : decode cX7_turnOf 17 = .ok (.aload_n 0, 1) := by decide +kernel
theorem dX7_turnOf_18 : decode cX7_turnOf 18 = .ok (.iload_n 2, 1) := by decide +kernel
theorem dX7_turnOf_19 : decode cX7_turnOf 19 = .ok (.invokestatic 59, 3) := by decide +kernel
theorem dX7_turnOf_22 : decode cX7_turnOf 22 = .ok (.iaload, 1) := by decide +kernel
theorem dX7_turnOf_23 : decode cX7_turnOf 23 = .ok (.iconst 1, 1) := by decide +kernel
theorem dX7_turnOf_24 : decode cX7_turnOf 24 = .ok (.if_icmp .ne 5, 3) := by decide +kernel
theorem dX7_turnOf_27 : decode cX7_turnOf 27 = .ok (.iload_n 2, 1) := by decide +kernel
theorem dX7_turnOf_28 : decode cX7_turnOf 28 = .ok (.ireturn, 1) := by decide +kernel
theorem dX7_turnOf_29 : decode cX7_turnOf 29 = .ok (.iinc 1 1, 3) := by decide +kernel
theorem dX7_turnOf_32 : decode cX7_turnOf 32 = .ok (.goto (-30), 3) := by decide +kernel
theorem dX7_turnOf_35 : decode cX7_turnOf 35 = .ok (.bipush (-9), 2) := by decide +kernel
theorem dX7_turnOf_37 : decode cX7_turnOf 37 = .ok (.ireturn, 1) := by decide +kernel
set_option maxRecDepth 20000 in
theorem ggX7_fail_X7_at : GoodIn wsX7_fail wsX7_at := goodIn_r _ [4] (by decide +kernel) (by decide +kernel)
set_option maxRecDepth 20000 in
theorem gX7_fail_X7_at : GoodIn wsX7_fail (va_wsS RX7 59 yX7_at wsX7_at) := goodIn_app (goodIn_of _ (by decide +kernel)) ggX7_fail_X7_at
theorem dX7_fail_0 : decode cX7_fail 0 = .ok (.aload_n 0, 1) := by decide +kernel
theorem dX7_fail_1 : decode cX7_fail 1 = .ok (.iload_n 1, 1) := by decide +kernel
theorem dX7_fail_2 : decode cX7_fail 2 = .ok (.invokestatic 59, 3) := by decide +kernel
theorem dX7_fail_5 : decode cX7_fail 5 = .ok (.iconst 3, 1) := by decide +kernel
theorem dX7_fail_6 : decode cX7_fail 6 = .ok (.iastore, 1) := by decide +kernel
theorem dX7_fail_7 : decode cX7_fail 7 = .ok (.aload_n 0, 1) := by decide +kernel
theorem dX7_fail_8 : decode cX7_fail 8 = .ok (.iload_n 1, 1) := by decide +kernel
theorem dX7_fail_9 : decode cX7_fail 9 = .ok (.invokestatic 59, 3) := by decide +kernel
theorem dX7_fail_12 : decode cX7_fail 12 = .ok (.iconst 2, 1) := by decide +kernel
theorem dX7_fail_13 : decode cX7_fail 13 = .ok (.iadd, 1) := by decide +kernel
theorem dX7_fail_14 : decode cX7_fail 14 = .ok (.iload_n 2, 1) := by decide +kernel
theorem dX7_fail_15 : decode cX7_fail 15 = .ok (.iastore, 1) := by decide +kernel
theorem dX7_fail_16 : decode cX7_fail 16 = .ok (.aload_n 0, 1) := by decide +kernel
theorem dX7_fail_17 : decode cX7_fail 17 = .ok (.iload_n 1, 1) := by decide +kernel
theorem dX7_fail_18 : decode cX7_fail 18 = .ok (.invokestatic 59, 3) := by decide +kernel
theorem dX7_fail_21 : decode cX7_fail 21 = .ok (.iconst 4, 1) := by decide +kernel
theorem dX7_fail_22 : decode cX7_fail 22 = .ok (.iadd, 1) := by decide +kernel
theorem dX7_fail_23 : decode cX7_fail 23 = .ok (.iconst 0, 1) := by decide +kernel
theorem dX7_fail_24 : decode cX7_fail 24 = .ok (.iastore, 1) := by decide +kernel
theorem dX7_fail_25 : decode cX7_fail 25 = .ok (.return_, 1) := by decide +kernel
set_option maxRecDepth 20000 in
theorem ggX7_end_X7_at : GoodIn wsX7_end wsX7_at := goodIn_r _ [4] (by decide +kernel) (by decide +kernel)
set_option maxRecDepth 20000 in
theorem gX7_end_X7_at : GoodIn wsX7_end (va_wsS RX7 59 yX7_at wsX7_at) := goodIn_app (goodIn_of _ (by decide +kernel)) ggX7_end_X7_at
theorem dX7_end_0 : decode cX7_end 0 = .ok (.aload_n 0, 1) := by decide +kernel
theorem dX7_end_1 : decode cX7_end 1 = .ok (.iload_n 1, 1) := by decide +kernel
theorem dX7_end_2 : decode cX7_end 2 = .ok (.invokestatic 59, 3) := by decide +kernel
theorem dX7_end_5 : decode cX7_end 5 = .ok (.iconst 1, 1) := by decide +kernel
theorem dX7_end_6 : decode cX7_end 6 = .ok (.iadd, 1) := by decide +kernel
theorem dX7_end_7 : decode cX7_end 7 = .ok (.iload_n 2, 1) := by decide +kernel
theorem dX7_end_8 : decode cX7_end 8 = .ok (.iastore, 1) := by decide +kernel
theorem dX7_end_9 : decode cX7_end 9 = .ok (.aload_n 0, 1) := by decide +kernel
theorem dX7_end_10 : decode cX7_end 10 = .ok (.iload_n 1, 1) := by decide +kernel
theorem dX7_end_11 : decode cX7_end 11 = .ok (.invokestatic 59, 3) := by decide +kernel
theorem dX7_end_14 : decode cX7_end 14 = .ok (.iconst 4, 1) := by decide +kernel
theorem dX7_end_15 : decode cX7_end 15 = .ok (.iadd, 1) := by decide +kernel
theorem dX7_end_16 : decode cX7_end 16 = .ok (.iconst 0, 1) := by decide +kernel
theorem dX7_end_17 : decode cX7_end 17 = .ok (.iastore, 1) := by decide +kernel
theorem dX7_end_18 : decode cX7_end 18 = .ok (.return_, 1) := by decide +kernel
set_option maxRecDepth 20000 in
theorem ggX7_readOrder_X7_at : GoodIn wsX7_readOrder wsX7_at := goodIn_r _ [4] (by decide +kernel) (by decide +kernel)
set_option maxRecDepth 20000 in
theorem gX7_readOrder_X7_at : GoodIn wsX7_readOrder (va_wsS RX7 59 yX7_at wsX7_at) := goodIn_app (goodIn_of _ (by decide +kernel)) ggX7_readOrder_X7_at
set_option maxRecDepth 20000 in
theorem ggX7_readOrder_X7_fail : GoodIn wsX7_readOrder wsX7_fail := goodIn_r _ [7, 1, 2, 3, 4] (by decide +kernel) (by decide +kernel)
set_option maxRecDepth 20000 in
theorem gX7_readOrder_X7_fail : GoodIn wsX7_readOrder (va_wsS RX7 63 yX7_fail wsX7_fail) := goodIn_app (goodIn_of _ (by decide +kernel)) ggX7_readOrder_X7_fail
set_option maxRecDepth 20000 in
theorem ggX7_readOrder_X7_end : GoodIn wsX7_readOrder wsX7_end := goodIn_r _ [10, 1, 2, 3, 4] (by decide +kernel) (by decide +kernel)
set_option maxRecDepth 20000 in
theorem gX7_readOrder_X7_end : GoodIn wsX7_readOrder (va_wsS RX7 67 yX7_end wsX7_end) := goodIn_app (goodIn_of _ (by decide +kernel)) ggX7_readOrder_X7_end
theorem dX7_readOrder_0 : decode cX7_readOrder 0 = .ok (.iload_n 1, 1) := by decide +kernel
theorem dX7_readOrder_1 : decode cX7_readOrder 1 = .ok (.invokestatic 59, 3) := by decide +kernel
theorem dX7_readOrder_4 : decode cX7_readOrder 4 = .ok (.istore_n 2, 1) := by decide +kernel
theorem dX7_readOrder_5 : decode cX7_readOrder 5 = .ok (.aload_n 0, 1) := by decide +kernel
theorem dX7_readOrder_6 : decode cX7_readOrder 6 = .ok (.iload_n 2, 1) := by decide +kernel
theorem dX7_readOrder_7 : decode cX7_readOrder 7 = .ok (.iconst 1, 1) := by decide +kernel
theorem dX7_readOrder_8 : decode cX7_readOrder 8 = .ok (.iadd, 1) := by decide +kernel
theorem dX7_readOrder_9 : decode cX7_readOrder 9 = .ok (.iaload, 1) := by decide +kernel
theorem dX7_readOrder_10 : decode cX7_readOrder 10 = .ok (.istore_n 3, 1) := by decide +kernel
theorem dX7_readOrder_11 : decode cX7_readOrder 11 = .ok (.iload_n 3, 1) := by decide +kernel
theorem dX7_readOrder_12 : decode cX7_readOrder 12 = .ok (.bipush 90, 2) := by decide +kernel
theorem dX7_readOrder_14 : decode cX7_readOrder 14 = .ok (.if_icmp .le 10, 3) := by decide +kernel
theorem dX7_readOrder_17 : decode cX7_readOrder 17 = .ok (.aload_n 0, 1) := by decide +kernel
theorem dX7_readOrder_18 : decode cX7_readOrder 18 = .ok (.iload_n 1, 1) := by decide +kernel
theorem dX7_readOrder_19 : decode cX7_readOrder 19 = .ok (.iconst 1, 1) := by decide +kernel
theorem dX7_readOrder_20 : decode cX7_readOrder 20 = .ok (.invokestatic 63, 3) := by decide +kernel
theorem dX7_readOrder_23 : decode cX7_readOrder 23 = .ok (.return_, 1) := by decide +kernel
theorem dX7_readOrder_24 : decode cX7_readOrder 24 = .ok (.iconst 0, 1) := by decide +kernel
theorem dX7_readOrder_25 : decode cX7_readOrder 25 = .ok (.istore 4, 2) := by decide +kernel
theorem dX7_readOrder_27 : decode cX7_readOrder 27 = .ok (.iload 4, 2) := by decide +kernel
theorem dX7_readOrder_29 : decode cX7_readOrder 29 = .ok (.bipush 6, 2) := by decide +kernel
theorem dX7_readOrder_31 : decode cX7_readOrder 31 = .ok (.if_icmp .ge 20, 3) := by decide +kernel
theorem dX7_readOrder_34 : decode cX7_readOrder 34 = .ok (.aload_n 0, 1) := by decide +kernel
theorem dX7_readOrder_35 : decode cX7_readOrder 35 = .ok (.sipush 192, 3) := by decide +kernel
theorem dX7_readOrder_38 : decode cX7_readOrder 38 = .ok (.iload_n 3, 1) := by decide +kernel
theorem dX7_readOrder_39 : decode cX7_readOrder 39 = .ok (.iadd, 1) := by decide +kernel
theorem dX7_readOrder_40 : decode cX7_readOrder 40 = .ok (.iload 4, 2) := by decide +kernel
theorem dX7_readOrder_42 : decode cX7_readOrder 42 = .ok (.iadd, 1) := by decide +kernel
theorem dX7_readOrder_43 : decode cX7_readOrder 43 = .ok (.iconst 1, 1) := by decide +kernel
theorem dX7_readOrder_44 : decode cX7_readOrder 44 = .ok (.iastore, 1) := by decide +kernel
theorem dX7_readOrder_45 : decode cX7_readOrder 45 = .ok (.iinc 4 1, 3) := by decide +kernel
theorem dX7_readOrder_48 : decode cX7_readOrder 48 = .ok (.goto (-21), 3) := by decide +kernel
theorem dX7_readOrder_51 : decode cX7_readOrder 51 = .ok (.aload_n 0, 1) := by decide +kernel
theorem dX7_readOrder_52 : decode cX7_readOrder 52 = .ok (.iload_n 2, 1) := by decide +kernel
theorem dX7_readOrder_53 : decode cX7_readOrder 53 = .ok (.bipush 11, 2) := by decide +kernel
theorem dX7_readOrder_55 : decode cX7_readOrder 55 = .ok (.iadd, 1) := by decide +kernel
theorem dX7_readOrder_56 : decode cX7_readOrder 56 = .ok (.dup2, 1) := by decide +kernel
theorem dX7_readOrder_57 : decode cX7_readOrder 57 = .ok (.iaload, 1) := by decide +kernel
theorem dX7_readOrder_58 : decode cX7_readOrder 58 = .ok (.iconst 1, 1) := by decide +kernel
theorem dX7_readOrder_59 : decode cX7_readOrder 59 = .ok (.iadd, 1) := by decide +kernel
theorem dX7_readOrder_60 : decode cX7_readOrder 60 = .ok (.iastore, 1) := by decide +kernel
theorem dX7_readOrder_61 : decode cX7_readOrder 61 = .ok (.aload_n 0, 1) := by decide +kernel
theorem dX7_readOrder_62 : decode cX7_readOrder 62 = .ok (.iload_n 3, 1) := by decide +kernel
theorem dX7_readOrder_63 : decode cX7_readOrder 63 = .ok (.iaload, 1) := by decide +kernel
theorem dX7_readOrder_64 : decode cX7_readOrder 64 = .ok (.istore 4, 2) := by decide +kernel
theorem dX7_readOrder_66 : decode cX7_readOrder 66 = .ok (.iload 4, 2) := by decide +kernel
theorem dX7_readOrder_68 : decode cX7_readOrder 68 = .ok (.ifCond .ne 10, 3) := by decide +kernel
theorem dX7_readOrder_71 : decode cX7_readOrder 71 = .ok (.aload_n 0, 1) := by decide +kernel
theorem dX7_readOrder_72 : decode cX7_readOrder 72 = .ok (.iload_n 2, 1) := by decide +kernel
theorem dX7_readOrder_73 : decode cX7_readOrder 73 = .ok (.iconst 2, 1) := by decide +kernel
theorem dX7_readOrder_74 : decode cX7_readOrder 74 = .ok (.iastore, 1) := by decide +kernel
theorem dX7_readOrder_75 : decode cX7_readOrder 75 = .ok (.goto 89, 3) := by decide +kernel
theorem dX7_readOrder_78 : decode cX7_readOrder 78 = .ok (.iload 4, 2) := by decide +kernel
theorem dX7_readOrder_80 : decode cX7_readOrder 80 = .ok (.bipush 6, 2) := by decide +kernel
theorem dX7_readOrder_82 : decode cX7_readOrder 82 = .ok (.if_icmp .le 12, 3) := by decide +kernel
theorem dX7_readOrder_85 : decode cX7_readOrder 85 = .ok (.aload_n 0, 1) := by decide +kernel
theorem dX7_readOrder_86 : decode cX7_readOrder 86 = .ok (.iload_n 1, 1) := by decide +kernel
theorem dX7_readOrder_87 : decode cX7_readOrder 87 = .ok (.iconst 2, 1) := by decide +kernel
theorem dX7_readOrder_88 : decode cX7_readOrder 88 = .ok (.invokestatic 63, 3) := by decide +kernel
theorem dX7_readOrder_91 : decode cX7_readOrder 91 = .ok (.goto 73, 3) := by decide +kernel
theorem dX7_readOrder_94 : decode cX7_readOrder 94 = .ok (.aload_n 0, 1) := by decide +kernel
theorem dX7_readOrder_95 : decode cX7_readOrder 95 = .ok (.iload_n 2, 1) := by decide +kernel
theorem dX7_readOrder_96 : decode cX7_readOrder 96 = .ok (.iconst 3, 1) := by decide +kernel
theorem dX7_readOrder_97 : decode cX7_readOrder 97 = .ok (.iadd, 1) := by decide +kernel
theorem dX7_readOrder_98 : decode cX7_readOrder 98 = .ok (.iload_n 3, 1) := by decide +kernel
theorem dX7_readOrder_99 : decode cX7_readOrder 99 = .ok (.iastore, 1) := by decide +kernel
theorem dX7_readOrder_100 : decode cX7_readOrder 100 = .ok (.aload_n 0, 1) := by decide +kernel
theorem dX7_readOrder_101 : decode cX7_readOrder 101 = .ok (.iload_n 2, 1) := by decide +kernel
theorem dX7_readOrder_102 : decode cX7_readOrder 102 = .ok (.bipush 10, 2) := by decide +kernel
theorem dX7_readOrder_104 : decode cX7_readOrder 104 = .ok (.iadd, 1) := by decide +kernel
theorem dX7_readOrder_105 : decode cX7_readOrder 105 = .ok (.iconst 0, 1) := by decide +kernel
theorem dX7_readOrder_106 : decode cX7_readOrder 106 = .ok (.iastore, 1) := by decide +kernel
theorem dX7_readOrder_107 : decode cX7_readOrder 107 = .ok (.iconst 0, 1) := by decide +kernel
theorem dX7_readOrder_108 : decode cX7_readOrder 108 = .ok (.istore 5, 2) := by decide +kernel
theorem dX7_readOrder_110 : decode cX7_readOrder 110 = .ok (.iload 5, 2) := by decide +kernel
theorem dX7_readOrder_112 : decode cX7_readOrder 112 = .ok (.bipush 6, 2) := by decide +kernel
theorem dX7_readOrder_114 : decode cX7_readOrder 114 = .ok (.if_icmp .ge 23, 3) := by decide +kernel
theorem dX7_readOrder_117 : decode cX7_readOrder 117 = .ok (.aload_n 0, 1) := by decide +kernel
theorem dX7_readOrder_118 : decode cX7_readOrder 118 = .ok (.iload_n 2, 1) := by decide +kernel
theorem dX7_readOrder_119 : decode cX7_readOrder 119 = .ok (.iconst 4, 1) := by decide +kernel
theorem dX7_readOrder_120 : decode cX7_readOrder 120 = .ok (.iadd, 1) := by decide +kernel
theorem dX7_readOrder_121 : decode cX7_readOrder 121 = .ok (.iload 5, 2) := by decide +kernel
theorem dX7_readOrder_123 : decode cX7_readOrder 123 = .ok (.iadd, 1) := by decide +kernel
theorem dX7_readOrder_124 : decode cX7_readOrder 124 = .ok (.aload_n 0, 1) := by decide +kernel
theorem dX7_readOrder_125 : decode cX7_readOrder 125 = .ok (.iload_n 3, 1) := by decide +kernel
theorem dX7_readOrder_126 : decode cX7_readOrder 126 = .ok (.iload 5, 2) := by decide +kernel
theorem dX7_readOrder_128 : decode cX7_readOrder 128 = .ok (.iadd, 1) := by decide +kernel
theorem dX7_readOrder_129 : decode cX7_readOrder 129 = .ok (.iaload, 1) := by decide +kernel
theorem dX7_readOrder_130 : decode cX7_readOrder 130 = .ok (.iastore, 1) := by decide +kernel
theorem dX7_readOrder_131 : decode cX7_readOrder 131 = .ok (.iinc 5 1, 3) := by decide +kernel
theorem dX7_readOrder_134 : decode cX7_readOrder 134 = .ok (.goto (-24), 3) := by decide +kernel
theorem dX7_readOrder_137 : decode cX7_readOrder 137 = .ok (.iload 4, 2) := by decide +kernel
theorem dX7_readOrder_139 : decode cX7_readOrder 139 = .ok (.bipush 6, 2) := by decide +kernel
theorem dX7_readOrder_141 : decode cX7_readOrder 141 = .ok (.if_icmp .ge 23, 3) := by decide +kernel
theorem dX7_readOrder_144 : decode cX7_readOrder 144 = .ok (.aload_n 0, 1) := by decide +kernel
theorem dX7_readOrder_145 : decode cX7_readOrder 145 = .ok (.iload_n 2, 1) := by decide +kernel
theorem dX7_readOrder_146 : decode cX7_readOrder 146 = .ok (.bipush 7, 2) := by decide +kernel
theorem dX7_readOrder_148 : decode cX7_readOrder 148 = .ok (.iadd, 1) := by decide +kernel
theorem dX7_readOrder_149 : decode cX7_readOrder 149 = .ok (.iaload, 1) := by decide +kernel
theorem dX7_readOrder_150 : decode cX7_readOrder 150 = .ok (.ifCond .ne 14, 3) := by decide +kernel
theorem dX7_readOrder_153 : decode cX7_readOrder 153 = .ok (.aload_n 0, 1) := by decide +kernel
theorem dX7_readOrder_154 : decode cX7_readOrder 154 = .ok (.iload_n 1, 1) := by decide +kernel
theorem dX7_readOrder_155 : decode cX7_readOrder 155 = .ok (.aload_n 0, 1) := by decide +kernel
theorem dX7_readOrder_156 : decode cX7_readOrder 156 = .ok (.iload_n 2, 1) := by decide +kernel
theorem dX7_readOrder_157 : decode cX7_readOrder 157 = .ok (.bipush 9, 2) := by decide +kernel
theorem dX7_readOrder_159 : decode cX7_readOrder 159 = .ok (.iadd, 1) := by decide +kernel
theorem dX7_readOrder_160 : decode cX7_readOrder 160 = .ok (.iaload, 1) := by decide +kernel
theorem dX7_readOrder_161 : decode cX7_readOrder 161 = .ok (.invokestatic 67, 3) := by decide +kernel
theorem dX7_readOrder_164 : decode cX7_readOrder 164 = .ok (.return_, 1) := by decide +kernel
theorem dX7_isOwn_0 : decode cX7_isOwn 0 = .ok (.aload_n 0, 1) := by decide +kernel
theorem dX7_isOwn_1 : decode cX7_isOwn 1 = .ok (.bipush 96, 2) := by decide +kernel
theorem dX7_isOwn_3 : decode cX7_isOwn 3 = .ok (.iload_n 2, 1) := by decide +kernel
theorem dX7_isOwn_4 : decode cX7_isOwn 4 = .ok (.iadd, 1) := by decide +kernel
theorem dX7_isOwn_5 : decode cX7_isOwn 5 = .ok (.iaload, 1) := by decide +kernel
theorem dX7_isOwn_6 : decode cX7_isOwn 6 = .ok (.ifCond .eq 15, 3) := by decide +kernel
theorem dX7_isOwn_9 : decode cX7_isOwn 9 = .ok (.aload_n 0, 1) := by decide +kernel
theorem dX7_isOwn_10 : decode cX7_isOwn 10 = .ok (.bipush 96, 2) := by decide +kernel
theorem dX7_isOwn_12 : decode cX7_isOwn 12 = .ok (.iload_n 2, 1) := by decide +kernel
theorem dX7_isOwn_13 : decode cX7_isOwn 13 = .ok (.iadd, 1) := by decide +kernel
theorem dX7_isOwn_14 : decode cX7_isOwn 14 = .ok (.iaload, 1) := by decide +kernel
theorem dX7_isOwn_15 : decode cX7_isOwn 15 = .ok (.iload_n 1, 1) := by decide +kernel
theorem dX7_isOwn_16 : decode cX7_isOwn 16 = .ok (.iconst 1, 1) := by decide +kernel
theorem dX7_isOwn_17 : decode cX7_isOwn 17 = .ok (.iadd, 1) := by decide +kernel
theorem dX7_isOwn_18 : decode cX7_isOwn 18 = .ok (.if_icmp .ne 7, 3) := by decide +kernel
theorem dX7_isOwn_21 : decode cX7_isOwn 21 = .ok (.iconst 1, 1) := by decide +kernel
theorem dX7_isOwn_22 : decode cX7_isOwn 22 = .ok (.goto 4, 3) := by decide +kernel
theorem dX7_isOwn_25 : decode cX7_isOwn 25 = .ok (.iconst 0, 1) := by decide +kernel
theorem dX7_isOwn_26 : decode cX7_isOwn 26 = .ok (.ireturn, 1) := by decide +kernel
set_option maxRecDepth 20000 in
theorem ggX7_write_X7_at : GoodIn wsX7_write wsX7_at := goodIn_r _ [7] (by decide +kernel) (by decide +kernel)
set_option maxRecDepth 20000 in
theorem gX7_write_X7_at : GoodIn wsX7_write (va_wsS RX7 59 yX7_at wsX7_at) := goodIn_app (goodIn_of _ (by decide +kernel)) ggX7_write_X7_at
theorem dX7_write_0 : decode cX7_write 0 = .ok (.aload_n 1, 1) := by decide +kernel
theorem dX7_write_1 : decode cX7_write 1 = .ok (.iload_n 3, 1) := by decide +kernel
theorem dX7_write_2 : decode cX7_write 2 = .ok (.iload 4, 2) := by decide +kernel
theorem dX7_write_4 : decode cX7_write 4 = .ok (.iastore, 1) := by decide +kernel
theorem dX7_write_5 : decode cX7_write 5 = .ok (.aload_n 1, 1) := by decide +kernel
theorem dX7_write_6 : decode cX7_write 6 = .ok (.sipush 192, 3) := by decide +kernel
theorem dX7_write_9 : decode cX7_write 9 = .ok (.iload_n 3, 1) := by decide +kernel
theorem dX7_write_10 : decode cX7_write 10 = .ok (.iadd, 1) := by decide +kernel
theorem dX7_write_11 : decode cX7_write 11 = .ok (.iaload, 1) := by decide +kernel
theorem dX7_write_12 : decode cX7_write 12 = .ok (.iconst 1, 1) := by decide +kernel
theorem dX7_write_13 : decode cX7_write 13 = .ok (.if_icmp .ne 54, 3) := by decide +kernel
theorem dX7_write_16 : decode cX7_write 16 = .ok (.aload_n 1, 1) := by decide +kernel
theorem dX7_write_17 : decode cX7_write 17 = .ok (.sipush 424, 3) := by decide +kernel
theorem dX7_write_20 : decode cX7_write 20 = .ok (.dup2, 1) := by decide +kernel
theorem dX7_write_21 : decode cX7_write 21 = .ok (.iaload, 1) := by decide +kernel
theorem dX7_write_22 : decode cX7_write 22 = .ok (.iconst 1, 1) := by decide +kernel
theorem dX7_write_23 : decode cX7_write 23 = .ok (.iadd, 1) := by decide +kernel
theorem dX7_write_24 : decode cX7_write 24 = .ok (.iastore, 1) := by decide +kernel
theorem dX7_write_25 : decode cX7_write 25 = .ok (.aload_n 0, 1) := by decide +kernel
theorem dX7_write_26 : decode cX7_write 26 = .ok (.aload_n 0, 1) := by decide +kernel
theorem dX7_write_27 : decode cX7_write 27 = .ok (.getfield 56, 3) := by decide +kernel
theorem dX7_write_30 : decode cX7_write 30 = .ok (.bipush (-9), 2) := by decide +kernel
theorem dX7_write_32 : decode cX7_write 32 = .ok (.if_icmp .ne 7, 3) := by decide +kernel
theorem dX7_write_35 : decode cX7_write 35 = .ok (.iload_n 2, 1) := by decide +kernel
theorem dX7_write_36 : decode cX7_write 36 = .ok (.goto 7, 3) := by decide +kernel
theorem dX7_write_39 : decode cX7_write 39 = .ok (.aload_n 0, 1) := by decide +kernel
theorem dX7_write_40 : decode cX7_write 40 = .ok (.getfield 53, 3) := by decide +kernel
theorem dX7_write_43 : decode cX7_write 43 = .ok (.putfield 53, 3) := by decide +kernel
theorem dX7_write_46 : decode cX7_write 46 = .ok (.aload_n 0, 1) := by decide +kernel
theorem dX7_write_47 : decode cX7_write 47 = .ok (.aload_n 0, 1) := by decide +kernel
theorem dX7_write_48 : decode cX7_write 48 = .ok (.getfield 56, 3) := by decide +kernel
theorem dX7_write_51 : decode cX7_write 51 = .ok (.bipush (-9), 2) := by decide +kernel
theorem dX7_write_53 : decode cX7_write 53 = .ok (.if_icmp .ne 7, 3) := by decide +kernel
theorem dX7_write_56 : decode cX7_write 56 = .ok (.iload_n 3, 1) := by decide +kernel
theorem dX7_write_57 : decode cX7_write 57 = .ok (.goto 7, 3) := by decide +kernel
theorem dX7_write_60 : decode cX7_write 60 = .ok (.aload_n 0, 1) := by decide +kernel
theorem dX7_write_61 : decode cX7_write 61 = .ok (.getfield 56, 3) := by decide +kernel
theorem dX7_write_64 : decode cX7_write 64 = .ok (.putfield 56, 3) := by decide +kernel
theorem dX7_write_67 : decode cX7_write 67 = .ok (.aload_n 1, 1) := by decide +kernel
theorem dX7_write_68 : decode cX7_write 68 = .ok (.sipush 288, 3) := by decide +kernel
theorem dX7_write_71 : decode cX7_write 71 = .ok (.iload_n 3, 1) := by decide +kernel
theorem dX7_write_72 : decode cX7_write 72 = .ok (.iadd, 1) := by decide +kernel
theorem dX7_write_73 : decode cX7_write 73 = .ok (.iload_n 2, 1) := by decide +kernel
theorem dX7_write_74 : decode cX7_write 74 = .ok (.iconst 1, 1) := by decide +kernel
theorem dX7_write_75 : decode cX7_write 75 = .ok (.iadd, 1) := by decide +kernel
theorem dX7_write_76 : decode cX7_write 76 = .ok (.iastore, 1) := by decide +kernel
theorem dX7_write_77 : decode cX7_write 77 = .ok (.aload_n 1, 1) := by decide +kernel
theorem dX7_write_78 : decode cX7_write 78 = .ok (.sipush 425, 3) := by decide +kernel
theorem dX7_write_81 : decode cX7_write 81 = .ok (.dup2, 1) := by decide +kernel
theorem dX7_write_82 : decode cX7_write 82 = .ok (.iaload, 1) := by decide +kernel
theorem dX7_write_83 : decode cX7_write 83 = .ok (.iconst 1, 1) := by decide +kernel
theorem dX7_write_84 : decode cX7_write 84 = .ok (.iadd, 1) := by decide +kernel
theorem dX7_write_85 : decode cX7_write 85 = .ok (.iastore, 1) := by decide +kernel
theorem dX7_write_86 : decode cX7_write 86 = .ok (.aload_n 1, 1) := by decide +kernel
theorem dX7_write_87 : decode cX7_write 87 = .ok (.iload_n 2, 1) := by decide +kernel
theorem dX7_write_88 : decode cX7_write 88 = .ok (.invokestatic 59, 3) := by decide +kernel
theorem dX7_write_91 : decode cX7_write 91 = .ok (.bipush 12, 2) := by decide +kernel
theorem dX7_write_93 : decode cX7_write 93 = .ok (.iadd, 1) := by decide +kernel
theorem dX7_write_94 : decode cX7_write 94 = .ok (.dup2, 1) := by decide +kernel
theorem dX7_write_95 : decode cX7_write 95 = .ok (.iaload, 1) := by decide +kernel
theorem dX7_write_96 : decode cX7_write 96 = .ok (.iconst 1, 1) := by decide +kernel
theorem dX7_write_97 : decode cX7_write 97 = .ok (.iadd, 1) := by decide +kernel
theorem dX7_write_98 : decode cX7_write 98 = .ok (.iastore, 1) := by decide +kernel
theorem dX7_write_99 : decode cX7_write 99 = .ok (.aload_n 0, 1) := by decide +kernel
theorem dX7_write_100 : decode cX7_write 100 = .ok (.getfield 32, 3) := by decide +kernel
theorem dX7_write_103 : decode cX7_write 103 = .ok (.iload_n 3, 1) := by decide +kernel
theorem dX7_write_104 : decode cX7_write 104 = .ok (.dup2, 1) := by decide +kernel
theorem dX7_write_105 : decode cX7_write 105 = .ok (.iaload, 1) := by decide +kernel
theorem dX7_write_106 : decode cX7_write 106 = .ok (.iconst 1, 1) := by decide +kernel
theorem dX7_write_107 : decode cX7_write 107 = .ok (.iload_n 2, 1) := by decide +kernel
theorem dX7_write_108 : decode cX7_write 108 = .ok (.ishl, 1) := by decide +kernel
theorem dX7_write_109 : decode cX7_write 109 = .ok (.ior, 1) := by decide +kernel
theorem dX7_write_110 : decode cX7_write 110 = .ok (.iastore, 1) := by decide +kernel
theorem dX7_write_111 : decode cX7_write 111 = .ok (.return_, 1) := by decide +kernel
set_option maxRecDepth 20000 in
theorem ggX7_choose_X7_at : GoodIn wsX7_choose wsX7_at := goodIn_r _ [4] (by decide +kernel) (by decide +kernel)
set_option maxRecDepth 20000 in
theorem gX7_choose_X7_at : GoodIn wsX7_choose (va_wsS RX7 59 yX7_at wsX7_at) := goodIn_app (goodIn_of _ (by decide +kernel)) ggX7_choose_X7_at
set_option maxRecDepth 20000 in
theorem ggX7_choose_X7_fail : GoodIn wsX7_choose wsX7_fail := goodIn_r _ [7, 1, 2, 3, 4] (by decide +kernel) (by decide +kernel)
set_option maxRecDepth 20000 in
theorem gX7_choose_X7_fail : GoodIn wsX7_choose (va_wsS RX7 63 yX7_fail wsX7_fail) := goodIn_app (goodIn_of _ (by decide +kernel)) ggX7_choose_X7_fail
set_option maxRecDepth 20000 in
theorem ggX7_choose_X7_end : GoodIn wsX7_choose wsX7_end := goodIn_r _ [10, 1, 2, 3, 4] (by decide +kernel) (by decide +kernel)
set_option maxRecDepth 20000 in
theorem gX7_choose_X7_end : GoodIn wsX7_choose (va_wsS RX7 67 yX7_end wsX7_end) := goodIn_app (goodIn_of _ (by decide +kernel)) ggX7_choose_X7_end
theorem dX7_choose_0 : decode cX7_choose 0 = .ok (.iload_n 1, 1) := by decide +kernel
theorem dX7_choose_1 : decode cX7_choose 1 = .ok (.invokestatic 59, 3) := by decide +kernel
theorem dX7_choose_4 : decode cX7_choose 4 = .ok (.istore_n 2, 1) := by decide +kernel
theorem dX7_choose_5 : decode cX7_choose 5 = .ok (.aload_n 0, 1) := by decide +kernel
theorem dX7_choose_6 : decode cX7_choose 6 = .ok (.iload_n 2, 1) := by decide +kernel
theorem dX7_choose_7 : decode cX7_choose 7 = .ok (.iconst 5, 1) := by decide +kernel
theorem dX7_choose_8 : decode cX7_choose 8 = .ok (.iadd, 1) := by decide +kernel
theorem dX7_choose_9 : decode cX7_choose 9 = .ok (.iaload, 1) := by decide +kernel
theorem dX7_choose_10 : decode cX7_choose 10 = .ok (.bipush 96, 2) := by decide +kernel
theorem dX7_choose_12 : decode cX7_choose 12 = .ok (.if_icmp .lt 12, 3) := by decide +kernel
theorem dX7_choose_15 : decode cX7_choose 15 = .ok (.aload_n 0, 1) := by decide +kernel
theorem dX7_choose_16 : decode cX7_choose 16 = .ok (.iload_n 1, 1) := by decide +kernel
theorem dX7_choose_17 : decode cX7_choose 17 = .ok (.iconst 3, 1) := by decide +kernel
theorem dX7_choose_18 : decode cX7_choose 18 = .ok (.invokestatic 63, 3) := by decide +kernel
theorem dX7_choose_21 : decode cX7_choose 21 = .ok (.goto 41, 3) := by decide +kernel
theorem dX7_choose_24 : decode cX7_choose 24 = .ok (.aload_n 0, 1) := by decide +kernel
theorem dX7_choose_25 : decode cX7_choose 25 = .ok (.iload_n 1, 1) := by decide +kernel
theorem dX7_choose_26 : decode cX7_choose 26 = .ok (.aload_n 0, 1) := by decide +kernel
theorem dX7_choose_27 : decode cX7_choose 27 = .ok (.aload_n 0, 1) := by decide +kernel
theorem dX7_choose_28 : decode cX7_choose 28 = .ok (.iload_n 2, 1) := by decide +kernel
theorem dX7_choose_29 : decode cX7_choose 29 = .ok (.iconst 5, 1) := by decide +kernel
theorem dX7_choose_30 : decode cX7_choose 30 = .ok (.iadd, 1) := by decide +kernel
theorem dX7_choose_31 : decode cX7_choose 31 = .ok (.iaload, 1) := by decide +kernel
theorem dX7_choose_32 : decode cX7_choose 32 = .ok (.iaload, 1) := by decide +kernel
theorem dX7_choose_33 : decode cX7_choose 33 = .ok (.aload_n 0, 1) := by decide +kernel
theorem dX7_choose_34 : decode cX7_choose 34 = .ok (.iload_n 2, 1) := by decide +kernel
theorem dX7_choose_35 : decode cX7_choose 35 = .ok (.bipush 6, 2) := by decide +kernel
theorem dX7_choose_37 : decode cX7_choose 37 = .ok (.iadd, 1) := by decide +kernel
theorem dX7_choose_38 : decode cX7_choose 38 = .ok (.iaload, 1) := by decide +kernel
theorem dX7_choose_39 : decode cX7_choose 39 = .ok (.if_icmp .ne 12, 3) := by decide +kernel
theorem dX7_choose_42 : decode cX7_choose 42 = .ok (.aload_n 0, 1) := by decide +kernel
theorem dX7_choose_43 : decode cX7_choose 43 = .ok (.iload_n 2, 1) := by decide +kernel
theorem dX7_choose_44 : decode cX7_choose 44 = .ok (.bipush 9, 2) := by decide +kernel
theorem dX7_choose_46 : decode cX7_choose 46 = .ok (.iadd, 1) := by decide +kernel
theorem dX7_choose_47 : decode cX7_choose 47 = .ok (.iaload, 1) := by decide +kernel
theorem dX7_choose_48 : decode cX7_choose 48 = .ok (.goto 11, 3) := by decide +kernel
theorem dX7_choose_51 : decode cX7_choose 51 = .ok (.aload_n 0, 1) := by decide +kernel
theorem dX7_choose_52 : decode cX7_choose 52 = .ok (.iload_n 2, 1) := by decide +kernel
theorem dX7_choose_53 : decode cX7_choose 53 = .ok (.iconst 3, 1) := by decide +kernel
theorem dX7_choose_54 : decode cX7_choose 54 = .ok (.iadd, 1) := by decide +kernel
theorem dX7_choose_55 : decode cX7_choose 55 = .ok (.iaload, 1) := by decide +kernel
theorem dX7_choose_56 : decode cX7_choose 56 = .ok (.bipush 6, 2) := by decide +kernel
theorem dX7_choose_58 : decode cX7_choose 58 = .ok (.iadd, 1) := by decide +kernel
theorem dX7_choose_59 : decode cX7_choose 59 = .ok (.invokestatic 67, 3) := by decide +kernel
theorem dX7_choose_62 : decode cX7_choose 62 = .ok (.return_, 1) := by decide +kernel
set_option maxRecDepth 20000 in
theorem ggX7_unit_X7_at : GoodIn wsX7_unit wsX7_at := goodIn_r _ [4] (by decide +kernel) (by decide +kernel)
set_option maxRecDepth 20000 in
theorem gX7_unit_X7_at : GoodIn wsX7_unit (va_wsS RX7 59 yX7_at wsX7_at) := goodIn_app (goodIn_of _ (by decide +kernel)) ggX7_unit_X7_at
set_option maxRecDepth 20000 in
theorem ggX7_unit_X7_fail : GoodIn wsX7_unit wsX7_fail := goodIn_r _ [7, 1, 2, 3, 4] (by decide +kernel) (by decide +kernel)
set_option maxRecDepth 20000 in
theorem gX7_unit_X7_fail : GoodIn wsX7_unit (va_wsS RX7 63 yX7_fail wsX7_fail) := goodIn_app (goodIn_of _ (by decide +kernel)) ggX7_unit_X7_fail
set_option maxRecDepth 20000 in
theorem ggX7_unit_X7_isOwn : GoodIn wsX7_unit wsX7_isOwn := goodIn_r _ [10] (by decide +kernel) (by decide +kernel)
set_option maxRecDepth 20000 in
theorem gX7_unit_X7_isOwn : GoodIn wsX7_unit (va_wsS RX7 70 yX7_isOwn wsX7_isOwn) := goodIn_app (goodIn_of _ (by decide +kernel)) ggX7_unit_X7_isOwn
set_option maxRecDepth 20000 in
theorem ggX7_unit_X7_write : GoodIn wsX7_unit wsX7_write := goodIn_r _ [14, 15, 16, 17, 1, 2, 3, 4, 18, 19, 20, 21, 22, 23, 24, 25, 26, 27, 28, 29, 30, 31, 32, 33, 34] (by decide +kernel) (by decide +kernel)
set_option maxRecDepth 20000 in
theorem gX7_unit_X7_write : GoodIn wsX7_unit (wsV RX7 74 RX7 yX7_write wsX7_write) := goodIn_app (goodIn_of _ (by decide +kernel)) ggX7_unit_X7_write
theorem dX7_unit_0 : decode cX7_unit 0 = .ok (.iload_n 2, 1) := by decide +kernel
theorem dX7_unit_1 : decode cX7_unit 1 = .ok (.invokestatic 59, 3) := by decide +kernel
theorem dX7_unit_4 : decode cX7_unit 4 = .ok (.istore_n 3, 1) := by decide +kernel
theorem dX7_unit_5 : decode cX7_unit 5 = .ok (.aload_n 1, 1) := by decide +kernel
theorem dX7_unit_6 : decode cX7_unit 6 = .ok (.iload_n 3, 1) := by decide +kernel
theorem dX7_unit_7 : decode cX7_unit 7 = .ok (.iconst 4, 1) := by decide +kernel
theorem dX7_unit_8 : decode cX7_unit 8 = .ok (.iadd, 1) := by decide +kernel
theorem dX7_unit_9 : decode cX7_unit 9 = .ok (.iaload, 1) := by decide +kernel
theorem dX7_unit_10 : decode cX7_unit 10 = .ok (.istore 4, 2) := by decide +kernel
theorem dX7_unit_12 : decode cX7_unit 12 = .ok (.iload 4, 2) := by decide +kernel
theorem dX7_unit_14 : decode cX7_unit 14 = .ok (.iconst 2, 1) := by decide +kernel
theorem dX7_unit_15 : decode cX7_unit 15 = .ok (.if_icmp .ne 21, 3) := by decide +kernel
theorem dX7_unit_18 : decode cX7_unit 18 = .ok (.aload_n 1, 1) := by decide +kernel
theorem dX7_unit_19 : decode cX7_unit 19 = .ok (.iload_n 3, 1) := by decide +kernel
theorem dX7_unit_20 : decode cX7_unit 20 = .ok (.bipush 7, 2) := by decide +kernel
theorem dX7_unit_22 : decode cX7_unit 22 = .ok (.iadd, 1) := by decide +kernel
theorem dX7_unit_23 : decode cX7_unit 23 = .ok (.iaload, 1) := by decide +kernel
theorem dX7_unit_24 : decode cX7_unit 24 = .ok (.iconst 1, 1) := by decide +kernel
theorem dX7_unit_25 : decode cX7_unit 25 = .ok (.isub, 1) := by decide +kernel
theorem dX7_unit_26 : decode cX7_unit 26 = .ok (.aload_n 1, 1) := by decide +kernel
theorem dX7_unit_27 : decode cX7_unit 27 = .ok (.iload_n 3, 1) := by decide +kernel
theorem dX7_unit_28 : decode cX7_unit 28 = .ok (.bipush 10, 2) := by decide +kernel
theorem dX7_unit_30 : decode cX7_unit 30 = .ok (.iadd, 1) := by decide +kernel
theorem dX7_unit_31 : decode cX7_unit 31 = .ok (.iaload, 1) := by decide +kernel
theorem dX7_unit_32 : decode cX7_unit 32 = .ok (.isub, 1) := by decide +kernel
theorem dX7_unit_33 : decode cX7_unit 33 = .ok (.goto 9, 3) := by decide +kernel
theorem dX7_unit_36 : decode cX7_unit 36 = .ok (.aload_n 1, 1) := by decide +kernel
theorem dX7_unit_37 : decode cX7_unit 37 = .ok (.iload_n 3, 1) := by decide +kernel
theorem dX7_unit_38 : decode cX7_unit 38 = .ok (.bipush 10, 2) := by decide +kernel
theorem dX7_unit_40 : decode cX7_unit 40 = .ok (.iadd, 1) := by decide +kernel
theorem dX7_unit_41 : decode cX7_unit 41 = .ok (.iaload, 1) := by decide +kernel
theorem dX7_unit_42 : decode cX7_unit 42 = .ok (.istore 5, 2) := by decide +kernel
theorem dX7_unit_44 : decode cX7_unit 44 = .ok (.iload 4, 2) := by decide +kernel
theorem dX7_unit_46 : decode cX7_unit 46 = .ok (.iconst 3, 1) := by decide +kernel
theorem dX7_unit_47 : decode cX7_unit 47 = .ok (.if_icmp .lt 9, 3) := by decide +kernel
theorem dX7_unit_50 : decode cX7_unit 50 = .ok (.iload 4, 2) := by decide +kernel
theorem dX7_unit_52 : decode cX7_unit 52 = .ok (.iconst 5, 1) := by decide +kernel
theorem dX7_unit_53 : decode cX7_unit 53 = .ok (.if_icmp .ne 7, 3) := by decide +kernel
theorem dX7_unit_56 : decode cX7_unit 56 = .ok (.iconst 1, 1) := by decide +kernel
theorem dX7_unit_57 : decode cX7_unit 57 = .ok (.goto 4, 3) := by decide +kernel
theorem dX7_unit_60 : decode cX7_unit 60 = .ok (.iconst 0, 1) := by decide +kernel
theorem dX7_unit_61 : decode cX7_unit 61 = .ok (.istore 6, 2) := by decide +kernel
theorem dX7_unit_63 : decode cX7_unit 63 = .ok (.iload 6, 2) := by decide +kernel
theorem dX7_unit_65 : decode cX7_unit 65 = .ok (.ifCond .eq 14, 3) := by decide +kernel
theorem dX7_unit_68 : decode cX7_unit 68 = .ok (.aload_n 1, 1) := by decide +kernel
theorem dX7_unit_69 : decode cX7_unit 69 = .ok (.iload_n 3, 1) := by decide +kernel
theorem dX7_unit_70 : decode cX7_unit 70 = .ok (.iconst 5, 1) := by decide +kernel
theorem dX7_unit_71 : decode cX7_unit 71 = .ok (.iadd, 1) := by decide +kernel
theorem dX7_unit_72 : decode cX7_unit 72 = .ok (.iaload, 1) := by decide +kernel
theorem dX7_unit_73 : decode cX7_unit 73 = .ok (.iload 5, 2) := by decide +kernel
theorem dX7_unit_75 : decode cX7_unit 75 = .ok (.iadd, 1) := by decide +kernel
theorem dX7_unit_76 : decode cX7_unit 76 = .ok (.goto 4, 3) := by decide +kernel
theorem dX7_unit_79 : decode cX7_unit 79 = .ok (.iconst 0, 1) := by decide +kernel
theorem dX7_unit_80 : decode cX7_unit 80 = .ok (.istore 7, 2) := by decide +kernel
theorem dX7_unit_82 : decode cX7_unit 82 = .ok (.aload_n 1, 1) := by decide +kernel
theorem dX7_unit_83 : decode cX7_unit 83 = .ok (.iload_n 3, 1) := by decide +kernel
theorem dX7_unit_84 : decode cX7_unit 84 = .ok (.bipush 6, 2) := by decide +kernel
theorem dX7_unit_86 : decode cX7_unit 86 = .ok (.iadd, 1) := by decide +kernel
theorem dX7_unit_87 : decode cX7_unit 87 = .ok (.iaload, 1) := by decide +kernel
theorem dX7_unit_88 : decode cX7_unit 88 = .ok (.iload 6, 2) := by decide +kernel
theorem dX7_unit_90 : decode cX7_unit 90 = .ok (.ifCond .eq 8, 3) := by decide +kernel
theorem dX7_unit_93 : decode cX7_unit 93 = .ok (.iload 5, 2) := by decide +kernel
theorem dX7_unit_95 : decode cX7_unit 95 = .ok (.goto 12, 3) := by decide +kernel
theorem dX7_unit_98 : decode cX7_unit 98 = .ok (.iload 5, 2) := by decide +kernel
theorem dX7_unit_100 : decode cX7_unit 100 = .ok (.aload_n 1, 1) := by decide +kernel
theorem dX7_unit_101 : decode cX7_unit 101 = .ok (.iload_n 3, 1) := by decide +kernel
theorem dX7_unit_102 : decode cX7_unit 102 = .ok (.bipush 8, 2) := by decide +kernel
theorem dX7_unit_104 : decode cX7_unit 104 = .ok (.iadd, 1) := by decide +kernel
theorem dX7_unit_105 : decode cX7_unit 105 = .ok (.iaload, 1) := by decide +kernel
theorem dX7_unit_106 : decode cX7_unit 106 = .ok (.imul, 1) := by decide +kernel
theorem dX7_unit_107 : decode cX7_unit 107 = .ok (.iadd, 1) := by decide +kernel
theorem dX7_unit_108 : decode cX7_unit 108 = .ok (.istore 8, 2) := by decide +kernel
theorem dX7_unit_110 : decode cX7_unit 110 = .ok (.iload 7, 2) := by decide +kernel
theorem dX7_unit_112 : decode cX7_unit 112 = .ok (.bipush 96, 2) := by decide +kernel
theorem dX7_unit_114 : decode cX7_unit 114 = .ok (.if_icmp .ge 10, 3) := by decide +kernel
theorem dX7_unit_117 : decode cX7_unit 117 = .ok (.iload 8, 2) := by decide +kernel
theorem dX7_unit_119 : decode cX7_unit 119 = .ok (.bipush 96, 2) := by decide +kernel
theorem dX7_unit_121 : decode cX7_unit 121 = .ok (.if_icmp .lt 11, 3) := by decide +kernel
theorem dX7_unit_124 : decode cX7_unit 124 = .ok (.aload_n 1, 1) := by decide +kernel
theorem dX7_unit_125 : decode cX7_unit 125 = .ok (.iload_n 2, 1) := by decide +kernel
theorem dX7_unit_126 : decode cX7_unit 126 = .ok (.iconst 3, 1) := by decide +kernel
theorem dX7_unit_127 : decode cX7_unit 127 = .ok (.invokestatic 63, 3) := by decide +kernel
theorem dX7_unit_130 : decode cX7_unit 130 = .ok (.iconst 0, 1) := by decide +kernel
theorem dX7_unit_131 : decode cX7_unit 131 = .ok (.ireturn, 1) := by decide +kernel
theorem dX7_unit_132 : decode cX7_unit 132 = .ok (.iload 4, 2) := by decide +kernel
theorem dX7_unit_134 : decode cX7_unit 134 = .ok (.iconst 5, 1) := by decide +kernel
theorem dX7_unit_135 : decode cX7_unit 135 = .ok (.if_icmp .ne 14, 3) := by decide +kernel
theorem dX7_unit_138 : decode cX7_unit 138 = .ok (.iload 7, 2) := by decide +kernel
theorem dX7_unit_140 : decode cX7_unit 140 = .ok (.iload 8, 2) := by decide +kernel
theorem dX7_unit_142 : decode cX7_unit 142 = .ok (.if_icmp .ne 7, 3) := by decide +kernel
theorem dX7_unit_145 : decode cX7_unit 145 = .ok (.iconst 1, 1) := by decide +kernel
theorem dX7_unit_146 : decode cX7_unit 146 = .ok (.goto 4, 3) := by decide +kernel
theorem dX7_unit_149 : decode cX7_unit 149 = .ok (.iconst 0, 1) := by decide +kernel
theorem dX7_unit_150 : decode cX7_unit 150 = .ok (.istore 9, 2) := by decide +kernel
theorem dX7_unit_152 : decode cX7_unit 152 = .ok (.iload 9, 2) := by decide +kernel
theorem dX7_unit_154 : decode cX7_unit 154 = .ok (.ifCond .ne 37, 3) := by decide +kernel
theorem dX7_unit_157 : decode cX7_unit 157 = .ok (.aload_n 1, 1) := by decide +kernel
theorem dX7_unit_158 : decode cX7_unit 158 = .ok (.iload_n 2, 1) := by decide +kernel
theorem dX7_unit_159 : decode cX7_unit 159 = .ok (.iload 8, 2) := by decide +kernel
theorem dX7_unit_161 : decode cX7_unit 161 = .ok (.invokestatic 70, 3) := by decide +kernel
theorem dX7_unit_164 : decode cX7_unit 164 = .ok (.ifCond .eq 19, 3) := by decide +kernel
theorem dX7_unit_167 : decode cX7_unit 167 = .ok (.iload 4, 2) := by decide +kernel
theorem dX7_unit_169 : decode cX7_unit 169 = .ok (.iconst 5, 1) := by decide +kernel
theorem dX7_unit_170 : decode cX7_unit 170 = .ok (.if_icmp .ne 21, 3) := by decide +kernel
theorem dX7_unit_173 : decode cX7_unit 173 = .ok (.aload_n 1, 1) := by decide +kernel
theorem dX7_unit_174 : decode cX7_unit 174 = .ok (.iload_n 2, 1) := by decide +kernel
theorem dX7_unit_175 : decode cX7_unit 175 = .ok (.iload 7, 2) := by decide +kernel
theorem dX7_unit_177 : decode cX7_unit 177 = .ok (.invokestatic 70, 3) := by decide +kernel
theorem dX7_unit_180 : decode cX7_unit 180 = .ok (.ifCond .ne 11, 3) := by decide +kernel
theorem dX7_unit_183 : decode cX7_unit 183 = .ok (.aload_n 1, 1) := by decide +kernel
theorem dX7_unit_184 : decode cX7_unit 184 = .ok (.iload_n 2, 1) := by decide +kernel
theorem dX7_unit_185 : decode cX7_unit 185 = .ok (.iconst 4, 1) := by decide +kernel
theorem dX7_unit_186 : decode cX7_unit 186 = .ok (.invokestatic 63, 3) := by decide +kernel
theorem dX7_unit_189 : decode cX7_unit 189 = .ok (.iconst 0, 1) := by decide +kernel
theorem dX7_unit_190 : decode cX7_unit 190 = .ok (.ireturn, 1) := by decide +kernel
theorem dX7_unit_191 : decode cX7_unit 191 = .ok (.iload 4, 2) := by decide +kernel
theorem dX7_unit_193 : decode cX7_unit 193 = .ok (.iconst 3, 1) := by decide +kernel
theorem dX7_unit_194 : decode cX7_unit 194 = .ok (.if_icmp .ge 18, 3) := by decide +kernel
theorem dX7_unit_197 : decode cX7_unit 197 = .ok (.aload_n 0, 1) := by decide +kernel
theorem dX7_unit_198 : decode cX7_unit 198 = .ok (.aload_n 1, 1) := by decide +kernel
theorem dX7_unit_199 : decode cX7_unit 199 = .ok (.iload_n 2, 1) := by decide +kernel
theorem dX7_unit_200 : decode cX7_unit 200 = .ok (.iload 8, 2) := by decide +kernel
theorem dX7_unit_202 : decode cX7_unit 202 = .ok (.aload_n 1, 1) := by decide +kernel
theorem dX7_unit_203 : decode cX7_unit 203 = .ok (.iload 7, 2) := by decide +kernel
theorem dX7_unit_205 : decode cX7_unit 205 = .ok (.iaload, 1) := by decide +kernel
theorem dX7_unit_206 : decode cX7_unit 206 = .ok (.invokevirtual 74, 3) := by decide +kernel
theorem dX7_unit_209 : decode cX7_unit 209 = .ok (.goto 88, 3) := by decide +kernel
theorem dX7_unit_212 : decode cX7_unit 212 = .ok (.iload 4, 2) := by decide +kernel
theorem dX7_unit_214 : decode cX7_unit 214 = .ok (.iconst 3, 1) := by decide +kernel
theorem dX7_unit_215 : decode cX7_unit 215 = .ok (.if_icmp .ne 19, 3) := by decide +kernel
theorem dX7_unit_218 : decode cX7_unit 218 = .ok (.aload_n 0, 1) := by decide +kernel
theorem dX7_unit_219 : decode cX7_unit 219 = .ok (.aload_n 1, 1) := by decide +kernel
theorem dX7_unit_220 : decode cX7_unit 220 = .ok (.iload_n 2, 1) := by decide +kernel
theorem dX7_unit_221 : decode cX7_unit 221 = .ok (.iload 8, 2) := by decide +kernel
theorem dX7_unit_223 : decode cX7_unit 223 = .ok (.aload_n 1, 1) := by decide +kernel
theorem dX7_unit_224 : decode cX7_unit 224 = .ok (.iload_n 3, 1) := by decide +kernel
theorem dX7_unit_225 : decode cX7_unit 225 = .ok (.iconst 5, 1) := by decide +kernel
theorem dX7_unit_226 : decode cX7_unit 226 = .ok (.iadd, 1) := by decide +kernel
theorem dX7_unit_227 : decode cX7_unit 227 = .ok (.iaload, 1) := by decide +kernel
theorem dX7_unit_228 : decode cX7_unit 228 = .ok (.invokevirtual 74, 3) := by decide +kernel
theorem dX7_unit_231 : decode cX7_unit 231 = .ok (.goto 66, 3) := by decide +kernel
theorem dX7_unit_234 : decode cX7_unit 234 = .ok (.iload 4, 2) := by decide +kernel
theorem dX7_unit_236 : decode cX7_unit 236 = .ok (.iconst 4, 1) := by decide +kernel
theorem dX7_unit_237 : decode cX7_unit 237 = .ok (.if_icmp .ne 27, 3) := by decide +kernel
theorem dX7_unit_240 : decode cX7_unit 240 = .ok (.aload_n 0, 1) := by decide +kernel
theorem dX7_unit_241 : decode cX7_unit 241 = .ok (.aload_n 1, 1) := by decide +kernel
theorem dX7_unit_242 : decode cX7_unit 242 = .ok (.iload_n 2, 1) := by decide +kernel
theorem dX7_unit_243 : decode cX7_unit 243 = .ok (.iload 8, 2) := by decide +kernel
theorem dX7_unit_245 : decode cX7_unit 245 = .ok (.aload_n 1, 1) := by decide +kernel
theorem dX7_unit_246 : decode cX7_unit 246 = .ok (.iload 8, 2) := by decide +kernel
theorem dX7_unit_248 : decode cX7_unit 248 = .ok (.iaload, 1) := by decide +kernel
theorem dX7_unit_249 : decode cX7_unit 249 = .ok (.aload_n 1, 1) := by decide +kernel
theorem dX7_unit_250 : decode cX7_unit 250 = .ok (.iload_n 3, 1) := by decide +kernel
theorem dX7_unit_251 : decode cX7_unit 251 = .ok (.iconst 5, 1) := by decide +kernel
theorem dX7_unit_252 : decode cX7_unit 252 = .ok (.iadd, 1) := by decide +kernel
theorem dX7_unit_253 : decode cX7_unit 253 = .ok (.iaload, 1) := by decide +kernel
theorem dX7_unit_254 : decode cX7_unit 254 = .ok (.iadd, 1) := by decide +kernel
theorem dX7_unit_255 : decode cX7_unit 255 = .ok (.bipush 100, 2) := by decide +kernel
theorem dX7_unit_257 : decode cX7_unit 257 = .ok (.irem, 1) := by decide +kernel
theorem dX7_unit_258 : decode cX7_unit 258 = .ok (.invokevirtual 74, 3) := by decide +kernel
theorem dX7_unit_261 : decode cX7_unit 261 = .ok (.goto 36, 3) := by decide +kernel
theorem dX7_unit_264 : decode cX7_unit 264 = .ok (.iload 9, 2) := by decide +kernel
theorem dX7_unit_266 : decode cX7_unit 266 = .ok (.ifCond .ne 31, 3) := by decide +kernel
theorem dX7_unit_269 : decode cX7_unit 269 = .ok (.aload_n 1, 1) := by decide +kernel
theorem dX7_unit_270 : decode cX7_unit 270 = .ok (.iload 7, 2) := by decide +kernel
theorem dX7_unit_272 : decode cX7_unit 272 = .ok (.iaload, 1) := by decide +kernel
theorem dX7_unit_273 : decode cX7_unit 273 = .ok (.istore 10, 2) := by decide +kernel
theorem dX7_unit_275 : decode cX7_unit 275 = .ok (.aload_n 0, 1) := by decide +kernel
theorem dX7_unit_276 : decode cX7_unit 276 = .ok (.aload_n 1, 1) := by decide +kernel
theorem dX7_unit_277 : decode cX7_unit 277 = .ok (.iload_n 2, 1) := by decide +kernel
theorem dX7_unit_278 : decode cX7_unit 278 = .ok (.iload 7, 2) := by decide +kernel
theorem dX7_unit_280 : decode cX7_unit 280 = .ok (.aload_n 1, 1) := by decide +kernel
theorem dX7_unit_281 : decode cX7_unit 281 = .ok (.iload 8, 2) := by decide +kernel
theorem dX7_unit_283 : decode cX7_unit 283 = .ok (.iaload, 1) := by decide +kernel
theorem dX7_unit_284 : decode cX7_unit 284 = .ok (.invokevirtual 74, 3) := by decide +kernel
theorem dX7_unit_287 : decode cX7_unit 287 = .ok (.aload_n 0, 1) := by decide +kernel
theorem dX7_unit_288 : decode cX7_unit 288 = .ok (.aload_n 1, 1) := by decide +kernel
theorem dX7_unit_289 : decode cX7_unit 289 = .ok (.iload_n 2, 1) := by decide +kernel
theorem dX7_unit_290 : decode cX7_unit 290 = .ok (.iload 8, 2) := by decide +kernel
theorem dX7_unit_292 : decode cX7_unit 292 = .ok (.iload 10, 2) := by decide +kernel
theorem dX7_unit_294 : decode cX7_unit 294 = .ok (.invokevirtual 74, 3) := by decide +kernel
theorem dX7_unit_297 : decode cX7_unit 297 = .ok (.iconst 1, 1) := by decide +kernel
theorem dX7_unit_298 : decode cX7_unit 298 = .ok (.ireturn, 1) := by decide +kernel
set_option maxRecDepth 20000 in
theorem ggX7_goOn_X7_turnOf : GoodIn wsX7_goOn wsX7_turnOf := goodIn_r _ [4, 5, 6, 3, 7] (by decide +kernel) (by decide +kernel)
set_option maxRecDepth 20000 in
theorem gX7_goOn_X7_turnOf : GoodIn wsX7_goOn (va_wsS RX7 78 yX7_turnOf wsX7_turnOf) := goodIn_app (goodIn_of _ (by decide +kernel)) ggX7_goOn_X7_turnOf
set_option maxRecDepth 20000 in
theorem ggX7_goOn_X7_at : GoodIn wsX7_goOn wsX7_at := goodIn_r _ [7] (by decide +kernel) (by decide +kernel)
set_option maxRecDepth 20000 in
theorem gX7_goOn_X7_at : GoodIn wsX7_goOn (va_wsS RX7 59 yX7_at wsX7_at) := goodIn_app (goodIn_of _ (by decide +kernel)) ggX7_goOn_X7_at
set_option maxRecDepth 20000 in
theorem ggX7_goOn_X7_readOrder : GoodIn wsX7_goOn wsX7_readOrder := goodIn_r _ [10, 5, 6, 3, 7, 11, 12, 13, 14, 15, 16] (by decide +kernel) (by decide +kernel)
set_option maxRecDepth 20000 in
theorem gX7_goOn_X7_readOrder : GoodIn wsX7_goOn (va_wsS RX7 82 yX7_readOrder wsX7_readOrder) := goodIn_app (goodIn_of _ (by decide +kernel)) ggX7_goOn_X7_readOrder
set_option maxRecDepth 20000 in
theorem ggX7_goOn_X7_choose : GoodIn wsX7_goOn wsX7_choose := goodIn_r _ [19, 5, 6, 3, 7, 11, 12, 13, 14, 15, 16] (by decide +kernel) (by decide +kernel)
set_option maxRecDepth 20000 in
theorem gX7_goOn_X7_choose : GoodIn wsX7_goOn (va_wsS RX7 86 yX7_choose wsX7_choose) := goodIn_app (goodIn_of _ (by decide +kernel)) ggX7_goOn_X7_choose
set_option maxRecDepth 20000 in
theorem ggX7_goOn_X7_unit : GoodIn wsX7_goOn wsX7_unit := goodIn_r _ [23, 5, 6, 3, 7, 11, 12, 13, 24, 25, 26, 27, 28, 29, 30, 31, 32, 33, 34, 35, 36, 37, 38, 39, 40, 41, 42, 43, 44, 45, 46, 47, 48, 49, 50] (by decide +kernel) (by decide +kernel)
set_option maxRecDepth 20000 in
theorem gX7_goOn_X7_unit : GoodIn wsX7_goOn (wsV RX7 89 RX7 yX7_unit wsX7_unit) := goodIn_app (goodIn_of _ (by decide +kernel)) ggX7_goOn_X7_unit
set_option maxRecDepth 20000 in
theorem ggX7_goOn_X7_end : GoodIn wsX7_goOn wsX7_end := goodIn_r _ [16, 5, 6, 3, 7] (by decide +kernel) (by decide +kernel)
set_option maxRecDepth 20000 in
theorem gX7_goOn_X7_end : GoodIn wsX7_goOn (va_wsS RX7 67 yX7_end wsX7_end) := goodIn_app (goodIn_of _ (by decide +kernel)) ggX7_goOn_X7_end
theorem dX7_goOn_0 : decode cX7_goOn 0 = .ok (.aload_n 1, 1) := by decide +kernel
theorem dX7_goOn_1 : decode cX7_goOn 1 = .ok (.invokestatic 78, 3) := by decide +kernel
theorem dX7_goOn_4 : decode cX7_goOn 4 = .ok (.istore_n 2, 1) := by decide +kernel
theorem dX7_goOn_5 : decode cX7_goOn 5 = .ok (.iload_n 2, 1) := by decide +kernel
theorem dX7_goOn_6 : decode cX7_goOn 6 = .ok (.bipush (-9), 2) := by decide +kernel
theorem dX7_goOn_8 : decode cX7_goOn 8 = .ok (.if_icmp .ne 5, 3) := by decide +kernel
theorem dX7_goOn_11 : decode cX7_goOn 11 = .ok (.iconst 0, 1) := by decide +kernel
theorem dX7_goOn_12 : decode cX7_goOn 12 = .ok (.ireturn, 1) := by decide +kernel
theorem dX7_goOn_13 : decode cX7_goOn 13 = .ok (.iload_n 2, 1) := by decide +kernel
theorem dX7_goOn_14 : decode cX7_goOn 14 = .ok (.invokestatic 59, 3) := by decide +kernel
theorem dX7_goOn_17 : decode cX7_goOn 17 = .ok (.istore_n 3, 1) := by decide +kernel
theorem dX7_goOn_18 : decode cX7_goOn 18 = .ok (.aload_n 1, 1) := by decide +kernel
theorem dX7_goOn_19 : decode cX7_goOn 19 = .ok (.sipush 426, 3) := by decide +kernel
theorem dX7_goOn_22 : decode cX7_goOn 22 = .ok (.iload_n 2, 1) := by decide +kernel
theorem dX7_goOn_23 : decode cX7_goOn 23 = .ok (.iconst 1, 1) := by decide +kernel
theorem dX7_goOn_24 : decode cX7_goOn 24 = .ok (.iadd, 1) := by decide +kernel
theorem dX7_goOn_25 : decode cX7_goOn 25 = .ok (.iconst 3, 1) := by decide +kernel
theorem dX7_goOn_26 : decode cX7_goOn 26 = .ok (.irem, 1) := by decide +kernel
theorem dX7_goOn_27 : decode cX7_goOn 27 = .ok (.iastore, 1) := by decide +kernel
theorem dX7_goOn_28 : decode cX7_goOn 28 = .ok (.aload_n 1, 1) := by decide +kernel
theorem dX7_goOn_29 : decode cX7_goOn 29 = .ok (.sipush 423, 3) := by decide +kernel
theorem dX7_goOn_32 : decode cX7_goOn 32 = .ok (.dup2, 1) := by decide +kernel
theorem dX7_goOn_33 : decode cX7_goOn 33 = .ok (.iaload, 1) := by decide +kernel
theorem dX7_goOn_34 : decode cX7_goOn 34 = .ok (.iconst 1, 1) := by decide +kernel
theorem dX7_goOn_35 : decode cX7_goOn 35 = .ok (.iadd, 1) := by decide +kernel
theorem dX7_goOn_36 : decode cX7_goOn 36 = .ok (.iastore, 1) := by decide +kernel
theorem dX7_goOn_37 : decode cX7_goOn 37 = .ok (.aload_n 1, 1) := by decide +kernel
theorem dX7_goOn_38 : decode cX7_goOn 38 = .ok (.iload_n 3, 1) := by decide +kernel
theorem dX7_goOn_39 : decode cX7_goOn 39 = .ok (.iconst 4, 1) := by decide +kernel
theorem dX7_goOn_40 : decode cX7_goOn 40 = .ok (.iadd, 1) := by decide +kernel
theorem dX7_goOn_41 : decode cX7_goOn 41 = .ok (.iaload, 1) := by decide +kernel
theorem dX7_goOn_42 : decode cX7_goOn 42 = .ok (.ifCond .ne 11, 3) := by decide +kernel
theorem dX7_goOn_45 : decode cX7_goOn 45 = .ok (.aload_n 1, 1) := by decide +kernel
theorem dX7_goOn_46 : decode cX7_goOn 46 = .ok (.iload_n 2, 1) := by decide +kernel
theorem dX7_goOn_47 : decode cX7_goOn 47 = .ok (.invokestatic 82, 3) := by decide +kernel
theorem dX7_goOn_50 : decode cX7_goOn 50 = .ok (.goto 66, 3) := by decide +kernel
theorem dX7_goOn_53 : decode cX7_goOn 53 = .ok (.aload_n 1, 1) := by decide +kernel
theorem dX7_goOn_54 : decode cX7_goOn 54 = .ok (.iload_n 3, 1) := by decide +kernel
theorem dX7_goOn_55 : decode cX7_goOn 55 = .ok (.iconst 4, 1) := by decide +kernel
theorem dX7_goOn_56 : decode cX7_goOn 56 = .ok (.iadd, 1) := by decide +kernel
theorem dX7_goOn_57 : decode cX7_goOn 57 = .ok (.iaload, 1) := by decide +kernel
theorem dX7_goOn_58 : decode cX7_goOn 58 = .ok (.bipush 6, 2) := by decide +kernel
theorem dX7_goOn_60 : decode cX7_goOn 60 = .ok (.if_icmp .ne 11, 3) := by decide +kernel
theorem dX7_goOn_63 : decode cX7_goOn 63 = .ok (.aload_n 1, 1) := by decide +kernel
theorem dX7_goOn_64 : decode cX7_goOn 64 = .ok (.iload_n 2, 1) := by decide +kernel
theorem dX7_goOn_65 : decode cX7_goOn 65 = .ok (.invokestatic 86, 3) := by decide +kernel
theorem dX7_goOn_68 : decode cX7_goOn 68 = .ok (.goto 48, 3) := by decide +kernel
theorem dX7_goOn_71 : decode cX7_goOn 71 = .ok (.aload_n 0, 1) := by decide +kernel
theorem dX7_goOn_72 : decode cX7_goOn 72 = .ok (.aload_n 1, 1) := by decide +kernel
theorem dX7_goOn_73 : decode cX7_goOn 73 = .ok (.iload_n 2, 1) := by decide +kernel
theorem dX7_goOn_74 : decode cX7_goOn 74 = .ok (.invokevirtual 89, 3) := by decide +kernel
theorem dX7_goOn_77 : decode cX7_goOn 77 = .ok (.ifCond .eq 39, 3) := by decide +kernel
theorem dX7_goOn_80 : decode cX7_goOn 80 = .ok (.aload_n 1, 1) := by decide +kernel
theorem dX7_goOn_81 : decode cX7_goOn 81 = .ok (.iload_n 3, 1) := by decide +kernel
theorem dX7_goOn_82 : decode cX7_goOn 82 = .ok (.bipush 10, 2) := by decide +kernel
theorem dX7_goOn_84 : decode cX7_goOn 84 = .ok (.iadd, 1) := by decide +kernel
theorem dX7_goOn_85 : decode cX7_goOn 85 = .ok (.dup2, 1) := by decide +kernel
theorem dX7_goOn_86 : decode cX7_goOn 86 = .ok (.iaload, 1) := by decide +kernel
theorem dX7_goOn_87 : decode cX7_goOn 87 = .ok (.iconst 1, 1) := by decide +kernel
theorem dX7_goOn_88 : decode cX7_goOn 88 = .ok (.iadd, 1) := by decide +kernel
theorem dX7_goOn_89 : decode cX7_goOn 89 = .ok (.iastore, 1) := by decide +kernel
theorem dX7_goOn_90 : decode cX7_goOn 90 = .ok (.aload_n 1, 1) := by decide +kernel
theorem dX7_goOn_91 : decode cX7_goOn 91 = .ok (.iload_n 3, 1) := by decide +kernel
theorem dX7_goOn_92 : decode cX7_goOn 92 = .ok (.bipush 10, 2) := by decide +kernel
theorem dX7_goOn_94 : decode cX7_goOn 94 = .ok (.iadd, 1) := by decide +kernel
theorem dX7_goOn_95 : decode cX7_goOn 95 = .ok (.iaload, 1) := by decide +kernel
theorem dX7_goOn_96 : decode cX7_goOn 96 = .ok (.aload_n 1, 1) := by decide +kernel
theorem dX7_goOn_97 : decode cX7_goOn 97 = .ok (.iload_n 3, 1) := by decide +kernel
theorem dX7_goOn_98 : decode cX7_goOn 98 = .ok (.bipush 7, 2) := by decide +kernel
theorem dX7_goOn_100 : decode cX7_goOn 100 = .ok (.iadd, 1) := by decide +kernel
theorem dX7_goOn_101 : decode cX7_goOn 101 = .ok (.iaload, 1) := by decide +kernel
theorem dX7_goOn_102 : decode cX7_goOn 102 = .ok (.if_icmp .ne 14, 3) := by decide +kernel
theorem dX7_goOn_105 : decode cX7_goOn 105 = .ok (.aload_n 1, 1) := by decide +kernel
theorem dX7_goOn_106 : decode cX7_goOn 106 = .ok (.iload_n 2, 1) := by decide +kernel
theorem dX7_goOn_107 : decode cX7_goOn 107 = .ok (.aload_n 1, 1) := by decide +kernel
theorem dX7_goOn_108 : decode cX7_goOn 108 = .ok (.iload_n 3, 1) := by decide +kernel
theorem dX7_goOn_109 : decode cX7_goOn 109 = .ok (.bipush 9, 2) := by decide +kernel
theorem dX7_goOn_111 : decode cX7_goOn 111 = .ok (.iadd, 1) := by decide +kernel
theorem dX7_goOn_112 : decode cX7_goOn 112 = .ok (.iaload, 1) := by decide +kernel
theorem dX7_goOn_113 : decode cX7_goOn 113 = .ok (.invokestatic 67, 3) := by decide +kernel
theorem dX7_goOn_116 : decode cX7_goOn 116 = .ok (.iconst 1, 1) := by decide +kernel
theorem dX7_goOn_117 : decode cX7_goOn 117 = .ok (.ireturn, 1) := by decide +kernel
set_option maxRecDepth 20000 in
theorem ggX7_goOnFor_X7_goOn : GoodIn wsX7_goOnFor wsX7_goOn := goodIn_r _ [5, 6, 7, 4, 8, 9, 10, 11, 12, 13, 14, 15, 16, 17, 18, 19, 20, 21, 22, 23, 24, 25, 26, 27, 28, 29, 30, 31, 32, 33, 34, 35, 36, 37, 38, 39, 40, 41, 42, 43, 44, 45, 46, 47, 48, 49, 50, 51, 52, 53, 54] (by decide +kernel) (by decide +kernel)
set_option maxRecDepth 20000 in
theorem gX7_goOnFor_X7_goOn : GoodIn wsX7_goOnFor (wsV RX7 93 RX7 yX7_goOn wsX7_goOn) := goodIn_app (goodIn_of _ (by decide +kernel)) ggX7_goOnFor_X7_goOn
theorem dX7_goOnFor_0 : decode cX7_goOnFor 0 = .ok (.iconst 0, 1) := by decide +kernel
theorem dX7_goOnFor_1 : decode cX7_goOnFor 1 = .ok (.istore_n 3, 1) := by decide +kernel
theorem dX7_goOnFor_2 : decode cX7_goOnFor 2 = .ok (.iload_n 3, 1) := by decide +kernel
theorem dX7_goOnFor_3 : decode cX7_goOnFor 3 = .ok (.iload_n 2, 1) := by decide +kernel
theorem dX7_goOnFor_4 : decode cX7_goOnFor 4 = .ok (.if_icmp .ge 17, 3) := by decide +kernel
theorem dX7_goOnFor_7 : decode cX7_goOnFor 7 = .ok (.aload_n 0, 1) := by decide +kernel
theorem dX7_goOnFor_8 : decode cX7_goOnFor 8 = .ok (.aload_n 1, 1) := by decide +kernel
theorem dX7_goOnFor_9 : decode cX7_goOnFor 9 = .ok (.invokevirtual 93, 3) := by decide +kernel
theorem dX7_goOnFor_12 : decode cX7_goOnFor 12 = .ok (.ifCond .eq 9, 3) := by decide +kernel
theorem dX7_goOnFor_15 : decode cX7_goOnFor 15 = .ok (.iinc 3 1, 3) := by decide +kernel
theorem dX7_goOnFor_18 : decode cX7_goOnFor 18 = .ok (.goto (-16), 3) := by decide +kernel
theorem dX7_goOnFor_21 : decode cX7_goOnFor 21 = .ok (.iload_n 3, 1) := by decide +kernel
theorem dX7_goOnFor_22 : decode cX7_goOnFor 22 = .ok (.ireturn, 1) := by decide +kernel
set_option maxRecDepth 20000 in
theorem ggX7_begin_X7_at : GoodIn wsX7_begin wsX7_at := goodIn_r _ [4] (by decide +kernel) (by decide +kernel)
set_option maxRecDepth 20000 in
theorem gX7_begin_X7_at : GoodIn wsX7_begin (va_wsS RX7 59 yX7_at wsX7_at) := goodIn_app (goodIn_of _ (by decide +kernel)) ggX7_begin_X7_at
theorem dX7_begin_0 : decode cX7_begin 0 = .ok (.aload_n 0, 1) := by decide +kernel
theorem dX7_begin_1 : decode cX7_begin 1 = .ok (.iload_n 1, 1) := by decide +kernel
theorem dX7_begin_2 : decode cX7_begin 2 = .ok (.invokestatic 59, 3) := by decide +kernel
theorem dX7_begin_5 : decode cX7_begin 5 = .ok (.iload_n 3, 1) := by decide +kernel
theorem dX7_begin_6 : decode cX7_begin 6 = .ok (.iastore, 1) := by decide +kernel
theorem dX7_begin_7 : decode cX7_begin 7 = .ok (.aload_n 0, 1) := by decide +kernel
theorem dX7_begin_8 : decode cX7_begin 8 = .ok (.iload_n 1, 1) := by decide +kernel
theorem dX7_begin_9 : decode cX7_begin 9 = .ok (.invokestatic 59, 3) := by decide +kernel
theorem dX7_begin_12 : decode cX7_begin 12 = .ok (.iconst 1, 1) := by decide +kernel
theorem dX7_begin_13 : decode cX7_begin 13 = .ok (.iadd, 1) := by decide +kernel
theorem dX7_begin_14 : decode cX7_begin 14 = .ok (.iload_n 2, 1) := by decide +kernel
theorem dX7_begin_15 : decode cX7_begin 15 = .ok (.iastore, 1) := by decide +kernel
theorem dX7_begin_16 : decode cX7_begin 16 = .ok (.aload_n 0, 1) := by decide +kernel
theorem dX7_begin_17 : decode cX7_begin 17 = .ok (.iload_n 1, 1) := by decide +kernel
theorem dX7_begin_18 : decode cX7_begin 18 = .ok (.invokestatic 59, 3) := by decide +kernel
theorem dX7_begin_21 : decode cX7_begin 21 = .ok (.iconst 2, 1) := by decide +kernel
theorem dX7_begin_22 : decode cX7_begin 22 = .ok (.iadd, 1) := by decide +kernel
theorem dX7_begin_23 : decode cX7_begin 23 = .ok (.iconst 0, 1) := by decide +kernel
theorem dX7_begin_24 : decode cX7_begin 24 = .ok (.iastore, 1) := by decide +kernel
theorem dX7_begin_25 : decode cX7_begin 25 = .ok (.aload_n 0, 1) := by decide +kernel
theorem dX7_begin_26 : decode cX7_begin 26 = .ok (.iload_n 1, 1) := by decide +kernel
theorem dX7_begin_27 : decode cX7_begin 27 = .ok (.invokestatic 59, 3) := by decide +kernel
theorem dX7_begin_30 : decode cX7_begin 30 = .ok (.iconst 4, 1) := by decide +kernel
theorem dX7_begin_31 : decode cX7_begin 31 = .ok (.iadd, 1) := by decide +kernel
theorem dX7_begin_32 : decode cX7_begin 32 = .ok (.iconst 0, 1) := by decide +kernel
theorem dX7_begin_33 : decode cX7_begin 33 = .ok (.iastore, 1) := by decide +kernel
theorem dX7_begin_34 : decode cX7_begin 34 = .ok (.return_, 1) := by decide +kernel
set_option maxRecDepth 20000 in
theorem ggX7_append_X7_in : GoodIn wsX7_append wsX7_in := goodIn_r _ [7] (by decide +kernel) (by decide +kernel)
set_option maxRecDepth 20000 in
theorem gX7_append_X7_in : GoodIn wsX7_append (va_wsS RX7 47 yX7_in wsX7_in) := goodIn_app (goodIn_of _ (by decide +kernel)) ggX7_append_X7_in
set_option maxRecDepth 20000 in
theorem ggX7_append_X7_refused : GoodIn wsX7_append wsX7_refused := goodIn_r _ [11, 12, 13, 14, 15, 16, 17, 18, 19, 20, 21, 22, 23, 24, 25, 26, 27, 28, 29] (by decide +kernel) (by decide +kernel)
set_option maxRecDepth 20000 in
theorem gX7_append_X7_refused : GoodIn wsX7_append (wsV RX7 102 RX7 yX7_refused wsX7_refused) := goodIn_app (goodIn_of _ (by decide +kernel)) ggX7_append_X7_refused
theorem dX7_append_0 : decode cX7_append 0 = .ok (.aload_n 0, 1) := by decide +kernel
theorem dX7_append_1 : decode cX7_append 1 = .ok (.iload_n 1, 1) := by decide +kernel
theorem dX7_append_2 : decode cX7_append 2 = .ok (.i2l, 1) := by decide +kernel
theorem dX7_append_3 : decode cX7_append 3 = .ok (.lconst 0, 1) := by decide +kernel
theorem dX7_append_4 : decode cX7_append 4 = .ok (.ldc2_w 97, 3) := by decide +kernel
theorem dX7_append_7 : decode cX7_append 7 = .ok (.invokestatic 47, 3) := by decide +kernel
theorem dX7_append_10 : decode cX7_append 10 = .ok (.ifCond .ne 7, 3) := by decide +kernel
theorem dX7_append_13 : decode cX7_append 13 = .ok (.iconst 1, 1) := by decide +kernel
theorem dX7_append_14 : decode cX7_append 14 = .ok (.goto 18, 3) := by decide +kernel
theorem dX7_append_17 : decode cX7_append 17 = .ok (.aload_n 0, 1) := by decide +kernel
theorem dX7_append_18 : decode cX7_append 18 = .ok (.getfield 99, 3) := by decide +kernel
theorem dX7_append_21 : decode cX7_append 21 = .ok (.sipush 140, 3) := by decide +kernel
theorem dX7_append_24 : decode cX7_append 24 = .ok (.if_icmp .ne 7, 3) := by decide +kernel
theorem dX7_append_27 : decode cX7_append 27 = .ok (.iconst 2, 1) := by decide +kernel
theorem dX7_append_28 : decode cX7_append 28 = .ok (.goto 4, 3) := by decide +kernel
theorem dX7_append_31 : decode cX7_append 31 = .ok (.iconst 0, 1) := by decide +kernel
theorem dX7_append_32 : decode cX7_append 32 = .ok (.invokevirtual 102, 3) := by decide +kernel
theorem dX7_append_35 : decode cX7_append 35 = .ok (.ifCond .eq 5, 3) := by decide +kernel
theorem dX7_append_38 : decode cX7_append 38 = .ok (.iconst 0, 1) := by decide +kernel
theorem dX7_append_39 : decode cX7_append 39 = .ok (.ireturn, 1) := by decide +kernel
theorem dX7_append_40 : decode cX7_append 40 = .ok (.aload_n 0, 1) := by decide +kernel
theorem dX7_append_41 : decode cX7_append 41 = .ok (.getfield 7, 3) := by decide +kernel
theorem dX7_append_44 : decode cX7_append 44 = .ok (.aload_n 0, 1) := by decide +kernel
theorem dX7_append_45 : decode cX7_append 45 = .ok (.getfield 99, 3) := by decide +kernel
theorem dX7_append_48 : decode cX7_append 48 = .ok (.iload_n 1, 1) := by decide +kernel
theorem dX7_append_49 : decode cX7_append 49 = .ok (.iastore, 1) := by decide +kernel
theorem dX7_append_50 : decode cX7_append 50 = .ok (.aload_n 0, 1) := by decide +kernel
theorem dX7_append_51 : decode cX7_append 51 = .ok (.dup, 1) := by decide +kernel
theorem dX7_append_52 : decode cX7_append 52 = .ok (.getfield 99, 3) := by decide +kernel
theorem dX7_append_55 : decode cX7_append 55 = .ok (.iconst 1, 1) := by decide +kernel
theorem dX7_append_56 : decode cX7_append 56 = .ok (.iadd, 1) := by decide +kernel
theorem dX7_append_57 : decode cX7_append 57 = .ok (.putfield 99, 3) := by decide +kernel
theorem dX7_append_60 : decode cX7_append 60 = .ok (.aload_n 0, 1) := by decide +kernel
theorem dX7_append_61 : decode cX7_append 61 = .ok (.getfield 99, 3) := by decide +kernel
theorem dX7_append_64 : decode cX7_append 64 = .ok (.ireturn, 1) := by decide +kernel
theorem dX7_clearText_0 : decode cX7_clearText 0 = .ok (.aload_n 0, 1) := by decide +kernel
theorem dX7_clearText_1 : decode cX7_clearText 1 = .ok (.getfield 99, 3) := by decide +kernel
theorem dX7_clearText_4 : decode cX7_clearText 4 = .ok (.istore_n 1, 1) := by decide +kernel
theorem dX7_clearText_5 : decode cX7_clearText 5 = .ok (.aload_n 0, 1) := by decide +kernel
theorem dX7_clearText_6 : decode cX7_clearText 6 = .ok (.iconst 0, 1) := by decide +kernel
theorem dX7_clearText_7 : decode cX7_clearText 7 = .ok (.putfield 99, 3) := by decide +kernel
theorem dX7_clearText_10 : decode cX7_clearText 10 = .ok (.iload_n 1, 1) := by decide +kernel
theorem dX7_clearText_11 : decode cX7_clearText 11 = .ok (.ireturn, 1) := by decide +kernel
set_option maxRecDepth 20000 in
theorem ggX7_digit_X7_in : GoodIn wsX7_digit wsX7_in := goodIn_r _ [7] (by decide +kernel) (by decide +kernel)
set_option maxRecDepth 20000 in
theorem gX7_digit_X7_in : GoodIn wsX7_digit (va_wsS RX7 47 yX7_in wsX7_in) := goodIn_app (goodIn_of _ (by decide +kernel)) ggX7_digit_X7_in
theorem dX7_digit_0 : decode cX7_digit 0 = .ok (.aload_n 0, 1) := by decide +kernel
theorem dX7_digit_1 : decode cX7_digit 1 = .ok (.getfield 106, 3) := by decide +kernel
theorem dX7_digit_4 : decode cX7_digit 4 = .ok (.aload_n 0, 1) := by decide +kernel
theorem dX7_digit_5 : decode cX7_digit 5 = .ok (.getfield 99, 3) := by decide +kernel
theorem dX7_digit_8 : decode cX7_digit 8 = .ok (.if_icmp .ge 18, 3) := by decide +kernel
theorem dX7_digit_11 : decode cX7_digit 11 = .ok (.aload_n 0, 1) := by decide +kernel
theorem dX7_digit_12 : decode cX7_digit 12 = .ok (.getfield 7, 3) := by decide +kernel
theorem dX7_digit_15 : decode cX7_digit 15 = .ok (.aload_n 0, 1) := by decide +kernel
theorem dX7_digit_16 : decode cX7_digit 16 = .ok (.getfield 106, 3) := by decide +kernel
theorem dX7_digit_19 : decode cX7_digit 19 = .ok (.iaload, 1) := by decide +kernel
theorem dX7_digit_20 : decode cX7_digit 20 = .ok (.bipush 48, 2) := by decide +kernel
theorem dX7_digit_22 : decode cX7_digit 22 = .ok (.isub, 1) := by decide +kernel
theorem dX7_digit_23 : decode cX7_digit 23 = .ok (.goto 5, 3) := by decide +kernel
theorem dX7_digit_26 : decode cX7_digit 26 = .ok (.bipush (-9), 2) := by decide +kernel
theorem dX7_digit_28 : decode cX7_digit 28 = .ok (.istore_n 2, 1) := by decide +kernel
theorem dX7_digit_29 : decode cX7_digit 29 = .ok (.iload_n 2, 1) := by decide +kernel
theorem dX7_digit_30 : decode cX7_digit 30 = .ok (.i2l, 1) := by decide +kernel
theorem dX7_digit_31 : decode cX7_digit 31 = .ok (.lconst 0, 1) := by decide +kernel
theorem dX7_digit_32 : decode cX7_digit 32 = .ok (.iload_n 1, 1) := by decide +kernel
theorem dX7_digit_33 : decode cX7_digit 33 = .ok (.i2l, 1) := by decide +kernel
theorem dX7_digit_34 : decode cX7_digit 34 = .ok (.invokestatic 47, 3) := by decide +kernel
theorem dX7_digit_37 : decode cX7_digit 37 = .ok (.ifCond .ne 6, 3) := by decide +kernel
theorem dX7_digit_40 : decode cX7_digit 40 = .ok (.bipush (-9), 2) := by decide +kernel
theorem dX7_digit_42 : decode cX7_digit 42 = .ok (.ireturn, 1) := by decide +kernel
theorem dX7_digit_43 : decode cX7_digit 43 = .ok (.aload_n 0, 1) := by decide +kernel
theorem dX7_digit_44 : decode cX7_digit 44 = .ok (.dup, 1) := by decide +kernel
theorem dX7_digit_45 : decode cX7_digit 45 = .ok (.getfield 106, 3) := by decide +kernel
theorem dX7_digit_48 : decode cX7_digit 48 = .ok (.iconst 1, 1) := by decide +kernel
theorem dX7_digit_49 : decode cX7_digit 49 = .ok (.iadd, 1) := by decide +kernel
theorem dX7_digit_50 : decode cX7_digit 50 = .ok (.putfield 106, 3) := by decide +kernel
theorem dX7_digit_53 : decode cX7_digit 53 = .ok (.iload_n 2, 1) := by decide +kernel
theorem dX7_digit_54 : decode cX7_digit 54 = .ok (.ireturn, 1) := by decide +kernel
set_option maxRecDepth 20000 in
theorem ggX7_two_X7_digit : GoodIn wsX7_two wsX7_digit := goodIn_r _ [5, 6, 7, 8, 9, 10, 4, 11, 12, 13, 14, 15, 16, 17, 18, 19, 20, 21, 22, 23, 24, 25, 26, 27, 28] (by decide +kernel) (by decide +kernel)
set_option maxRecDepth 20000 in
theorem gX7_two_X7_digit : GoodIn wsX7_two (wsV RX7 109 RX7 yX7_digit wsX7_digit) := goodIn_app (goodIn_of _ (by decide +kernel)) ggX7_two_X7_digit
theorem dX7_two_0 : decode cX7_two 0 = .ok (.aload_n 0, 1) := by decide +kernel
theorem dX7_two_1 : decode cX7_two 1 = .ok (.iload_n 1, 1) := by decide +kernel
theorem dX7_two_2 : decode cX7_two 2 = .ok (.bipush 10, 2) := by decide +kernel
theorem dX7_two_4 : decode cX7_two 4 = .ok (.idiv, 1) := by decide +kernel
theorem dX7_two_5 : decode cX7_two 5 = .ok (.invokevirtual 109, 3) := by decide +kernel
theorem dX7_two_8 : decode cX7_two 8 = .ok (.istore_n 2, 1) := by decide +kernel
theorem dX7_two_9 : decode cX7_two 9 = .ok (.iload_n 2, 1) := by decide +kernel
theorem dX7_two_10 : decode cX7_two 10 = .ok (.bipush (-9), 2) := by decide +kernel
theorem dX7_two_12 : decode cX7_two 12 = .ok (.if_icmp .ne 8, 3) := by decide +kernel
theorem dX7_two_15 : decode cX7_two 15 = .ok (.bipush (-9), 2) := by decide +kernel
theorem dX7_two_17 : decode cX7_two 17 = .ok (.goto 24, 3) := by decide +kernel
theorem dX7_two_20 : decode cX7_two 20 = .ok (.aload_n 0, 1) := by decide +kernel
theorem dX7_two_21 : decode cX7_two 21 = .ok (.iload_n 2, 1) := by decide +kernel
theorem dX7_two_22 : decode cX7_two 22 = .ok (.iload_n 1, 1) := by decide +kernel
theorem dX7_two_23 : decode cX7_two 23 = .ok (.bipush 10, 2) := by decide +kernel
theorem dX7_two_25 : decode cX7_two 25 = .ok (.idiv, 1) := by decide +kernel
theorem dX7_two_26 : decode cX7_two 26 = .ok (.if_icmp .ne 10, 3) := by decide +kernel
theorem dX7_two_29 : decode cX7_two 29 = .ok (.iload_n 1, 1) := by decide +kernel
theorem dX7_two_30 : decode cX7_two 30 = .ok (.bipush 10, 2) := by decide +kernel
theorem dX7_two_32 : decode cX7_two 32 = .ok (.irem, 1) := by decide +kernel
theorem dX7_two_33 : decode cX7_two 33 = .ok (.goto 5, 3) := by decide +kernel
theorem dX7_two_36 : decode cX7_two 36 = .ok (.bipush 9, 2) := by decide +kernel
theorem dX7_two_38 : decode cX7_two 38 = .ok (.invokevirtual 109, 3) := by decide +kernel
theorem dX7_two_41 : decode cX7_two 41 = .ok (.istore_n 3, 1) := by decide +kernel
theorem dX7_two_42 : decode cX7_two 42 = .ok (.iload_n 3, 1) := by decide +kernel
theorem dX7_two_43 : decode cX7_two 43 = .ok (.bipush (-9), 2) := by decide +kernel
theorem dX7_two_45 : decode cX7_two 45 = .ok (.if_icmp .ne 8, 3) := by decide +kernel
theorem dX7_two_48 : decode cX7_two 48 = .ok (.bipush (-9), 2) := by decide +kernel
theorem dX7_two_50 : decode cX7_two 50 = .ok (.goto 9, 3) := by decide +kernel
theorem dX7_two_53 : decode cX7_two 53 = .ok (.bipush 10, 2) := by decide +kernel
theorem dX7_two_55 : decode cX7_two 55 = .ok (.iload_n 2, 1) := by decide +kernel
theorem dX7_two_56 : decode cX7_two 56 = .ok (.imul, 1) := by decide +kernel
theorem dX7_two_57 : decode cX7_two 57 = .ok (.iload_n 3, 1) := by decide +kernel
theorem dX7_two_58 : decode cX7_two 58 = .ok (.iadd, 1) := by decide +kernel
theorem dX7_two_59 : decode cX7_two 59 = .ok (.ireturn, 1) := by decide +kernel
set_option maxRecDepth 20000 in
theorem ggX7_readPart_X7_in : GoodIn wsX7_readPart wsX7_in := goodIn_r _ [11] (by decide +kernel) (by decide +kernel)
set_option maxRecDepth 20000 in
theorem gX7_readPart_X7_in : GoodIn wsX7_readPart (va_wsS RX7 47 yX7_in wsX7_in) := goodIn_app (goodIn_of _ (by decide +kernel)) ggX7_readPart_X7_in
set_option maxRecDepth 20000 in
theorem ggX7_readPart_X7_two : GoodIn wsX7_readPart wsX7_two := goodIn_r _ [15, 16, 17, 18, 10, 19, 2, 20, 1, 8, 9, 11, 27, 28, 29, 30, 31, 32, 33, 34, 35, 36, 37, 38, 39, 40, 41, 42, 43] (by decide +kernel) (by decide +kernel)
set_option maxRecDepth 20000 in
theorem gX7_readPart_X7_two : GoodIn wsX7_readPart (wsV RX7 119 RX7 yX7_two wsX7_two) := goodIn_app (goodIn_of _ (by decide +kernel)) ggX7_readPart_X7_two
set_option maxRecDepth 20000 in
theorem ggX7_readPart_X7_digit : GoodIn wsX7_readPart wsX7_digit := goodIn_r _ [19, 2, 20, 1, 8, 9, 10, 11, 27, 28, 29, 30, 31, 32, 33, 34, 35, 36, 37, 38, 39, 40, 41, 42, 43] (by decide +kernel) (by decide +kernel)
set_option maxRecDepth 20000 in
theorem gX7_readPart_X7_digit : GoodIn wsX7_readPart (wsV RX7 109 RX7 yX7_digit wsX7_digit) := goodIn_app (goodIn_of _ (by decide +kernel)) ggX7_readPart_X7_digit
set_option maxRecDepth 20000 in
theorem ggX7_readPart_X7_at : GoodIn wsX7_readPart wsX7_at := goodIn_r _ [23] (by decide +kernel) (by decide +kernel)
set_option maxRecDepth 20000 in
theorem gX7_readPart_X7_at : GoodIn wsX7_readPart (va_wsS RX7 59 yX7_at wsX7_at) := goodIn_app (goodIn_of _ (by decide +kernel)) ggX7_readPart_X7_at
set_option maxRecDepth 20000 in
theorem ggX7_readPart_X7_begin : GoodIn wsX7_readPart wsX7_begin := goodIn_r _ [26, 21, 22, 10, 23] (by decide +kernel) (by decide +kernel)
set_option maxRecDepth 20000 in
theorem gX7_readPart_X7_begin : GoodIn wsX7_readPart (va_wsS RX7 125 yX7_begin wsX7_begin) := goodIn_app (goodIn_of _ (by decide +kernel)) ggX7_readPart_X7_begin
theorem dX7_readPart_0 : decode cX7_readPart 0 = .ok (.aload_n 0, 1) := by decide +kernel
theorem dX7_readPart_1 : decode cX7_readPart 1 = .ok (.getfield 7, 3) := by decide +kernel
theorem dX7_readPart_4 : decode cX7_readPart 4 = .ok (.aload_n 0, 1) := by decide +kernel
theorem dX7_readPart_5 : decode cX7_readPart 5 = .ok (.getfield 106, 3) := by decide +kernel
theorem dX7_readPart_8 : decode cX7_readPart 8 = .ok (.iaload, 1) := by decide +kernel
theorem dX7_readPart_9 : decode cX7_readPart 9 = .ok (.istore_n 1, 1) := by decide +kernel
theorem dX7_readPart_10 : decode cX7_readPart 10 = .ok (.iload_n 1, 1) := by decide +kernel
theorem dX7_readPart_11 : decode cX7_readPart 11 = .ok (.i2l, 1) := by decide +kernel
theorem dX7_readPart_12 : decode cX7_readPart 12 = .ok (.ldc2_w 112, 3) := by decide +kernel
theorem dX7_readPart_15 : decode cX7_readPart 15 = .ok (.ldc2_w 114, 3) := by decide +kernel
theorem dX7_readPart_18 : decode cX7_readPart 18 = .ok (.invokestatic 47, 3) := by decide +kernel
theorem dX7_readPart_21 : decode cX7_readPart 21 = .ok (.ifCond .eq 78, 3) := by decide +kernel
theorem dX7_readPart_24 : decode cX7_readPart 24 = .ok (.aload_n 0, 1) := by decide +kernel
theorem dX7_readPart_25 : decode cX7_readPart 25 = .ok (.getfield 116, 3) := by decide +kernel
theorem dX7_readPart_28 : decode cX7_readPart 28 = .ok (.bipush 96, 2) := by decide +kernel
theorem dX7_readPart_30 : decode cX7_readPart 30 = .ok (.if_icmp .ge 12, 3) := by decide +kernel
theorem dX7_readPart_33 : decode cX7_readPart 33 = .ok (.aload_n 0, 1) := by decide +kernel
theorem dX7_readPart_34 : decode cX7_readPart 34 = .ok (.bipush 99, 2) := by decide +kernel
theorem dX7_readPart_36 : decode cX7_readPart 36 = .ok (.invokevirtual 119, 3) := by decide +kernel
theorem dX7_readPart_39 : decode cX7_readPart 39 = .ok (.goto 5, 3) := by decide +kernel
theorem dX7_readPart_42 : decode cX7_readPart 42 = .ok (.bipush (-9), 2) := by decide +kernel
theorem dX7_readPart_44 : decode cX7_readPart 44 = .ok (.istore_n 2, 1) := by decide +kernel
theorem dX7_readPart_45 : decode cX7_readPart 45 = .ok (.iload_n 2, 1) := by decide +kernel
theorem dX7_readPart_46 : decode cX7_readPart 46 = .ok (.bipush (-9), 2) := by decide +kernel
theorem dX7_readPart_48 : decode cX7_readPart 48 = .ok (.if_icmp .eq 39, 3) := by decide +kernel
theorem dX7_readPart_51 : decode cX7_readPart 51 = .ok (.aload_n 0, 1) := by decide +kernel
theorem dX7_readPart_52 : decode cX7_readPart 52 = .ok (.getfield 13, 3) := by decide +kernel
theorem dX7_readPart_55 : decode cX7_readPart 55 = .ok (.aload_n 0, 1) := by decide +kernel
theorem dX7_readPart_56 : decode cX7_readPart 56 = .ok (.getfield 116, 3) := by decide +kernel
theorem dX7_readPart_59 : decode cX7_readPart 59 = .ok (.iload_n 2, 1) := by decide +kernel
theorem dX7_readPart_60 : decode cX7_readPart 60 = .ok (.iastore, 1) := by decide +kernel
theorem dX7_readPart_61 : decode cX7_readPart 61 = .ok (.aload_n 0, 1) := by decide +kernel
theorem dX7_readPart_62 : decode cX7_readPart 62 = .ok (.getfield 13, 3) := by decide +kernel
theorem dX7_readPart_65 : decode cX7_readPart 65 = .ok (.bipush 96, 2) := by decide +kernel
theorem dX7_readPart_67 : decode cX7_readPart 67 = .ok (.aload_n 0, 1) := by decide +kernel
theorem dX7_readPart_68 : decode cX7_readPart 68 = .ok (.getfield 116, 3) := by decide +kernel
theorem dX7_readPart_71 : decode cX7_readPart 71 = .ok (.iadd, 1) := by decide +kernel
theorem dX7_readPart_72 : decode cX7_readPart 72 = .ok (.aload_n 0, 1) := by decide +kernel
theorem dX7_readPart_73 : decode cX7_readPart 73 = .ok (.getfield 122, 3) := by decide +kernel
theorem dX7_readPart_76 : decode cX7_readPart 76 = .ok (.iastore, 1) := by decide +kernel
theorem dX7_readPart_77 : decode cX7_readPart 77 = .ok (.aload_n 0, 1) := by decide +kernel
theorem dX7_readPart_78 : decode cX7_readPart 78 = .ok (.dup, 1) := by decide +kernel
theorem dX7_readPart_79 : decode cX7_readPart 79 = .ok (.getfield 116, 3) := by decide +kernel
theorem dX7_readPart_82 : decode cX7_readPart 82 = .ok (.iconst 1, 1) := by decide +kernel
theorem dX7_readPart_83 : decode cX7_readPart 83 = .ok (.iadd, 1) := by decide +kernel
theorem dX7_readPart_84 : decode cX7_readPart 84 = .ok (.putfield 116, 3) := by decide +kernel
theorem dX7_readPart_87 : decode cX7_readPart 87 = .ok (.iload_n 2, 1) := by decide +kernel
theorem dX7_readPart_88 : decode cX7_readPart 88 = .ok (.bipush (-9), 2) := by decide +kernel
theorem dX7_readPart_90 : decode cX7_readPart 90 = .ok (.if_icmp .eq 7, 3) := by decide +kernel
theorem dX7_readPart_93 : decode cX7_readPart 93 = .ok (.iconst 1, 1) := by decide +kernel
theorem dX7_readPart_94 : decode cX7_readPart 94 = .ok (.goto 4, 3) := by decide +kernel
theorem dX7_readPart_97 : decode cX7_readPart 97 = .ok (.iconst 0, 1) := by decide +kernel
theorem dX7_readPart_98 : decode cX7_readPart 98 = .ok (.ireturn, 1) := by decide +kernel
theorem dX7_readPart_99 : decode cX7_readPart 99 = .ok (.iload_n 1, 1) := by decide +kernel
theorem dX7_readPart_100 : decode cX7_readPart 100 = .ok (.bipush 64, 2) := by decide +kernel
theorem dX7_readPart_102 : decode cX7_readPart 102 = .ok (.if_icmp .eq 17, 3) := by decide +kernel
theorem dX7_readPart_105 : decode cX7_readPart 105 = .ok (.iload_n 1, 1) := by decide +kernel
theorem dX7_readPart_106 : decode cX7_readPart 106 = .ok (.bipush 111, 2) := by decide +kernel
theorem dX7_readPart_108 : decode cX7_readPart 108 = .ok (.if_icmp .eq 11, 3) := by decide +kernel
theorem dX7_readPart_111 : decode cX7_readPart 111 = .ok (.iload_n 1, 1) := by decide +kernel
theorem dX7_readPart_112 : decode cX7_readPart 112 = .ok (.bipush 115, 2) := by decide +kernel
theorem dX7_readPart_114 : decode cX7_readPart 114 = .ok (.if_icmp .eq 5, 3) := by decide +kernel
theorem dX7_readPart_117 : decode cX7_readPart 117 = .ok (.iconst 0, 1) := by decide +kernel
theorem dX7_readPart_118 : decode cX7_readPart 118 = .ok (.ireturn, 1) := by decide +kernel
theorem dX7_readPart_119 : decode cX7_readPart 119 = .ok (.aload_n 0, 1) := by decide +kernel
theorem dX7_readPart_120 : decode cX7_readPart 120 = .ok (.dup, 1) := by decide +kernel
theorem dX7_readPart_121 : decode cX7_readPart 121 = .ok (.getfield 106, 3) := by decide +kernel
theorem dX7_readPart_124 : decode cX7_readPart 124 = .ok (.iconst 1, 1) := by decide +kernel
theorem dX7_readPart_125 : decode cX7_readPart 125 = .ok (.iadd, 1) := by decide +kernel
theorem dX7_readPart_126 : decode cX7_readPart 126 = .ok (.putfield 106, 3) := by decide +kernel
theorem dX7_readPart_129 : decode cX7_readPart 129 = .ok (.iload_n 1, 1) := by decide +kernel
theorem dX7_readPart_130 : decode cX7_readPart 130 = .ok (.bipush 64, 2) := by decide +kernel
theorem dX7_readPart_132 : decode cX7_readPart 132 = .ok (.if_icmp .ne 40, 3) := by decide +kernel
theorem dX7_readPart_135 : decode cX7_readPart 135 = .ok (.aload_n 0, 1) := by decide +kernel
theorem dX7_readPart_136 : decode cX7_readPart 136 = .ok (.bipush 95, 2) := by decide +kernel
theorem dX7_readPart_138 : decode cX7_readPart 138 = .ok (.invokevirtual 119, 3) := by decide +kernel
theorem dX7_readPart_141 : decode cX7_readPart 141 = .ok (.istore_n 2, 1) := by decide +kernel
theorem dX7_readPart_142 : decode cX7_readPart 142 = .ok (.aload_n 0, 1) := by decide +kernel
theorem dX7_readPart_143 : decode cX7_readPart 143 = .ok (.iload_n 2, 1) := by decide +kernel
theorem dX7_readPart_144 : decode cX7_readPart 144 = .ok (.bipush (-9), 2) := by decide +kernel
theorem dX7_readPart_146 : decode cX7_readPart 146 = .ok (.if_icmp .ne 10, 3) := by decide +kernel
theorem dX7_readPart_149 : decode cX7_readPart 149 = .ok (.aload_n 0, 1) := by decide +kernel
theorem dX7_readPart_150 : decode cX7_readPart 150 = .ok (.getfield 116, 3) := by decide +kernel
theorem dX7_readPart_153 : decode cX7_readPart 153 = .ok (.goto 4, 3) := by decide +kernel
theorem dX7_readPart_156 : decode cX7_readPart 156 = .ok (.iload_n 2, 1) := by decide +kernel
theorem dX7_readPart_157 : decode cX7_readPart 157 = .ok (.putfield 116, 3) := by decide +kernel
theorem dX7_readPart_160 : decode cX7_readPart 160 = .ok (.iload_n 2, 1) := by decide +kernel
theorem dX7_readPart_161 : decode cX7_readPart 161 = .ok (.bipush (-9), 2) := by decide +kernel
theorem dX7_readPart_163 : decode cX7_readPart 163 = .ok (.if_icmp .eq 7, 3) := by decide +kernel
theorem dX7_readPart_166 : decode cX7_readPart 166 = .ok (.iconst 1, 1) := by decide +kernel
theorem dX7_readPart_167 : decode cX7_readPart 167 = .ok (.goto 4, 3) := by decide +kernel
theorem dX7_readPart_170 : decode cX7_readPart 170 = .ok (.iconst 0, 1) := by decide +kernel
theorem dX7_readPart_171 : decode cX7_readPart 171 = .ok (.ireturn, 1) := by decide +kernel
theorem dX7_readPart_172 : decode cX7_readPart 172 = .ok (.iload_n 1, 1) := by decide +kernel
theorem dX7_readPart_173 : decode cX7_readPart 173 = .ok (.bipush 111, 2) := by decide +kernel
theorem dX7_readPart_175 : decode cX7_readPart 175 = .ok (.if_icmp .ne 39, 3) := by decide +kernel
theorem dX7_readPart_178 : decode cX7_readPart 178 = .ok (.aload_n 0, 1) := by decide +kernel
theorem dX7_readPart_179 : decode cX7_readPart 179 = .ok (.iconst 3, 1) := by decide +kernel
theorem dX7_readPart_180 : decode cX7_readPart 180 = .ok (.invokevirtual 109, 3) := by decide +kernel
theorem dX7_readPart_183 : decode cX7_readPart 183 = .ok (.istore_n 2, 1) := by decide +kernel
theorem dX7_readPart_184 : decode cX7_readPart 184 = .ok (.aload_n 0, 1) := by decide +kernel
theorem dX7_readPart_185 : decode cX7_readPart 185 = .ok (.iload_n 2, 1) := by decide +kernel
theorem dX7_readPart_186 : decode cX7_readPart 186 = .ok (.bipush (-9), 2) := by decide +kernel
theorem dX7_readPart_188 : decode cX7_readPart 188 = .ok (.if_icmp .ne 10, 3) := by decide +kernel
theorem dX7_readPart_191 : decode cX7_readPart 191 = .ok (.aload_n 0, 1) := by decide +kernel
theorem dX7_readPart_192 : decode cX7_readPart 192 = .ok (.getfield 122, 3) := by decide +kernel
theorem dX7_readPart_195 : decode cX7_readPart 195 = .ok (.goto 4, 3) := by decide +kernel
theorem dX7_readPart_198 : decode cX7_readPart 198 = .ok (.iload_n 2, 1) := by decide +kernel
theorem dX7_readPart_199 : decode cX7_readPart 199 = .ok (.putfield 122, 3) := by decide +kernel
theorem dX7_readPart_202 : decode cX7_readPart 202 = .ok (.iload_n 2, 1) := by decide +kernel
theorem dX7_readPart_203 : decode cX7_readPart 203 = .ok (.bipush (-9), 2) := by decide +kernel
theorem dX7_readPart_205 : decode cX7_readPart 205 = .ok (.if_icmp .eq 7, 3) := by decide +kernel
theorem dX7_readPart_208 : decode cX7_readPart 208 = .ok (.iconst 1, 1) := by decide +kernel
theorem dX7_readPart_209 : decode cX7_readPart 209 = .ok (.goto 4, 3) := by decide +kernel
theorem dX7_readPart_212 : decode cX7_readPart 212 = .ok (.iconst 0, 1) := by decide +kernel
theorem dX7_readPart_213 : decode cX7_readPart 213 = .ok (.ireturn, 1) := by decide +kernel
theorem dX7_readPart_214 : decode cX7_readPart 214 = .ok (.aload_n 0, 1) := by decide +kernel
theorem dX7_readPart_215 : decode cX7_readPart 215 = .ok (.iconst 2, 1) := by decide +kernel
theorem dX7_readPart_216 : decode cX7_readPart 216 = .ok (.invokevirtual 109, 3) := by decide +kernel
theorem dX7_readPart_219 : decode cX7_readPart 219 = .ok (.istore_n 2, 1) := by decide +kernel
theorem dX7_readPart_220 : decode cX7_readPart 220 = .ok (.iload_n 2, 1) := by decide +kernel
theorem dX7_readPart_221 : decode cX7_readPart 221 = .ok (.bipush (-9), 2) := by decide +kernel
theorem dX7_readPart_223 : decode cX7_readPart 223 = .ok (.if_icmp .eq 28, 3) := by decide +kernel
theorem dX7_readPart_226 : decode cX7_readPart 226 = .ok (.aload_n 0, 1) := by decide +kernel
theorem dX7_readPart_227 : decode cX7_readPart 227 = .ok (.getfield 13, 3) := by decide +kernel
theorem dX7_readPart_230 : decode cX7_readPart 230 = .ok (.iload_n 2, 1) := by decide +kernel
theorem dX7_readPart_231 : decode cX7_readPart 231 = .ok (.invokestatic 59, 3) := by decide +kernel
theorem dX7_readPart_234 : decode cX7_readPart 234 = .ok (.iaload, 1) := by decide +kernel
theorem dX7_readPart_235 : decode cX7_readPart 235 = .ok (.iconst 1, 1) := by decide +kernel
theorem dX7_readPart_236 : decode cX7_readPart 236 = .ok (.if_icmp .ne 15, 3) := by decide +kernel
theorem dX7_readPart_239 : decode cX7_readPart 239 = .ok (.aload_n 0, 1) := by decide +kernel
theorem dX7_readPart_240 : decode cX7_readPart 240 = .ok (.dup, 1) := by decide +kernel
theorem dX7_readPart_241 : decode cX7_readPart 241 = .ok (.getfield 106, 3) := by decide +kernel
theorem dX7_readPart_244 : decode cX7_readPart 244 = .ok (.iconst 1, 1) := by decide +kernel
theorem dX7_readPart_245 : decode cX7_readPart 245 = .ok (.isub, 1) := by decide +kernel
theorem dX7_readPart_246 : decode cX7_readPart 246 = .ok (.putfield 106, 3) := by decide +kernel
theorem dX7_readPart_249 : decode cX7_readPart 249 = .ok (.iconst 0, 1) := by decide +kernel
theorem dX7_readPart_250 : decode cX7_readPart 250 = .ok (.ireturn, 1) := by decide +kernel
theorem dX7_readPart_251 : decode cX7_readPart 251 = .ok (.iload_n 2, 1) := by decide +kernel
theorem dX7_readPart_252 : decode cX7_readPart 252 = .ok (.bipush (-9), 2) := by decide +kernel
theorem dX7_readPart_254 : decode cX7_readPart 254 = .ok (.if_icmp .ne 8, 3) := by decide +kernel
theorem dX7_readPart_257 : decode cX7_readPart 257 = .ok (.bipush (-9), 2) := by decide +kernel
theorem dX7_readPart_259 : decode cX7_readPart 259 = .ok (.goto 9, 3) := by decide +kernel
theorem dX7_readPart_262 : decode cX7_readPart 262 = .ok (.aload_n 0, 1) := by decide +kernel
theorem dX7_readPart_263 : decode cX7_readPart 263 = .ok (.bipush 95, 2) := by decide +kernel
theorem dX7_readPart_265 : decode cX7_readPart 265 = .ok (.invokevirtual 119, 3) := by decide +kernel
theorem dX7_readPart_268 : decode cX7_readPart 268 = .ok (.istore_n 3, 1) := by decide +kernel
theorem dX7_readPart_269 : decode cX7_readPart 269 = .ok (.iload_n 3, 1) := by decide +kernel
theorem dX7_readPart_270 : decode cX7_readPart 270 = .ok (.bipush (-9), 2) := by decide +kernel
theorem dX7_readPart_272 : decode cX7_readPart 272 = .ok (.if_icmp .eq 13, 3) := by decide +kernel
theorem dX7_readPart_275 : decode cX7_readPart 275 = .ok (.aload_n 0, 1) := by decide +kernel
theorem dX7_readPart_276 : decode cX7_readPart 276 = .ok (.getfield 13, 3) := by decide +kernel
theorem dX7_readPart_279 : decode cX7_readPart 279 = .ok (.iload_n 2, 1) := by decide +kernel
theorem dX7_readPart_280 : decode cX7_readPart 280 = .ok (.iload_n 3, 1) := by decide +kernel
theorem dX7_readPart_281 : decode cX7_readPart 281 = .ok (.iconst 1, 1) := by decide +kernel
theorem dX7_readPart_282 : decode cX7_readPart 282 = .ok (.invokestatic 125, 3) := by decide +kernel
theorem dX7_readPart_285 : decode cX7_readPart 285 = .ok (.iload_n 3, 1) := by decide +kernel
theorem dX7_readPart_286 : decode cX7_readPart 286 = .ok (.bipush (-9), 2) := by decide +kernel
theorem dX7_readPart_288 : decode cX7_readPart 288 = .ok (.if_icmp .eq 7, 3) := by decide +kernel
theorem dX7_readPart_291 : decode cX7_readPart 291 = .ok (.iconst 1, 1) := by decide +kernel
theorem dX7_readPart_292 : decode cX7_readPart 292 = .ok (.goto 4, 3) := by decide +kernel
theorem dX7_readPart_295 : decode cX7_readPart 295 = .ok (.iconst 0, 1) := by decide +kernel
theorem dX7_readPart_296 : decode cX7_readPart 296 = .ok (.ireturn, 1) := by decide +kernel
set_option maxRecDepth 20000 in
theorem ggX7_readEngine_X7_readPart : GoodIn wsX7_readEngine wsX7_readPart := goodIn_r _ [11, 6, 1, 12, 13, 3, 2, 4, 14, 15, 10, 16, 17, 18, 19, 20, 21, 22, 23, 24, 5, 25, 26, 27, 28, 29, 30, 31, 32, 33, 34, 35, 36, 37, 38, 39, 40, 41, 42, 43, 44, 45, 46, 47] (by decide +kernel) (by decide +kernel)
set_option maxRecDepth 20000 in
theorem gX7_readEngine_X7_readPart : GoodIn wsX7_readEngine (wsV RX7 128 RX7 yX7_readPart wsX7_readPart) := goodIn_app (goodIn_of _ (by decide +kernel)) ggX7_readEngine_X7_readPart
theorem dX7_readEngine_0 : decode cX7_readEngine 0 = .ok (.aload_n 0, 1) := by decide +kernel
theorem dX7_readEngine_1 : decode cX7_readEngine 1 = .ok (.iconst 0, 1) := by decide +kernel
theorem dX7_readEngine_2 : decode cX7_readEngine 2 = .ok (.putfield 106, 3) := by decide +kernel
theorem dX7_readEngine_5 : decode cX7_readEngine 5 = .ok (.iconst 0, 1) := by decide +kernel
theorem dX7_readEngine_6 : decode cX7_readEngine 6 = .ok (.istore_n 1, 1) := by decide +kernel
theorem dX7_readEngine_7 : decode cX7_readEngine 7 = .ok (.iload_n 1, 1) := by decide +kernel
theorem dX7_readEngine_8 : decode cX7_readEngine 8 = .ok (.sipush 427, 3) := by decide +kernel
theorem dX7_readEngine_11 : decode cX7_readEngine 11 = .ok (.if_icmp .ge 16, 3) := by decide +kernel
theorem dX7_readEngine_14 : decode cX7_readEngine 14 = .ok (.aload_n 0, 1) := by decide +kernel
theorem dX7_readEngine_15 : decode cX7_readEngine 15 = .ok (.getfield 13, 3) := by decide +kernel
theorem dX7_readEngine_18 : decode cX7_readEngine 18 = .ok (.iload_n 1, 1) := by decide +kernel
theorem dX7_readEngine_19 : decode cX7_readEngine 19 = .ok (.iconst 0, 1) := by decide +kernel
theorem dX7_readEngine_20 : decode cX7_readEngine 20 = .ok (.iastore, 1) := by decide +kernel
theorem dX7_readEngine_21 : decode cX7_readEngine 21 = .ok (.iinc 1 1, 3) := by decide +kernel
theorem dX7_readEngine_24 : decode cX7_readEngine 24 = .ok (.goto (-17), 3) := by decide +kernel
theorem dX7_readEngine_27 : decode cX7_readEngine 27 = .ok (.aload_n 0, 1) := by decide +kernel
theorem dX7_readEngine_28 : decode cX7_readEngine 28 = .ok (.iconst 0, 1) := by decide +kernel
theorem dX7_readEngine_29 : decode cX7_readEngine 29 = .ok (.putfield 116, 3) := by decide +kernel
theorem dX7_readEngine_32 : decode cX7_readEngine 32 = .ok (.aload_n 0, 1) := by decide +kernel
theorem dX7_readEngine_33 : decode cX7_readEngine 33 = .ok (.iconst 0, 1) := by decide +kernel
theorem dX7_readEngine_34 : decode cX7_readEngine 34 = .ok (.putfield 122, 3) := by decide +kernel
theorem dX7_readEngine_37 : decode cX7_readEngine 37 = .ok (.aload_n 0, 1) := by decide +kernel
theorem dX7_readEngine_38 : decode cX7_readEngine 38 = .ok (.getfield 99, 3) := by decide +kernel
theorem dX7_readEngine_41 : decode cX7_readEngine 41 = .ok (.ifCond .eq 14, 3) := by decide +kernel
theorem dX7_readEngine_44 : decode cX7_readEngine 44 = .ok (.aload_n 0, 1) := by decide +kernel
theorem dX7_readEngine_45 : decode cX7_readEngine 45 = .ok (.getfield 7, 3) := by decide +kernel
theorem dX7_readEngine_48 : decode cX7_readEngine 48 = .ok (.iconst 0, 1) := by decide +kernel
theorem dX7_readEngine_49 : decode cX7_readEngine 49 = .ok (.iaload, 1) := by decide +kernel
theorem dX7_readEngine_50 : decode cX7_readEngine 50 = .ok (.bipush 69, 2) := by decide +kernel
theorem dX7_readEngine_52 : decode cX7_readEngine 52 = .ok (.if_icmp .eq 5, 3) := by decide +kernel
theorem dX7_readEngine_55 : decode cX7_readEngine 55 = .ok (.iconst 0, 1) := by decide +kernel
theorem dX7_readEngine_56 : decode cX7_readEngine 56 = .ok (.ireturn, 1) := by decide +kernel
theorem dX7_readEngine_57 : decode cX7_readEngine 57 = .ok (.aload_n 0, 1) := by decide +kernel
theorem dX7_readEngine_58 : decode cX7_readEngine 58 = .ok (.iconst 1, 1) := by decide +kernel
theorem dX7_readEngine_59 : decode cX7_readEngine 59 = .ok (.putfield 106, 3) := by decide +kernel
theorem dX7_readEngine_62 : decode cX7_readEngine 62 = .ok (.iconst 1, 1) := by decide +kernel
theorem dX7_readEngine_63 : decode cX7_readEngine 63 = .ok (.istore_n 1, 1) := by decide +kernel
theorem dX7_readEngine_64 : decode cX7_readEngine 64 = .ok (.iload_n 1, 1) := by decide +kernel
theorem dX7_readEngine_65 : decode cX7_readEngine 65 = .ok (.ifCond .eq 22, 3) := by decide +kernel
theorem dX7_readEngine_68 : decode cX7_readEngine 68 = .ok (.aload_n 0, 1) := by decide +kernel
theorem dX7_readEngine_69 : decode cX7_readEngine 69 = .ok (.getfield 106, 3) := by decide +kernel
theorem dX7_readEngine_72 : decode cX7_readEngine 72 = .ok (.aload_n 0, 1) := by decide +kernel
theorem dX7_readEngine_73 : decode cX7_readEngine 73 = .ok (.getfield 99, 3) := by decide +kernel
theorem dX7_readEngine_76 : decode cX7_readEngine 76 = .ok (.if_icmp .ge 11, 3) := by decide +kernel
theorem dX7_readEngine_79 : decode cX7_readEngine 79 = .ok (.aload_n 0, 1) := by decide +kernel
theorem dX7_readEngine_80 : decode cX7_readEngine 80 = .ok (.invokevirtual 128, 3) := by decide +kernel
theorem dX7_readEngine_83 : decode cX7_readEngine 83 = .ok (.istore_n 1, 1) := by decide +kernel
theorem dX7_readEngine_84 : decode cX7_readEngine 84 = .ok (.goto (-20), 3) := by decide +kernel
theorem dX7_readEngine_87 : decode cX7_readEngine 87 = .ok (.iload_n 1, 1) := by decide +kernel
theorem dX7_readEngine_88 : decode cX7_readEngine 88 = .ok (.ireturn, 1) := by decide +kernel
set_option maxRecDepth 20000 in
theorem ggX7_errorPosition_X7_readEngine : GoodIn wsX7_errorPosition wsX7_readEngine := goodIn_r _ [6, 1, 7, 8, 9, 10, 11, 12, 13, 14, 5, 15, 16, 17, 18, 19, 20, 21, 22, 23, 24, 25, 26, 27, 28, 29, 30, 31, 32, 33, 34, 35, 36, 37, 38, 39, 40, 41, 42, 43, 44, 45, 46, 47, 48, 49, 50, 51] (by decide +kernel) (by decide +kernel)
set_option maxRecDepth 20000 in
theorem gX7_errorPosition_X7_readEngine : GoodIn wsX7_errorPosition (wsV RX7 132 RX7 yX7_readEngine wsX7_readEngine) := goodIn_app (goodIn_of _ (by decide +kernel)) ggX7_errorPosition_X7_readEngine
theorem dX7_errorPosition_0 : decode cX7_errorPosition 0 = .ok (.aload_n 0, 1) := by decide +kernel
theorem dX7_errorPosition_1 : decode cX7_errorPosition 1 = .ok (.invokevirtual 132, 3) := by decide +kernel
theorem dX7_errorPosition_4 : decode cX7_errorPosition 4 = .ok (.ifCond .eq 8, 3) := by decide +kernel
theorem dX7_errorPosition_7 : decode cX7_errorPosition 7 = .ok (.bipush (-9), 2) := by decide +kernel
theorem dX7_errorPosition_9 : decode cX7_errorPosition 9 = .ok (.goto 7, 3) := by decide +kernel
theorem dX7_errorPosition_12 : decode cX7_errorPosition 12 = .ok (.aload_n 0, 1) := by decide +kernel
theorem dX7_errorPosition_13 : decode cX7_errorPosition 13 = .ok (.getfield 106, 3) := by decide +kernel
theorem dX7_errorPosition_16 : decode cX7_errorPosition 16 = .ok (.ireturn, 1) := by decide +kernel
set_option maxRecDepth 20000 in
theorem ggX7_load_X7_readEngine : GoodIn wsX7_load wsX7_readEngine := goodIn_r _ [9, 10, 1, 11, 12, 13, 14, 15, 16, 17, 8, 18, 19, 20, 21, 22, 23, 24, 25, 26, 27, 28, 29, 30, 31, 32, 33, 34, 35, 36, 37, 49, 50, 51, 52, 53, 54, 55, 56, 57, 58, 59, 60, 61, 62, 63, 64, 65] (by decide +kernel) (by decide +kernel)
set_option maxRecDepth 20000 in
theorem gX7_load_X7_readEngine : GoodIn wsX7_load (wsV RX7 132 RX7 yX7_readEngine wsX7_readEngine) := goodIn_app (goodIn_of _ (by decide +kernel)) ggX7_load_X7_readEngine
set_option maxRecDepth 20000 in
theorem ggX7_load_X7_refused : GoodIn wsX7_load wsX7_refused := goodIn_r _ [41, 42, 49, 50, 51, 52, 53, 54, 55, 56, 57, 58, 59, 60, 61, 62, 63, 64, 65] (by decide +kernel) (by decide +kernel)
set_option maxRecDepth 20000 in
theorem gX7_load_X7_refused : GoodIn wsX7_load (wsV RX7 102 RX7 yX7_refused wsX7_refused) := goodIn_app (goodIn_of _ (by decide +kernel)) ggX7_load_X7_refused
set_option maxRecDepth 20000 in
theorem ggX7_load_X7_copyEngine : GoodIn wsX7_load wsX7_copyEngine := goodIn_r _ [45] (by decide +kernel) (by decide +kernel)
set_option maxRecDepth 20000 in
theorem gX7_load_X7_copyEngine : GoodIn wsX7_load (va_wsS RX7 135 yX7_copyEngine wsX7_copyEngine) := goodIn_app (goodIn_of _ (by decide +kernel)) ggX7_load_X7_copyEngine
set_option maxRecDepth 20000 in
theorem ggX7_load_X7_channels : GoodIn wsX7_load wsX7_channels := goodIn_r _ [48, 32, 33, 8, 34] (by decide +kernel) (by decide +kernel)
set_option maxRecDepth 20000 in
theorem gX7_load_X7_channels : GoodIn wsX7_load (va_wsS RX7 139 yX7_channels wsX7_channels) := goodIn_app (goodIn_of _ (by decide +kernel)) ggX7_load_X7_channels
theorem dX7_load_0 : decode cX7_load 0 = .ok (.aload_n 0, 1) := by decide +kernel
theorem dX7_load_1 : decode cX7_load 1 = .ok (.aload_n 0, 1) := by decide +kernel
theorem dX7_load_2 : decode cX7_load 2 = .ok (.invokevirtual 132, 3) := by decide +kernel
theorem dX7_load_5 : decode cX7_load 5 = .ok (.ifCond .eq 7, 3) := by decide +kernel
theorem dX7_load_8 : decode cX7_load 8 = .ok (.iconst 0, 1) := by decide +kernel
theorem dX7_load_9 : decode cX7_load 9 = .ok (.goto 4, 3) := by decide +kernel
theorem dX7_load_12 : decode cX7_load 12 = .ok (.iconst 1, 1) := by decide +kernel
theorem dX7_load_13 : decode cX7_load 13 = .ok (.invokevirtual 102, 3) := by decide +kernel
theorem dX7_load_16 : decode cX7_load 16 = .ok (.ifCond .eq 5, 3) := by decide +kernel
theorem dX7_load_19 : decode cX7_load 19 = .ok (.iconst 0, 1) := by decide +kernel
theorem dX7_load_20 : decode cX7_load 20 = .ok (.ireturn, 1) := by decide +kernel
theorem dX7_load_21 : decode cX7_load 21 = .ok (.aload_n 0, 1) := by decide +kernel
theorem dX7_load_22 : decode cX7_load 22 = .ok (.getfield 13, 3) := by decide +kernel
theorem dX7_load_25 : decode cX7_load 25 = .ok (.iconst 0, 1) := by decide +kernel
theorem dX7_load_26 : decode cX7_load 26 = .ok (.aload_n 0, 1) := by decide +kernel
theorem dX7_load_27 : decode cX7_load 27 = .ok (.getfield 16, 3) := by decide +kernel
theorem dX7_load_30 : decode cX7_load 30 = .ok (.iconst 0, 1) := by decide +kernel
theorem dX7_load_31 : decode cX7_load 31 = .ok (.invokestatic 135, 3) := by decide +kernel
theorem dX7_load_34 : decode cX7_load 34 = .ok (.aload_n 0, 1) := by decide +kernel
theorem dX7_load_35 : decode cX7_load 35 = .ok (.iconst 0, 1) := by decide +kernel
theorem dX7_load_36 : decode cX7_load 36 = .ok (.putfield 38, 3) := by decide +kernel
theorem dX7_load_39 : decode cX7_load 39 = .ok (.aload_n 0, 1) := by decide +kernel
theorem dX7_load_40 : decode cX7_load 40 = .ok (.getfield 28, 3) := by decide +kernel
theorem dX7_load_43 : decode cX7_load 43 = .ok (.iconst 0, 1) := by decide +kernel
theorem dX7_load_44 : decode cX7_load 44 = .ok (.iconst 0, 1) := by decide +kernel
theorem dX7_load_45 : decode cX7_load 45 = .ok (.bastore, 1) := by decide +kernel
theorem dX7_load_46 : decode cX7_load 46 = .ok (.aload_n 0, 1) := by decide +kernel
theorem dX7_load_47 : decode cX7_load 47 = .ok (.getfield 28, 3) := by decide +kernel
theorem dX7_load_50 : decode cX7_load 50 = .ok (.iconst 1, 1) := by decide +kernel
theorem dX7_load_51 : decode cX7_load 51 = .ok (.iconst 0, 1) := by decide +kernel
theorem dX7_load_52 : decode cX7_load 52 = .ok (.bastore, 1) := by decide +kernel
theorem dX7_load_53 : decode cX7_load 53 = .ok (.aload_n 0, 1) := by decide +kernel
theorem dX7_load_54 : decode cX7_load 54 = .ok (.getfield 16, 3) := by decide +kernel
theorem dX7_load_57 : decode cX7_load 57 = .ok (.iconst 1, 1) := by decide +kernel
theorem dX7_load_58 : decode cX7_load 58 = .ok (.invokestatic 139, 3) := by decide +kernel
theorem dX7_load_61 : decode cX7_load 61 = .ok (.ireturn, 1) := by decide +kernel
set_option maxRecDepth 20000 in
theorem ggX7_channels_X7_at : GoodIn wsX7_channels wsX7_at := goodIn_r _ [4] (by decide +kernel) (by decide +kernel)
set_option maxRecDepth 20000 in
theorem gX7_channels_X7_at : GoodIn wsX7_channels (va_wsS RX7 59 yX7_at wsX7_at) := goodIn_app (goodIn_of _ (by decide +kernel)) ggX7_channels_X7_at
theorem dX7_channels_0 : decode cX7_channels 0 = .ok (.iconst 0, 1) := by decide +kernel
theorem dX7_channels_1 : decode cX7_channels 1 = .ok (.istore_n 2, 1) := by decide +kernel
theorem dX7_channels_2 : decode cX7_channels 2 = .ok (.iconst 0, 1) := by decide +kernel
theorem dX7_channels_3 : decode cX7_channels 3 = .ok (.istore_n 3, 1) := by decide +kernel
theorem dX7_channels_4 : decode cX7_channels 4 = .ok (.iload_n 3, 1) := by decide +kernel
theorem dX7_channels_5 : decode cX7_channels 5 = .ok (.iconst 3, 1) := by decide +kernel
theorem dX7_channels_6 : decode cX7_channels 6 = .ok (.if_icmp .ge 27, 3) := by decide +kernel
theorem dX7_channels_9 : decode cX7_channels 9 = .ok (.iload_n 2, 1) := by decide +kernel
theorem dX7_channels_10 : decode cX7_channels 10 = .ok (.aload_n 0, 1) := by decide +kernel
theorem dX7_channels_11 : decode cX7_channels 11 = .ok (.iload_n 3, 1) := by decide +kernel
theorem dX7_channels_12 : decode cX7_channels 12 = .ok (.invokestatic 59, 3) := by decide +kernel
theorem dX7_channels_15 : decode cX7_channels 15 = .ok (.iaload, 1) := by decide +kernel
theorem dX7_channels_16 : decode cX7_channels 16 = .ok (.iload_n 1, 1) := by decide +kernel
theorem dX7_channels_17 : decode cX7_channels 17 = .ok (.if_icmp .ne 7, 3) := by decide +kernel
theorem dX7_channels_20 : decode cX7_channels 20 = .ok (.iconst 1, 1) := by decide +kernel
theorem dX7_channels_21 : decode cX7_channels 21 = .ok (.goto 4, 3) := by decide +kernel
theorem dX7_channels_24 : decode cX7_channels 24 = .ok (.iconst 0, 1) := by decide +kernel
theorem dX7_channels_25 : decode cX7_channels 25 = .ok (.iadd, 1) := by decide +kernel
theorem dX7_channels_26 : decode cX7_channels 26 = .ok (.istore_n 2, 1) := by decide +kernel
theorem dX7_channels_27 : decode cX7_channels 27 = .ok (.iinc 3 1, 3) := by decide +kernel
theorem dX7_channels_30 : decode cX7_channels 30 = .ok (.goto (-26), 3) := by decide +kernel
theorem dX7_channels_33 : decode cX7_channels 33 = .ok (.iload_n 2, 1) := by decide +kernel
theorem dX7_channels_34 : decode cX7_channels 34 = .ok (.ireturn, 1) := by decide +kernel
theorem dX7_sum_0 : decode cX7_sum 0 = .ok (.iconst 0, 1) := by decide +kernel
theorem dX7_sum_1 : decode cX7_sum 1 = .ok (.istore_n 2, 1) := by decide +kernel
theorem dX7_sum_2 : decode cX7_sum 2 = .ok (.iconst 0, 1) := by decide +kernel
theorem dX7_sum_3 : decode cX7_sum 3 = .ok (.istore_n 3, 1) := by decide +kernel
theorem dX7_sum_4 : decode cX7_sum 4 = .ok (.iload_n 3, 1) := by decide +kernel
theorem dX7_sum_5 : decode cX7_sum 5 = .ok (.bipush 96, 2) := by decide +kernel
theorem dX7_sum_7 : decode cX7_sum 7 = .ok (.if_icmp .ge 17, 3) := by decide +kernel
theorem dX7_sum_10 : decode cX7_sum 10 = .ok (.iload_n 2, 1) := by decide +kernel
theorem dX7_sum_11 : decode cX7_sum 11 = .ok (.aload_n 0, 1) := by decide +kernel
theorem dX7_sum_12 : decode cX7_sum 12 = .ok (.iload_n 1, 1) := by decide +kernel
theorem dX7_sum_13 : decode cX7_sum 13 = .ok (.iload_n 3, 1) := by decide +kernel
theorem dX7_sum_14 : decode cX7_sum 14 = .ok (.iadd, 1) := by decide +kernel
theorem dX7_sum_15 : decode cX7_sum 15 = .ok (.iaload, 1) := by decide +kernel
theorem dX7_sum_16 : decode cX7_sum 16 = .ok (.iadd, 1) := by decide +kernel
theorem dX7_sum_17 : decode cX7_sum 17 = .ok (.istore_n 2, 1) := by decide +kernel
theorem dX7_sum_18 : decode cX7_sum 18 = .ok (.iinc 3 1, 3) := by decide +kernel
theorem dX7_sum_21 : decode cX7_sum 21 = .ok (.goto (-17), 3) := by decide +kernel
theorem dX7_sum_24 : decode cX7_sum 24 = .ok (.iload_n 2, 1) := by decide +kernel
theorem dX7_sum_25 : decode cX7_sum 25 = .ok (.ireturn, 1) := by decide +kernel
set_option maxRecDepth 20000 in
theorem ggX7_about_X7_in : GoodIn wsX7_about wsX7_in := goodIn_r _ [6] (by decide +kernel) (by decide +kernel)
set_option maxRecDepth 20000 in
theorem gX7_about_X7_in : GoodIn wsX7_about (va_wsS RX7 47 yX7_in wsX7_in) := goodIn_app (goodIn_of _ (by decide +kernel)) ggX7_about_X7_in
set_option maxRecDepth 20000 in
theorem ggX7_about_X7_refused : GoodIn wsX7_about wsX7_refused := goodIn_r _ [10, 11, 24, 25, 26, 27, 28, 29, 30, 31, 32, 33, 34, 35, 36, 37, 38, 39, 40] (by decide +kernel) (by decide +kernel)
set_option maxRecDepth 20000 in
theorem gX7_about_X7_refused : GoodIn wsX7_about (wsV RX7 102 RX7 yX7_refused wsX7_refused) := goodIn_app (goodIn_of _ (by decide +kernel)) ggX7_about_X7_refused
set_option maxRecDepth 20000 in
theorem ggX7_about_X7_channels : GoodIn wsX7_about wsX7_channels := goodIn_r _ [14, 15, 16, 5, 17] (by decide +kernel) (by decide +kernel)
set_option maxRecDepth 20000 in
theorem gX7_about_X7_channels : GoodIn wsX7_about (va_wsS RX7 139 yX7_channels wsX7_channels) := goodIn_app (goodIn_of _ (by decide +kernel)) ggX7_about_X7_channels
set_option maxRecDepth 20000 in
theorem ggX7_about_X7_turnOf : GoodIn wsX7_about wsX7_turnOf := goodIn_r _ [20, 15, 16, 5, 17] (by decide +kernel) (by decide +kernel)
set_option maxRecDepth 20000 in
theorem gX7_about_X7_turnOf : GoodIn wsX7_about (va_wsS RX7 78 yX7_turnOf wsX7_turnOf) := goodIn_app (goodIn_of _ (by decide +kernel)) ggX7_about_X7_turnOf
set_option maxRecDepth 20000 in
theorem ggX7_about_X7_sum : GoodIn wsX7_about wsX7_sum := goodIn_r _ [23] (by decide +kernel) (by decide +kernel)
set_option maxRecDepth 20000 in
theorem gX7_about_X7_sum : GoodIn wsX7_about (va_wsS RX7 145 yX7_sum wsX7_sum) := goodIn_app (goodIn_of _ (by decide +kernel)) ggX7_about_X7_sum
theorem dX7_about_0 : decode cX7_about 0 = .ok (.aload_n 0, 1) := by decide +kernel
theorem dX7_about_1 : decode cX7_about 1 = .ok (.iload_n 1, 1) := by decide +kernel
theorem dX7_about_2 : decode cX7_about 2 = .ok (.i2l, 1) := by decide +kernel
theorem dX7_about_3 : decode cX7_about 3 = .ok (.lconst 0, 1) := by decide +kernel
theorem dX7_about_4 : decode cX7_about 4 = .ok (.ldc2_w 143, 3) := by decide +kernel
theorem dX7_about_7 : decode cX7_about 7 = .ok (.invokestatic 47, 3) := by decide +kernel
theorem dX7_about_10 : decode cX7_about 10 = .ok (.ifCond .eq 7, 3) := by decide +kernel
theorem dX7_about_13 : decode cX7_about 13 = .ok (.iconst 0, 1) := by decide +kernel
theorem dX7_about_14 : decode cX7_about 14 = .ok (.goto 4, 3) := by decide +kernel
theorem dX7_about_17 : decode cX7_about 17 = .ok (.iconst 1, 1) := by decide +kernel
theorem dX7_about_18 : decode cX7_about 18 = .ok (.invokevirtual 102, 3) := by decide +kernel
theorem dX7_about_21 : decode cX7_about 21 = .ok (.ifCond .eq 5, 3) := by decide +kernel
theorem dX7_about_24 : decode cX7_about 24 = .ok (.iconst 0, 1) := by decide +kernel
theorem dX7_about_25 : decode cX7_about 25 = .ok (.ireturn, 1) := by decide +kernel
theorem dX7_about_26 : decode cX7_about 26 = .ok (.iload_n 1, 1) := by decide +kernel
theorem dX7_about_27 : decode cX7_about 27 = .ok (.tableswitch 131 0 8 #[49, 58, 67, 76, 85, 93, 102, 111, 120], 49) := by decide +kernel
theorem dX7_about_76 : decode cX7_about 76 = .ok (.aload_n 0, 1) := by decide +kernel
theorem dX7_about_77 : decode cX7_about 77 = .ok (.getfield 16, 3) := by decide +kernel
theorem dX7_about_80 : decode cX7_about 80 = .ok (.sipush 423, 3) := by decide +kernel
theorem dX7_about_83 : decode cX7_about 83 = .ok (.iaload, 1) := by decide +kernel
theorem dX7_about_84 : decode cX7_about 84 = .ok (.ireturn, 1) := by decide +kernel
theorem dX7_about_85 : decode cX7_about 85 = .ok (.aload_n 0, 1) := by decide +kernel
theorem dX7_about_86 : decode cX7_about 86 = .ok (.getfield 16, 3) := by decide +kernel
theorem dX7_about_89 : decode cX7_about 89 = .ok (.iconst 1, 1) := by decide +kernel
theorem dX7_about_90 : decode cX7_about 90 = .ok (.invokestatic 139, 3) := by decide +kernel
theorem dX7_about_93 : decode cX7_about 93 = .ok (.ireturn, 1) := by decide +kernel
theorem dX7_about_94 : decode cX7_about 94 = .ok (.aload_n 0, 1) := by decide +kernel
theorem dX7_about_95 : decode cX7_about 95 = .ok (.getfield 16, 3) := by decide +kernel
theorem dX7_about_98 : decode cX7_about 98 = .ok (.iconst 2, 1) := by decide +kernel
theorem dX7_about_99 : decode cX7_about 99 = .ok (.invokestatic 139, 3) := by decide +kernel
theorem dX7_about_102 : decode cX7_about 102 = .ok (.ireturn, 1) := by decide +kernel
theorem dX7_about_103 : decode cX7_about 103 = .ok (.aload_n 0, 1) := by decide +kernel
theorem dX7_about_104 : decode cX7_about 104 = .ok (.getfield 16, 3) := by decide +kernel
theorem dX7_about_107 : decode cX7_about 107 = .ok (.iconst 3, 1) := by decide +kernel
theorem dX7_about_108 : decode cX7_about 108 = .ok (.invokestatic 139, 3) := by decide +kernel
theorem dX7_about_111 : decode cX7_about 111 = .ok (.ireturn, 1) := by decide +kernel
theorem dX7_about_112 : decode cX7_about 112 = .ok (.aload_n 0, 1) := by decide +kernel
theorem dX7_about_113 : decode cX7_about 113 = .ok (.getfield 16, 3) := by decide +kernel
theorem dX7_about_116 : decode cX7_about 116 = .ok (.invokestatic 78, 3) := by decide +kernel
theorem dX7_about_119 : decode cX7_about 119 = .ok (.ireturn, 1) := by decide +kernel
theorem dX7_about_120 : decode cX7_about 120 = .ok (.aload_n 0, 1) := by decide +kernel
theorem dX7_about_121 : decode cX7_about 121 = .ok (.getfield 16, 3) := by decide +kernel
theorem dX7_about_124 : decode cX7_about 124 = .ok (.iconst 0, 1) := by decide +kernel
theorem dX7_about_125 : decode cX7_about 125 = .ok (.invokestatic 145, 3) := by decide +kernel
theorem dX7_about_128 : decode cX7_about 128 = .ok (.ireturn, 1) := by decide +kernel
theorem dX7_about_129 : decode cX7_about 129 = .ok (.aload_n 0, 1) := by decide +kernel
theorem dX7_about_130 : decode cX7_about 130 = .ok (.getfield 16, 3) := by decide +kernel
theorem dX7_about_133 : decode cX7_about 133 = .ok (.sipush 424, 3) := by decide +kernel
theorem dX7_about_136 : decode cX7_about 136 = .ok (.iaload, 1) := by decide +kernel
theorem dX7_about_137 : decode cX7_about 137 = .ok (.ireturn, 1) := by decide +kernel
theorem dX7_about_138 : decode cX7_about 138 = .ok (.aload_n 0, 1) := by decide +kernel
theorem dX7_about_139 : decode cX7_about 139 = .ok (.getfield 16, 3) := by decide +kernel
theorem dX7_about_142 : decode cX7_about 142 = .ok (.sipush 425, 3) := by decide +kernel
theorem dX7_about_145 : decode cX7_about 145 = .ok (.iaload, 1) := by decide +kernel
theorem dX7_about_146 : decode cX7_about 146 = .ok (.ireturn, 1) := by decide +kernel
theorem dX7_about_147 : decode cX7_about 147 = .ok (.aload_n 0, 1) := by decide +kernel
theorem dX7_about_148 : decode cX7_about 148 = .ok (.getfield 16, 3) := by decide +kernel
theorem dX7_about_151 : decode cX7_about 151 = .ok (.sipush 192, 3) := by decide +kernel
theorem dX7_about_154 : decode cX7_about 154 = .ok (.invokestatic 145, 3) := by decide +kernel
theorem dX7_about_157 : decode cX7_about 157 = .ok (.ireturn, 1) := by decide +kernel
theorem dX7_about_158 : decode cX7_about 158 = .ok (.iconst 0, 1) := by decide +kernel
theorem dX7_about_159 : decode cX7_about 159 = .ok (.istore_n 2, 1) := by decide +kernel
theorem dX7_about_160 : decode cX7_about 160 = .ok (.iconst 0, 1) := by decide +kernel
theorem dX7_about_161 : decode cX7_about 161 = .ok (.istore_n 3, 1) := by decide +kernel
theorem dX7_about_162 : decode cX7_about 162 = .ok (.iload_n 3, 1) := by decide +kernel
theorem dX7_about_163 : decode cX7_about 163 = .ok (.bipush 96, 2) := by decide +kernel
theorem dX7_about_165 : decode cX7_about 165 = .ok (.if_icmp .ge 29, 3) := by decide +kernel
theorem dX7_about_168 : decode cX7_about 168 = .ok (.iload_n 2, 1) := by decide +kernel
theorem dX7_about_169 : decode cX7_about 169 = .ok (.aload_n 0, 1) := by decide +kernel
theorem dX7_about_170 : decode cX7_about 170 = .ok (.getfield 16, 3) := by decide +kernel
theorem dX7_about_173 : decode cX7_about 173 = .ok (.bipush 96, 2) := by decide +kernel
theorem dX7_about_175 : decode cX7_about 175 = .ok (.iload_n 3, 1) := by decide +kernel
theorem dX7_about_176 : decode cX7_about 176 = .ok (.iadd, 1) := by decide +kernel
theorem dX7_about_177 : decode cX7_about 177 = .ok (.iaload, 1) := by decide +kernel
theorem dX7_about_178 : decode cX7_about 178 = .ok (.ifCond .ne 7, 3) := by decide +kernel
theorem dX7_about_181 : decode cX7_about 181 = .ok (.iconst 0, 1) := by decide +kernel
theorem dX7_about_182 : decode cX7_about 182 = .ok (.goto 4, 3) := by decide +kernel
theorem dX7_about_185 : decode cX7_about 185 = .ok (.iconst 1, 1) := by decide +kernel
theorem dX7_about_186 : decode cX7_about 186 = .ok (.iadd, 1) := by decide +kernel
theorem dX7_about_187 : decode cX7_about 187 = .ok (.istore_n 2, 1) := by decide +kernel
theorem dX7_about_188 : decode cX7_about 188 = .ok (.iinc 3 1, 3) := by decide +kernel
theorem dX7_about_191 : decode cX7_about 191 = .ok (.goto (-29), 3) := by decide +kernel
theorem dX7_about_194 : decode cX7_about 194 = .ok (.iload_n 2, 1) := by decide +kernel
theorem dX7_about_195 : decode cX7_about 195 = .ok (.ireturn, 1) := by decide +kernel
set_option maxRecDepth 20000 in
theorem ggX7_cell_X7_isCell : GoodIn wsX7_cell wsX7_isCell := goodIn_r _ [6, 7, 8, 9, 5, 10] (by decide +kernel) (by decide +kernel)
set_option maxRecDepth 20000 in
theorem gX7_cell_X7_isCell : GoodIn wsX7_cell (va_wsS RX7 148 yX7_isCell wsX7_isCell) := goodIn_app (goodIn_of _ (by decide +kernel)) ggX7_cell_X7_isCell
set_option maxRecDepth 20000 in
theorem ggX7_cell_X7_in : GoodIn wsX7_cell wsX7_in := goodIn_r _ [10] (by decide +kernel) (by decide +kernel)
set_option maxRecDepth 20000 in
theorem gX7_cell_X7_in : GoodIn wsX7_cell (va_wsS RX7 47 yX7_in wsX7_in) := goodIn_app (goodIn_of _ (by decide +kernel)) ggX7_cell_X7_in
set_option maxRecDepth 20000 in
theorem ggX7_cell_X7_refused : GoodIn wsX7_cell wsX7_refused := goodIn_r _ [14, 15, 16, 17, 18, 19, 20, 21, 22, 23, 24, 25, 26, 27, 28, 29, 30, 31, 32] (by decide +kernel) (by decide +kernel)
set_option maxRecDepth 20000 in
theorem gX7_cell_X7_refused : GoodIn wsX7_cell (wsV RX7 102 RX7 yX7_refused wsX7_refused) := goodIn_app (goodIn_of _ (by decide +kernel)) ggX7_cell_X7_refused
theorem dX7_cell_0 : decode cX7_cell 0 = .ok (.aload_n 0, 1) := by decide +kernel
theorem dX7_cell_1 : decode cX7_cell 1 = .ok (.iload_n 1, 1) := by decide +kernel
theorem dX7_cell_2 : decode cX7_cell 2 = .ok (.invokestatic 148, 3) := by decide +kernel
theorem dX7_cell_5 : decode cX7_cell 5 = .ok (.ifCond .ne 7, 3) := by decide +kernel
theorem dX7_cell_8 : decode cX7_cell 8 = .ok (.iconst 1, 1) := by decide +kernel
theorem dX7_cell_9 : decode cX7_cell 9 = .ok (.goto 20, 3) := by decide +kernel
theorem dX7_cell_12 : decode cX7_cell 12 = .ok (.iload_n 2, 1) := by decide +kernel
theorem dX7_cell_13 : decode cX7_cell 13 = .ok (.i2l, 1) := by decide +kernel
theorem dX7_cell_14 : decode cX7_cell 14 = .ok (.lconst 0, 1) := by decide +kernel
theorem dX7_cell_15 : decode cX7_cell 15 = .ok (.ldc2_w 151, 3) := by decide +kernel
theorem dX7_cell_18 : decode cX7_cell 18 = .ok (.invokestatic 47, 3) := by decide +kernel
theorem dX7_cell_21 : decode cX7_cell 21 = .ok (.ifCond .eq 7, 3) := by decide +kernel
theorem dX7_cell_24 : decode cX7_cell 24 = .ok (.iconst 0, 1) := by decide +kernel
theorem dX7_cell_25 : decode cX7_cell 25 = .ok (.goto 4, 3) := by decide +kernel
theorem dX7_cell_28 : decode cX7_cell 28 = .ok (.iconst 2, 1) := by decide +kernel
theorem dX7_cell_29 : decode cX7_cell 29 = .ok (.invokevirtual 102, 3) := by decide +kernel
theorem dX7_cell_32 : decode cX7_cell 32 = .ok (.ifCond .eq 5, 3) := by decide +kernel
theorem dX7_cell_35 : decode cX7_cell 35 = .ok (.iconst 0, 1) := by decide +kernel
theorem dX7_cell_36 : decode cX7_cell 36 = .ok (.ireturn, 1) := by decide +kernel
theorem dX7_cell_37 : decode cX7_cell 37 = .ok (.aload_n 0, 1) := by decide +kernel
theorem dX7_cell_38 : decode cX7_cell 38 = .ok (.getfield 16, 3) := by decide +kernel
theorem dX7_cell_41 : decode cX7_cell 41 = .ok (.bipush 96, 2) := by decide +kernel
theorem dX7_cell_43 : decode cX7_cell 43 = .ok (.iload_n 2, 1) := by decide +kernel
theorem dX7_cell_44 : decode cX7_cell 44 = .ok (.imul, 1) := by decide +kernel
theorem dX7_cell_45 : decode cX7_cell 45 = .ok (.iload_n 1, 1) := by decide +kernel
theorem dX7_cell_46 : decode cX7_cell 46 = .ok (.iadd, 1) := by decide +kernel
theorem dX7_cell_47 : decode cX7_cell 47 = .ok (.iaload, 1) := by decide +kernel
theorem dX7_cell_48 : decode cX7_cell 48 = .ok (.istore_n 3, 1) := by decide +kernel
theorem dX7_cell_49 : decode cX7_cell 49 = .ok (.iload_n 2, 1) := by decide +kernel
theorem dX7_cell_50 : decode cX7_cell 50 = .ok (.iconst 3, 1) := by decide +kernel
theorem dX7_cell_51 : decode cX7_cell 51 = .ok (.if_icmp .ge 7, 3) := by decide +kernel
theorem dX7_cell_54 : decode cX7_cell 54 = .ok (.iload_n 3, 1) := by decide +kernel
theorem dX7_cell_55 : decode cX7_cell 55 = .ok (.goto 15, 3) := by decide +kernel
theorem dX7_cell_58 : decode cX7_cell 58 = .ok (.iload_n 3, 1) := by decide +kernel
theorem dX7_cell_59 : decode cX7_cell 59 = .ok (.ifCond .ne 8, 3) := by decide +kernel
theorem dX7_cell_62 : decode cX7_cell 62 = .ok (.bipush (-9), 2) := by decide +kernel
theorem dX7_cell_64 : decode cX7_cell 64 = .ok (.goto 6, 3) := by decide +kernel
theorem dX7_cell_67 : decode cX7_cell 67 = .ok (.iload_n 3, 1) := by decide +kernel
theorem dX7_cell_68 : decode cX7_cell 68 = .ok (.iconst 1, 1) := by decide +kernel
theorem dX7_cell_69 : decode cX7_cell 69 = .ok (.isub, 1) := by decide +kernel
theorem dX7_cell_70 : decode cX7_cell 70 = .ok (.ireturn, 1) := by decide +kernel
set_option maxRecDepth 20000 in
theorem ggX7_channel_X7_isChannel : GoodIn wsX7_channel wsX7_isChannel := goodIn_r _ [6, 7, 8, 9, 5, 10] (by decide +kernel) (by decide +kernel)
set_option maxRecDepth 20000 in
theorem gX7_channel_X7_isChannel : GoodIn wsX7_channel (va_wsS RX7 153 yX7_isChannel wsX7_isChannel) := goodIn_app (goodIn_of _ (by decide +kernel)) ggX7_channel_X7_isChannel
set_option maxRecDepth 20000 in
theorem ggX7_channel_X7_in : GoodIn wsX7_channel wsX7_in := goodIn_r _ [10] (by decide +kernel) (by decide +kernel)
set_option maxRecDepth 20000 in
theorem gX7_channel_X7_in : GoodIn wsX7_channel (va_wsS RX7 47 yX7_in wsX7_in) := goodIn_app (goodIn_of _ (by decide +kernel)) ggX7_channel_X7_in
set_option maxRecDepth 20000 in
theorem ggX7_channel_X7_refused : GoodIn wsX7_channel wsX7_refused := goodIn_r _ [14, 15, 19, 20, 21, 22, 23, 24, 25, 26, 27, 28, 29, 30, 31, 32, 33, 34, 35] (by decide +kernel) (by decide +kernel)
set_option maxRecDepth 20000 in
theorem gX7_channel_X7_refused : GoodIn wsX7_channel (wsV RX7 102 RX7 yX7_refused wsX7_refused) := goodIn_app (goodIn_of _ (by decide +kernel)) ggX7_channel_X7_refused
set_option maxRecDepth 20000 in
theorem ggX7_channel_X7_at : GoodIn wsX7_channel wsX7_at := goodIn_r _ [18] (by decide +kernel) (by decide +kernel)
set_option maxRecDepth 20000 in
theorem gX7_channel_X7_at : GoodIn wsX7_channel (va_wsS RX7 59 yX7_at wsX7_at) := goodIn_app (goodIn_of _ (by decide +kernel)) ggX7_channel_X7_at
theorem dX7_channel_0 : decode cX7_channel 0 = .ok (.aload_n 0, 1) := by decide +kernel
theorem dX7_channel_1 : decode cX7_channel 1 = .ok (.iload_n 1, 1) := by decide +kernel
theorem dX7_channel_2 : decode cX7_channel 2 = .ok (.invokestatic 153, 3) := by decide +kernel
theorem dX7_channel_5 : decode cX7_channel 5 = .ok (.ifCond .ne 7, 3) := by decide +kernel
theorem dX7_channel_8 : decode cX7_channel 8 = .ok (.iconst 1, 1) := by decide +kernel
theorem dX7_channel_9 : decode cX7_channel 9 = .ok (.goto 20, 3) := by decide +kernel
theorem dX7_channel_12 : decode cX7_channel 12 = .ok (.iload_n 2, 1) := by decide +kernel
theorem dX7_channel_13 : decode cX7_channel 13 = .ok (.i2l, 1) := by decide +kernel
theorem dX7_channel_14 : decode cX7_channel 14 = .ok (.lconst 0, 1) := by decide +kernel
theorem dX7_channel_15 : decode cX7_channel 15 = .ok (.ldc2_w 156, 3) := by decide +kernel
theorem dX7_channel_18 : decode cX7_channel 18 = .ok (.invokestatic 47, 3) := by decide +kernel
theorem dX7_channel_21 : decode cX7_channel 21 = .ok (.ifCond .eq 7, 3) := by decide +kernel
theorem dX7_channel_24 : decode cX7_channel 24 = .ok (.iconst 0, 1) := by decide +kernel
theorem dX7_channel_25 : decode cX7_channel 25 = .ok (.goto 4, 3) := by decide +kernel
theorem dX7_channel_28 : decode cX7_channel 28 = .ok (.iconst 2, 1) := by decide +kernel
theorem dX7_channel_29 : decode cX7_channel 29 = .ok (.invokevirtual 102, 3) := by decide +kernel
theorem dX7_channel_32 : decode cX7_channel 32 = .ok (.ifCond .eq 5, 3) := by decide +kernel
theorem dX7_channel_35 : decode cX7_channel 35 = .ok (.iconst 0, 1) := by decide +kernel
theorem dX7_channel_36 : decode cX7_channel 36 = .ok (.ireturn, 1) := by decide +kernel
theorem dX7_channel_37 : decode cX7_channel 37 = .ok (.iload_n 1, 1) := by decide +kernel
theorem dX7_channel_38 : decode cX7_channel 38 = .ok (.invokestatic 59, 3) := by decide +kernel
theorem dX7_channel_41 : decode cX7_channel 41 = .ok (.istore_n 3, 1) := by decide +kernel
theorem dX7_channel_42 : decode cX7_channel 42 = .ok (.aload_n 0, 1) := by decide +kernel
theorem dX7_channel_43 : decode cX7_channel 43 = .ok (.getfield 16, 3) := by decide +kernel
theorem dX7_channel_46 : decode cX7_channel 46 = .ok (.iload_n 3, 1) := by decide +kernel
theorem dX7_channel_47 : decode cX7_channel 47 = .ok (.iconst 4, 1) := by decide +kernel
theorem dX7_channel_48 : decode cX7_channel 48 = .ok (.iadd, 1) := by decide +kernel
theorem dX7_channel_49 : decode cX7_channel 49 = .ok (.iaload, 1) := by decide +kernel
theorem dX7_channel_50 : decode cX7_channel 50 = .ok (.ifCond .le 7, 3) := by decide +kernel
theorem dX7_channel_53 : decode cX7_channel 53 = .ok (.iconst 1, 1) := by decide +kernel
theorem dX7_channel_54 : decode cX7_channel 54 = .ok (.goto 4, 3) := by decide +kernel
theorem dX7_channel_57 : decode cX7_channel 57 = .ok (.iconst 0, 1) := by decide +kernel
theorem dX7_channel_58 : decode cX7_channel 58 = .ok (.istore 4, 2) := by decide +kernel
theorem dX7_channel_60 : decode cX7_channel 60 = .ok (.iload_n 2, 1) := by decide +kernel
theorem dX7_channel_61 : decode cX7_channel 61 = .ok (.tableswitch 150 0 6 #[43, 50, 59, 83, 102, 121, 140], 43) := by decide +kernel
theorem dX7_channel_104 : decode cX7_channel 104 = .ok (.aload_n 0, 1) := by decide +kernel
theorem dX7_channel_105 : decode cX7_channel 105 = .ok (.getfield 16, 3) := by decide +kernel
theorem dX7_channel_108 : decode cX7_channel 108 = .ok (.iload_n 3, 1) := by decide +kernel
theorem dX7_channel_109 : decode cX7_channel 109 = .ok (.iaload, 1) := by decide +kernel
theorem dX7_channel_110 : decode cX7_channel 110 = .ok (.ireturn, 1) := by decide +kernel
theorem dX7_channel_111 : decode cX7_channel 111 = .ok (.aload_n 0, 1) := by decide +kernel
theorem dX7_channel_112 : decode cX7_channel 112 = .ok (.getfield 16, 3) := by decide +kernel
theorem dX7_channel_115 : decode cX7_channel 115 = .ok (.iload_n 3, 1) := by decide +kernel
theorem dX7_channel_116 : decode cX7_channel 116 = .ok (.iconst 1, 1) := by decide +kernel
theorem dX7_channel_117 : decode cX7_channel 117 = .ok (.iadd, 1) := by decide +kernel
theorem dX7_channel_118 : decode cX7_channel 118 = .ok (.iaload, 1) := by decide +kernel
theorem dX7_channel_119 : decode cX7_channel 119 = .ok (.ireturn, 1) := by decide +kernel
theorem dX7_channel_120 : decode cX7_channel 120 = .ok (.aload_n 0, 1) := by decide +kernel
theorem dX7_channel_121 : decode cX7_channel 121 = .ok (.getfield 16, 3) := by decide +kernel
theorem dX7_channel_124 : decode cX7_channel 124 = .ok (.iload_n 3, 1) := by decide +kernel
theorem dX7_channel_125 : decode cX7_channel 125 = .ok (.iaload, 1) := by decide +kernel
theorem dX7_channel_126 : decode cX7_channel 126 = .ok (.iconst 3, 1) := by decide +kernel
theorem dX7_channel_127 : decode cX7_channel 127 = .ok (.if_icmp .ne 14, 3) := by decide +kernel
theorem dX7_channel_130 : decode cX7_channel 130 = .ok (.aload_n 0, 1) := by decide +kernel
theorem dX7_channel_131 : decode cX7_channel 131 = .ok (.getfield 16, 3) := by decide +kernel
theorem dX7_channel_134 : decode cX7_channel 134 = .ok (.iload_n 3, 1) := by decide +kernel
theorem dX7_channel_135 : decode cX7_channel 135 = .ok (.iconst 2, 1) := by decide +kernel
theorem dX7_channel_136 : decode cX7_channel 136 = .ok (.iadd, 1) := by decide +kernel
theorem dX7_channel_137 : decode cX7_channel 137 = .ok (.iaload, 1) := by decide +kernel
theorem dX7_channel_138 : decode cX7_channel 138 = .ok (.goto 5, 3) := by decide +kernel
theorem dX7_channel_141 : decode cX7_channel 141 = .ok (.bipush (-9), 2) := by decide +kernel
theorem dX7_channel_143 : decode cX7_channel 143 = .ok (.ireturn, 1) := by decide +kernel
theorem dX7_channel_144 : decode cX7_channel 144 = .ok (.iload 4, 2) := by decide +kernel
theorem dX7_channel_146 : decode cX7_channel 146 = .ok (.ifCond .eq 14, 3) := by decide +kernel
theorem dX7_channel_149 : decode cX7_channel 149 = .ok (.aload_n 0, 1) := by decide +kernel
theorem dX7_channel_150 : decode cX7_channel 150 = .ok (.getfield 16, 3) := by decide +kernel
theorem dX7_channel_153 : decode cX7_channel 153 = .ok (.iload_n 3, 1) := by decide +kernel
theorem dX7_channel_154 : decode cX7_channel 154 = .ok (.iconst 3, 1) := by decide +kernel
theorem dX7_channel_155 : decode cX7_channel 155 = .ok (.iadd, 1) := by decide +kernel
theorem dX7_channel_156 : decode cX7_channel 156 = .ok (.iaload, 1) := by decide +kernel
theorem dX7_channel_157 : decode cX7_channel 157 = .ok (.goto 5, 3) := by decide +kernel
theorem dX7_channel_160 : decode cX7_channel 160 = .ok (.bipush (-9), 2) := by decide +kernel
theorem dX7_channel_162 : decode cX7_channel 162 = .ok (.ireturn, 1) := by decide +kernel
theorem dX7_channel_163 : decode cX7_channel 163 = .ok (.iload 4, 2) := by decide +kernel
theorem dX7_channel_165 : decode cX7_channel 165 = .ok (.ifCond .eq 14, 3) := by decide +kernel
theorem dX7_channel_168 : decode cX7_channel 168 = .ok (.aload_n 0, 1) := by decide +kernel
theorem dX7_channel_169 : decode cX7_channel 169 = .ok (.getfield 16, 3) := by decide +kernel
theorem dX7_channel_172 : decode cX7_channel 172 = .ok (.iload_n 3, 1) := by decide +kernel
theorem dX7_channel_173 : decode cX7_channel 173 = .ok (.iconst 4, 1) := by decide +kernel
theorem dX7_channel_174 : decode cX7_channel 174 = .ok (.iadd, 1) := by decide +kernel
theorem dX7_channel_175 : decode cX7_channel 175 = .ok (.iaload, 1) := by decide +kernel
theorem dX7_channel_176 : decode cX7_channel 176 = .ok (.goto 5, 3) := by decide +kernel
theorem dX7_channel_179 : decode cX7_channel 179 = .ok (.bipush (-9), 2) := by decide +kernel
theorem dX7_channel_181 : decode cX7_channel 181 = .ok (.ireturn, 1) := by decide +kernel
theorem dX7_channel_182 : decode cX7_channel 182 = .ok (.iload 4, 2) := by decide +kernel
theorem dX7_channel_184 : decode cX7_channel 184 = .ok (.ifCond .eq 15, 3) := by decide +kernel
theorem dX7_channel_187 : decode cX7_channel 187 = .ok (.aload_n 0, 1) := by decide +kernel
theorem dX7_channel_188 : decode cX7_channel 188 = .ok (.getfield 16, 3) := by decide +kernel
theorem dX7_channel_191 : decode cX7_channel 191 = .ok (.iload_n 3, 1) := by decide +kernel
theorem dX7_channel_192 : decode cX7_channel 192 = .ok (.bipush 10, 2) := by decide +kernel
theorem dX7_channel_194 : decode cX7_channel 194 = .ok (.iadd, 1) := by decide +kernel
theorem dX7_channel_195 : decode cX7_channel 195 = .ok (.iaload, 1) := by decide +kernel
theorem dX7_channel_196 : decode cX7_channel 196 = .ok (.goto 4, 3) := by decide +kernel
theorem dX7_channel_199 : decode cX7_channel 199 = .ok (.iconst 0, 1) := by decide +kernel
theorem dX7_channel_200 : decode cX7_channel 200 = .ok (.ireturn, 1) := by decide +kernel
theorem dX7_channel_201 : decode cX7_channel 201 = .ok (.aload_n 0, 1) := by decide +kernel
theorem dX7_channel_202 : decode cX7_channel 202 = .ok (.getfield 16, 3) := by decide +kernel
theorem dX7_channel_205 : decode cX7_channel 205 = .ok (.iload_n 3, 1) := by decide +kernel
theorem dX7_channel_206 : decode cX7_channel 206 = .ok (.bipush 11, 2) := by decide +kernel
theorem dX7_channel_208 : decode cX7_channel 208 = .ok (.iadd, 1) := by decide +kernel
theorem dX7_channel_209 : decode cX7_channel 209 = .ok (.iaload, 1) := by decide +kernel
theorem dX7_channel_210 : decode cX7_channel 210 = .ok (.ireturn, 1) := by decide +kernel
theorem dX7_channel_211 : decode cX7_channel 211 = .ok (.aload_n 0, 1) := by decide +kernel
theorem dX7_channel_212 : decode cX7_channel 212 = .ok (.getfield 16, 3) := by decide +kernel
theorem dX7_channel_215 : decode cX7_channel 215 = .ok (.iload_n 3, 1) := by decide +kernel
theorem dX7_channel_216 : decode cX7_channel 216 = .ok (.bipush 12, 2) := by decide +kernel
theorem dX7_channel_218 : decode cX7_channel 218 = .ok (.iadd, 1) := by decide +kernel
theorem dX7_channel_219 : decode cX7_channel 219 = .ok (.iaload, 1) := by decide +kernel
theorem dX7_channel_220 : decode cX7_channel 220 = .ok (.ireturn, 1) := by decide +kernel
set_option maxRecDepth 20000 in
theorem ggX7_chain_X7_isCell : GoodIn wsX7_chain wsX7_isCell := goodIn_r _ [6, 7, 8, 9, 5, 10] (by decide +kernel) (by decide +kernel)
set_option maxRecDepth 20000 in
theorem gX7_chain_X7_isCell : GoodIn wsX7_chain (va_wsS RX7 148 yX7_isCell wsX7_isCell) := goodIn_app (goodIn_of _ (by decide +kernel)) ggX7_chain_X7_isCell
set_option maxRecDepth 20000 in
theorem ggX7_chain_X7_in : GoodIn wsX7_chain wsX7_in := goodIn_r _ [10] (by decide +kernel) (by decide +kernel)
set_option maxRecDepth 20000 in
theorem gX7_chain_X7_in : GoodIn wsX7_chain (va_wsS RX7 47 yX7_in wsX7_in) := goodIn_app (goodIn_of _ (by decide +kernel)) ggX7_chain_X7_in
set_option maxRecDepth 20000 in
theorem ggX7_chain_X7_refused : GoodIn wsX7_chain wsX7_refused := goodIn_r _ [14, 15, 16, 17, 18, 19, 20, 21, 22, 23, 24, 25, 26, 27, 28, 29, 30, 31, 32] (by decide +kernel) (by decide +kernel)
set_option maxRecDepth 20000 in
theorem gX7_chain_X7_refused : GoodIn wsX7_chain (wsV RX7 102 RX7 yX7_refused wsX7_refused) := goodIn_app (goodIn_of _ (by decide +kernel)) ggX7_chain_X7_refused
theorem dX7_chain_0 : decode cX7_chain 0 = .ok (.aload_n 0, 1) := by decide +kernel
theorem dX7_chain_1 : decode cX7_chain 1 = .ok (.iload_n 1, 1) := by decide +kernel
theorem dX7_chain_2 : decode cX7_chain 2 = .ok (.invokestatic 148, 3) := by decide +kernel
theorem dX7_chain_5 : decode cX7_chain 5 = .ok (.ifCond .ne 7, 3) := by decide +kernel
theorem dX7_chain_8 : decode cX7_chain 8 = .ok (.iconst 1, 1) := by decide +kernel
theorem dX7_chain_9 : decode cX7_chain 9 = .ok (.goto 18, 3) := by decide +kernel
theorem dX7_chain_12 : decode cX7_chain 12 = .ok (.iload_n 2, 1) := by decide +kernel
theorem dX7_chain_13 : decode cX7_chain 13 = .ok (.i2l, 1) := by decide +kernel
theorem dX7_chain_14 : decode cX7_chain 14 = .ok (.lconst 0, 1) := by decide +kernel
theorem dX7_chain_15 : decode cX7_chain 15 = .ok (.lconst 1, 1) := by decide +kernel
theorem dX7_chain_16 : decode cX7_chain 16 = .ok (.invokestatic 47, 3) := by decide +kernel
theorem dX7_chain_19 : decode cX7_chain 19 = .ok (.ifCond .eq 7, 3) := by decide +kernel
theorem dX7_chain_22 : decode cX7_chain 22 = .ok (.iconst 0, 1) := by decide +kernel
theorem dX7_chain_23 : decode cX7_chain 23 = .ok (.goto 4, 3) := by decide +kernel
theorem dX7_chain_26 : decode cX7_chain 26 = .ok (.iconst 2, 1) := by decide +kernel
theorem dX7_chain_27 : decode cX7_chain 27 = .ok (.invokevirtual 102, 3) := by decide +kernel
theorem dX7_chain_30 : decode cX7_chain 30 = .ok (.ifCond .eq 5, 3) := by decide +kernel
theorem dX7_chain_33 : decode cX7_chain 33 = .ok (.iconst 0, 1) := by decide +kernel
theorem dX7_chain_34 : decode cX7_chain 34 = .ok (.ireturn, 1) := by decide +kernel
theorem dX7_chain_35 : decode cX7_chain 35 = .ok (.iconst 0, 1) := by decide +kernel
theorem dX7_chain_36 : decode cX7_chain 36 = .ok (.istore_n 3, 1) := by decide +kernel
theorem dX7_chain_37 : decode cX7_chain 37 = .ok (.iload_n 3, 1) := by decide +kernel
theorem dX7_chain_38 : decode cX7_chain 38 = .ok (.bipush 96, 2) := by decide +kernel
theorem dX7_chain_40 : decode cX7_chain 40 = .ok (.if_icmp .ge 16, 3) := by decide +kernel
theorem dX7_chain_43 : decode cX7_chain 43 = .ok (.aload_n 0, 1) := by decide +kernel
theorem dX7_chain_44 : decode cX7_chain 44 = .ok (.getfield 35, 3) := by decide +kernel
theorem dX7_chain_47 : decode cX7_chain 47 = .ok (.iload_n 3, 1) := by decide +kernel
theorem dX7_chain_48 : decode cX7_chain 48 = .ok (.iconst 0, 1) := by decide +kernel
theorem dX7_chain_49 : decode cX7_chain 49 = .ok (.bastore, 1) := by decide +kernel
theorem dX7_chain_50 : decode cX7_chain 50 = .ok (.iinc 3 1, 3) := by decide +kernel
theorem dX7_chain_53 : decode cX7_chain 53 = .ok (.goto (-16), 3) := by decide +kernel
theorem dX7_chain_56 : decode cX7_chain 56 = .ok (.iconst 0, 1) := by decide +kernel
theorem dX7_chain_57 : decode cX7_chain 57 = .ok (.istore_n 3, 1) := by decide +kernel
theorem dX7_chain_58 : decode cX7_chain 58 = .ok (.bipush (-9), 2) := by decide +kernel
theorem dX7_chain_60 : decode cX7_chain 60 = .ok (.istore 4, 2) := by decide +kernel
theorem dX7_chain_62 : decode cX7_chain 62 = .ok (.iload_n 1, 1) := by decide +kernel
theorem dX7_chain_63 : decode cX7_chain 63 = .ok (.istore 5, 2) := by decide +kernel
theorem dX7_chain_65 : decode cX7_chain 65 = .ok (.iload 4, 2) := by decide +kernel
theorem dX7_chain_67 : decode cX7_chain 67 = .ok (.bipush (-9), 2) := by decide +kernel
theorem dX7_chain_69 : decode cX7_chain 69 = .ok (.if_icmp .ne 91, 3) := by decide +kernel
theorem dX7_chain_72 : decode cX7_chain 72 = .ok (.iload 5, 2) := by decide +kernel
theorem dX7_chain_74 : decode cX7_chain 74 = .ok (.bipush 90, 2) := by decide +kernel
theorem dX7_chain_76 : decode cX7_chain 76 = .ok (.if_icmp .le 9, 3) := by decide +kernel
theorem dX7_chain_79 : decode cX7_chain 79 = .ok (.iconst 2, 1) := by decide +kernel
theorem dX7_chain_80 : decode cX7_chain 80 = .ok (.istore 4, 2) := by decide +kernel
theorem dX7_chain_82 : decode cX7_chain 82 = .ok (.goto (-17), 3) := by decide +kernel
theorem dX7_chain_85 : decode cX7_chain 85 = .ok (.aload_n 0, 1) := by decide +kernel
theorem dX7_chain_86 : decode cX7_chain 86 = .ok (.getfield 35, 3) := by decide +kernel
theorem dX7_chain_89 : decode cX7_chain 89 = .ok (.iload 5, 2) := by decide +kernel
theorem dX7_chain_91 : decode cX7_chain 91 = .ok (.baload, 1) := by decide +kernel
theorem dX7_chain_92 : decode cX7_chain 92 = .ok (.ifCond .eq 9, 3) := by decide +kernel
theorem dX7_chain_95 : decode cX7_chain 95 = .ok (.iconst 3, 1) := by decide +kernel
theorem dX7_chain_96 : decode cX7_chain 96 = .ok (.istore 4, 2) := by decide +kernel
theorem dX7_chain_98 : decode cX7_chain 98 = .ok (.goto (-33), 3) := by decide +kernel
theorem dX7_chain_101 : decode cX7_chain 101 = .ok (.aload_n 0, 1) := by decide +kernel
theorem dX7_chain_102 : decode cX7_chain 102 = .ok (.getfield 35, 3) := by decide +kernel
theorem dX7_chain_105 : decode cX7_chain 105 = .ok (.iload 5, 2) := by decide +kernel
theorem dX7_chain_107 : decode cX7_chain 107 = .ok (.iconst 1, 1) := by decide +kernel
theorem dX7_chain_108 : decode cX7_chain 108 = .ok (.bastore, 1) := by decide +kernel
theorem dX7_chain_109 : decode cX7_chain 109 = .ok (.iinc 3 1, 3) := by decide +kernel
theorem dX7_chain_112 : decode cX7_chain 112 = .ok (.aload_n 0, 1) := by decide +kernel
theorem dX7_chain_113 : decode cX7_chain 113 = .ok (.getfield 16, 3) := by decide +kernel
theorem dX7_chain_116 : decode cX7_chain 116 = .ok (.iload 5, 2) := by decide +kernel
theorem dX7_chain_118 : decode cX7_chain 118 = .ok (.iaload, 1) := by decide +kernel
theorem dX7_chain_119 : decode cX7_chain 119 = .ok (.ifCond .ne 7, 3) := by decide +kernel
theorem dX7_chain_122 : decode cX7_chain 122 = .ok (.iconst 0, 1) := by decide +kernel
theorem dX7_chain_123 : decode cX7_chain 123 = .ok (.goto 21, 3) := by decide +kernel
theorem dX7_chain_126 : decode cX7_chain 126 = .ok (.aload_n 0, 1) := by decide +kernel
theorem dX7_chain_127 : decode cX7_chain 127 = .ok (.getfield 16, 3) := by decide +kernel
theorem dX7_chain_130 : decode cX7_chain 130 = .ok (.iload 5, 2) := by decide +kernel
theorem dX7_chain_132 : decode cX7_chain 132 = .ok (.iaload, 1) := by decide +kernel
theorem dX7_chain_133 : decode cX7_chain 133 = .ok (.bipush 6, 2) := by decide +kernel
theorem dX7_chain_135 : decode cX7_chain 135 = .ok (.if_icmp .le 7, 3) := by decide +kernel
theorem dX7_chain_138 : decode cX7_chain 138 = .ok (.iconst 1, 1) := by decide +kernel
theorem dX7_chain_139 : decode cX7_chain 139 = .ok (.goto 5, 3) := by decide +kernel
theorem dX7_chain_142 : decode cX7_chain 142 = .ok (.bipush (-9), 2) := by decide +kernel
theorem dX7_chain_144 : decode cX7_chain 144 = .ok (.istore 4, 2) := by decide +kernel
theorem dX7_chain_146 : decode cX7_chain 146 = .ok (.aload_n 0, 1) := by decide +kernel
theorem dX7_chain_147 : decode cX7_chain 147 = .ok (.getfield 16, 3) := by decide +kernel
theorem dX7_chain_150 : decode cX7_chain 150 = .ok (.iload 5, 2) := by decide +kernel
theorem dX7_chain_152 : decode cX7_chain 152 = .ok (.iconst 5, 1) := by decide +kernel
theorem dX7_chain_153 : decode cX7_chain 153 = .ok (.iadd, 1) := by decide +kernel
theorem dX7_chain_154 : decode cX7_chain 154 = .ok (.iaload, 1) := by decide +kernel
theorem dX7_chain_155 : decode cX7_chain 155 = .ok (.istore 5, 2) := by decide +kernel
theorem dX7_chain_157 : decode cX7_chain 157 = .ok (.goto (-92), 3) := by decide +kernel
theorem dX7_chain_160 : decode cX7_chain 160 = .ok (.iload_n 2, 1) := by decide +kernel
theorem dX7_chain_161 : decode cX7_chain 161 = .ok (.ifCond .ne 7, 3) := by decide +kernel
theorem dX7_chain_164 : decode cX7_chain 164 = .ok (.iload_n 3, 1) := by decide +kernel
theorem dX7_chain_165 : decode cX7_chain 165 = .ok (.goto 5, 3) := by decide +kernel
theorem dX7_chain_168 : decode cX7_chain 168 = .ok (.iload 4, 2) := by decide +kernel
theorem dX7_chain_170 : decode cX7_chain 170 = .ok (.ireturn, 1) := by decide +kernel
set_option maxRecDepth 20000 in
theorem ggX7_remember_X7_copyEngine : GoodIn wsX7_remember wsX7_copyEngine := goodIn_r _ [7] (by decide +kernel) (by decide +kernel)
set_option maxRecDepth 20000 in
theorem gX7_remember_X7_copyEngine : GoodIn wsX7_remember (va_wsS RX7 135 yX7_copyEngine wsX7_copyEngine) := goodIn_app (goodIn_of _ (by decide +kernel)) ggX7_remember_X7_copyEngine
theorem dX7_remember_0 : decode cX7_remember 0 = .ok (.aload_n 0, 1) := by decide +kernel
theorem dX7_remember_1 : decode cX7_remember 1 = .ok (.getfield 38, 3) := by decide +kernel
theorem dX7_remember_4 : decode cX7_remember 4 = .ok (.bipush 14, 2) := by decide +kernel
theorem dX7_remember_6 : decode cX7_remember 6 = .ok (.if_icmp .ne 44, 3) := by decide +kernel
theorem dX7_remember_9 : decode cX7_remember 9 = .ok (.iconst 0, 1) := by decide +kernel
theorem dX7_remember_10 : decode cX7_remember 10 = .ok (.istore_n 1, 1) := by decide +kernel
theorem dX7_remember_11 : decode cX7_remember 11 = .ok (.iload_n 1, 1) := by decide +kernel
theorem dX7_remember_12 : decode cX7_remember 12 = .ok (.sipush 5551, 3) := by decide +kernel
theorem dX7_remember_15 : decode cX7_remember 15 = .ok (.if_icmp .ge 25, 3) := by decide +kernel
theorem dX7_remember_18 : decode cX7_remember 18 = .ok (.aload_n 0, 1) := by decide +kernel
theorem dX7_remember_19 : decode cX7_remember 19 = .ok (.getfield 22, 3) := by decide +kernel
theorem dX7_remember_22 : decode cX7_remember 22 = .ok (.iload_n 1, 1) := by decide +kernel
theorem dX7_remember_23 : decode cX7_remember 23 = .ok (.aload_n 0, 1) := by decide +kernel
theorem dX7_remember_24 : decode cX7_remember 24 = .ok (.getfield 22, 3) := by decide +kernel
theorem dX7_remember_27 : decode cX7_remember 27 = .ok (.iload_n 1, 1) := by decide +kernel
theorem dX7_remember_28 : decode cX7_remember 28 = .ok (.sipush 427, 3) := by decide +kernel
theorem dX7_remember_31 : decode cX7_remember 31 = .ok (.iadd, 1) := by decide +kernel
theorem dX7_remember_32 : decode cX7_remember 32 = .ok (.iaload, 1) := by decide +kernel
theorem dX7_remember_33 : decode cX7_remember 33 = .ok (.iastore, 1) := by decide +kernel
theorem dX7_remember_34 : decode cX7_remember 34 = .ok (.iinc 1 1, 3) := by decide +kernel
theorem dX7_remember_37 : decode cX7_remember 37 = .ok (.goto (-26), 3) := by decide +kernel
theorem dX7_remember_40 : decode cX7_remember 40 = .ok (.aload_n 0, 1) := by decide +kernel
theorem dX7_remember_41 : decode cX7_remember 41 = .ok (.dup, 1) := by decide +kernel
theorem dX7_remember_42 : decode cX7_remember 42 = .ok (.getfield 38, 3) := by decide +kernel
theorem dX7_remember_45 : decode cX7_remember 45 = .ok (.iconst 1, 1) := by decide +kernel
theorem dX7_remember_46 : decode cX7_remember 46 = .ok (.isub, 1) := by decide +kernel
theorem dX7_remember_47 : decode cX7_remember 47 = .ok (.putfield 38, 3) := by decide +kernel
theorem dX7_remember_50 : decode cX7_remember 50 = .ok (.aload_n 0, 1) := by decide +kernel
theorem dX7_remember_51 : decode cX7_remember 51 = .ok (.getfield 16, 3) := by decide +kernel
theorem dX7_remember_54 : decode cX7_remember 54 = .ok (.iconst 0, 1) := by decide +kernel
theorem dX7_remember_55 : decode cX7_remember 55 = .ok (.aload_n 0, 1) := by decide +kernel
theorem dX7_remember_56 : decode cX7_remember 56 = .ok (.getfield 22, 3) := by decide +kernel
theorem dX7_remember_59 : decode cX7_remember 59 = .ok (.sipush 427, 3) := by decide +kernel
theorem dX7_remember_62 : decode cX7_remember 62 = .ok (.aload_n 0, 1) := by decide +kernel
theorem dX7_remember_63 : decode cX7_remember 63 = .ok (.getfield 38, 3) := by decide +kernel
theorem dX7_remember_66 : decode cX7_remember 66 = .ok (.imul, 1) := by decide +kernel
theorem dX7_remember_67 : decode cX7_remember 67 = .ok (.invokestatic 135, 3) := by decide +kernel
theorem dX7_remember_70 : decode cX7_remember 70 = .ok (.aload_n 0, 1) := by decide +kernel
theorem dX7_remember_71 : decode cX7_remember 71 = .ok (.dup, 1) := by decide +kernel
theorem dX7_remember_72 : decode cX7_remember 72 = .ok (.getfield 38, 3) := by decide +kernel
theorem dX7_remember_75 : decode cX7_remember 75 = .ok (.iconst 1, 1) := by decide +kernel
theorem dX7_remember_76 : decode cX7_remember 76 = .ok (.iadd, 1) := by decide +kernel
theorem dX7_remember_77 : decode cX7_remember 77 = .ok (.putfield 38, 3) := by decide +kernel
theorem dX7_remember_80 : decode cX7_remember 80 = .ok (.return_, 1) := by decide +kernel
set_option maxRecDepth 20000 in
theorem ggX7_poke_X7_isCell : GoodIn wsX7_poke wsX7_isCell := goodIn_r _ [6, 7, 8, 9, 5, 10] (by decide +kernel) (by decide +kernel)
set_option maxRecDepth 20000 in
theorem gX7_poke_X7_isCell : GoodIn wsX7_poke (va_wsS RX7 148 yX7_isCell wsX7_isCell) := goodIn_app (goodIn_of _ (by decide +kernel)) ggX7_poke_X7_isCell
set_option maxRecDepth 20000 in
theorem ggX7_poke_X7_in : GoodIn wsX7_poke wsX7_in := goodIn_r _ [10] (by decide +kernel) (by decide +kernel)
set_option maxRecDepth 20000 in
theorem gX7_poke_X7_in : GoodIn wsX7_poke (va_wsS RX7 47 yX7_in wsX7_in) := goodIn_app (goodIn_of _ (by decide +kernel)) ggX7_poke_X7_in
set_option maxRecDepth 20000 in
theorem ggX7_poke_X7_refused : GoodIn wsX7_poke wsX7_refused := goodIn_r _ [14, 15, 25, 26, 27, 28, 29, 30, 31, 32, 33, 34, 35, 36, 37, 38, 39, 40, 41] (by decide +kernel) (by decide +kernel)
set_option maxRecDepth 20000 in
theorem gX7_poke_X7_refused : GoodIn wsX7_poke (wsV RX7 102 RX7 yX7_refused wsX7_refused) := goodIn_app (goodIn_of _ (by decide +kernel)) ggX7_poke_X7_refused
set_option maxRecDepth 20000 in
theorem ggX7_poke_X7_remember : GoodIn wsX7_poke wsX7_remember := goodIn_r _ [19, 20, 21, 2, 22, 23, 5, 24, 25, 26, 27, 28, 29, 30, 31, 32, 33, 34, 35, 36, 37, 38, 39, 40, 41] (by decide +kernel) (by decide +kernel)
set_option maxRecDepth 20000 in
theorem gX7_poke_X7_remember : GoodIn wsX7_poke (wsV RX7 160 RX7 yX7_remember wsX7_remember) := goodIn_app (goodIn_of _ (by decide +kernel)) ggX7_poke_X7_remember
theorem dX7_poke_0 : decode cX7_poke 0 = .ok (.aload_n 0, 1) := by decide +kernel
theorem dX7_poke_1 : decode cX7_poke 1 = .ok (.iload_n 1, 1) := by decide +kernel
theorem dX7_poke_2 : decode cX7_poke 2 = .ok (.invokestatic 148, 3) := by decide +kernel
theorem dX7_poke_5 : decode cX7_poke 5 = .ok (.ifCond .ne 7, 3) := by decide +kernel
theorem dX7_poke_8 : decode cX7_poke 8 = .ok (.iconst 1, 1) := by decide +kernel
theorem dX7_poke_9 : decode cX7_poke 9 = .ok (.goto 20, 3) := by decide +kernel
theorem dX7_poke_12 : decode cX7_poke 12 = .ok (.iload_n 2, 1) := by decide +kernel
theorem dX7_poke_13 : decode cX7_poke 13 = .ok (.i2l, 1) := by decide +kernel
theorem dX7_poke_14 : decode cX7_poke 14 = .ok (.lconst 0, 1) := by decide +kernel
theorem dX7_poke_15 : decode cX7_poke 15 = .ok (.ldc2_w 158, 3) := by decide +kernel
theorem dX7_poke_18 : decode cX7_poke 18 = .ok (.invokestatic 47, 3) := by decide +kernel
theorem dX7_poke_21 : decode cX7_poke 21 = .ok (.ifCond .eq 7, 3) := by decide +kernel
theorem dX7_poke_24 : decode cX7_poke 24 = .ok (.iconst 0, 1) := by decide +kernel
theorem dX7_poke_25 : decode cX7_poke 25 = .ok (.goto 4, 3) := by decide +kernel
theorem dX7_poke_28 : decode cX7_poke 28 = .ok (.iconst 2, 1) := by decide +kernel
theorem dX7_poke_29 : decode cX7_poke 29 = .ok (.invokevirtual 102, 3) := by decide +kernel
theorem dX7_poke_32 : decode cX7_poke 32 = .ok (.ifCond .eq 5, 3) := by decide +kernel
theorem dX7_poke_35 : decode cX7_poke 35 = .ok (.iconst 0, 1) := by decide +kernel
theorem dX7_poke_36 : decode cX7_poke 36 = .ok (.ireturn, 1) := by decide +kernel
theorem dX7_poke_37 : decode cX7_poke 37 = .ok (.aload_n 0, 1) := by decide +kernel
theorem dX7_poke_38 : decode cX7_poke 38 = .ok (.invokevirtual 160, 3) := by decide +kernel
theorem dX7_poke_41 : decode cX7_poke 41 = .ok (.aload_n 0, 1) := by decide +kernel
theorem dX7_poke_42 : decode cX7_poke 42 = .ok (.getfield 16, 3) := by decide +kernel
theorem dX7_poke_45 : decode cX7_poke 45 = .ok (.iload_n 1, 1) := by decide +kernel
theorem dX7_poke_46 : decode cX7_poke 46 = .ok (.iaload, 1) := by decide +kernel
theorem dX7_poke_47 : decode cX7_poke 47 = .ok (.istore_n 3, 1) := by decide +kernel
theorem dX7_poke_48 : decode cX7_poke 48 = .ok (.aload_n 0, 1) := by decide +kernel
theorem dX7_poke_49 : decode cX7_poke 49 = .ok (.getfield 16, 3) := by decide +kernel
theorem dX7_poke_52 : decode cX7_poke 52 = .ok (.iload_n 1, 1) := by decide +kernel
theorem dX7_poke_53 : decode cX7_poke 53 = .ok (.iload_n 2, 1) := by decide +kernel
theorem dX7_poke_54 : decode cX7_poke 54 = .ok (.iastore, 1) := by decide +kernel
theorem dX7_poke_55 : decode cX7_poke 55 = .ok (.iload_n 3, 1) := by decide +kernel
theorem dX7_poke_56 : decode cX7_poke 56 = .ok (.ireturn, 1) := by decide +kernel
set_option maxRecDepth 20000 in
theorem ggX7_order_X7_in : GoodIn wsX7_order wsX7_in := goodIn_r _ [6] (by decide +kernel) (by decide +kernel)
set_option maxRecDepth 20000 in
theorem gX7_order_X7_in : GoodIn wsX7_order (va_wsS RX7 47 yX7_in wsX7_in) := goodIn_app (goodIn_of _ (by decide +kernel)) ggX7_order_X7_in
set_option maxRecDepth 20000 in
theorem ggX7_order_X7_isCell : GoodIn wsX7_order wsX7_isCell := goodIn_r _ [9, 10, 3, 4, 5, 6] (by decide +kernel) (by decide +kernel)
set_option maxRecDepth 20000 in
theorem gX7_order_X7_isCell : GoodIn wsX7_order (va_wsS RX7 148 yX7_isCell wsX7_isCell) := goodIn_app (goodIn_of _ (by decide +kernel)) ggX7_order_X7_isCell
set_option maxRecDepth 20000 in
theorem ggX7_order_X7_refused : GoodIn wsX7_order wsX7_refused := goodIn_r _ [14, 15, 25, 26, 27, 28, 29, 30, 31, 32, 33, 34, 35, 36, 37, 38, 39, 40, 41] (by decide +kernel) (by decide +kernel)
set_option maxRecDepth 20000 in
theorem gX7_order_X7_refused : GoodIn wsX7_order (wsV RX7 102 RX7 yX7_refused wsX7_refused) := goodIn_app (goodIn_of _ (by decide +kernel)) ggX7_order_X7_refused
set_option maxRecDepth 20000 in
theorem ggX7_order_X7_remember : GoodIn wsX7_order wsX7_remember := goodIn_r _ [19, 20, 21, 2, 22, 23, 5, 24, 25, 26, 27, 28, 29, 30, 31, 32, 33, 34, 35, 36, 37, 38, 39, 40, 41] (by decide +kernel) (by decide +kernel)
set_option maxRecDepth 20000 in
theorem gX7_order_X7_remember : GoodIn wsX7_order (wsV RX7 160 RX7 yX7_remember wsX7_remember) := goodIn_app (goodIn_of _ (by decide +kernel)) ggX7_order_X7_remember
theorem dX7_order_0 : decode cX7_order 0 = .ok (.iload_n 1, 1) := by decide +kernel
theorem dX7_order_1 : decode cX7_order 1 = .ok (.bipush 90, 2) := by decide +kernel
theorem dX7_order_3 : decode cX7_order 3 = .ok (.if_icmp .gt 57, 3) := by decide +kernel
theorem dX7_order_6 : decode cX7_order 6 = .ok (.iload_n 2, 1) := by decide +kernel
theorem dX7_order_7 : decode cX7_order 7 = .ok (.i2l, 1) := by decide +kernel
theorem dX7_order_8 : decode cX7_order 8 = .ok (.lconst 0, 1) := by decide +kernel
theorem dX7_order_9 : decode cX7_order 9 = .ok (.ldc2_w 158, 3) := by decide +kernel
theorem dX7_order_12 : decode cX7_order 12 = .ok (.invokestatic 47, 3) := by decide +kernel
theorem dX7_order_15 : decode cX7_order 15 = .ok (.ifCond .eq 45, 3) := by decide +kernel
theorem dX7_order_18 : decode cX7_order 18 = .ok (.iload_n 3, 1) := by decide +kernel
theorem dX7_order_19 : decode cX7_order 19 = .ok (.i2l, 1) := by decide +kernel
theorem dX7_order_20 : decode cX7_order 20 = .ok (.lconst 0, 1) := by decide +kernel
theorem dX7_order_21 : decode cX7_order 21 = .ok (.ldc2_w 158, 3) := by decide +kernel
theorem dX7_order_24 : decode cX7_order 24 = .ok (.invokestatic 47, 3) := by decide +kernel
theorem dX7_order_27 : decode cX7_order 27 = .ok (.ifCond .eq 33, 3) := by decide +kernel
theorem dX7_order_30 : decode cX7_order 30 = .ok (.iload 4, 2) := by decide +kernel
theorem dX7_order_32 : decode cX7_order 32 = .ok (.i2l, 1) := by decide +kernel
theorem dX7_order_33 : decode cX7_order 33 = .ok (.lconst 0, 1) := by decide +kernel
theorem dX7_order_34 : decode cX7_order 34 = .ok (.ldc2_w 158, 3) := by decide +kernel
theorem dX7_order_37 : decode cX7_order 37 = .ok (.invokestatic 47, 3) := by decide +kernel
theorem dX7_order_40 : decode cX7_order 40 = .ok (.ifCond .eq 20, 3) := by decide +kernel
theorem dX7_order_43 : decode cX7_order 43 = .ok (.iload 5, 2) := by decide +kernel
theorem dX7_order_45 : decode cX7_order 45 = .ok (.i2l, 1) := by decide +kernel
theorem dX7_order_46 : decode cX7_order 46 = .ok (.lconst 0, 1) := by decide +kernel
theorem dX7_order_47 : decode cX7_order 47 = .ok (.ldc2_w 158, 3) := by decide +kernel
theorem dX7_order_50 : decode cX7_order 50 = .ok (.invokestatic 47, 3) := by decide +kernel
theorem dX7_order_53 : decode cX7_order 53 = .ok (.ifCond .eq 7, 3) := by decide +kernel
theorem dX7_order_56 : decode cX7_order 56 = .ok (.iconst 1, 1) := by decide +kernel
theorem dX7_order_57 : decode cX7_order 57 = .ok (.goto 4, 3) := by decide +kernel
theorem dX7_order_60 : decode cX7_order 60 = .ok (.iconst 0, 1) := by decide +kernel
theorem dX7_order_61 : decode cX7_order 61 = .ok (.istore 6, 2) := by decide +kernel
theorem dX7_order_63 : decode cX7_order 63 = .ok (.aload_n 0, 1) := by decide +kernel
theorem dX7_order_64 : decode cX7_order 64 = .ok (.iload_n 1, 1) := by decide +kernel
theorem dX7_order_65 : decode cX7_order 65 = .ok (.invokestatic 148, 3) := by decide +kernel
theorem dX7_order_68 : decode cX7_order 68 = .ok (.ifCond .ne 7, 3) := by decide +kernel
theorem dX7_order_71 : decode cX7_order 71 = .ok (.iconst 1, 1) := by decide +kernel
theorem dX7_order_72 : decode cX7_order 72 = .ok (.goto 13, 3) := by decide +kernel
theorem dX7_order_75 : decode cX7_order 75 = .ok (.iload 6, 2) := by decide +kernel
theorem dX7_order_77 : decode cX7_order 77 = .ok (.ifCond .eq 7, 3) := by decide +kernel
theorem dX7_order_80 : decode cX7_order 80 = .ok (.iconst 0, 1) := by decide +kernel
theorem dX7_order_81 : decode cX7_order 81 = .ok (.goto 4, 3) := by decide +kernel
theorem dX7_order_84 : decode cX7_order 84 = .ok (.iconst 2, 1) := by decide +kernel
theorem dX7_order_85 : decode cX7_order 85 = .ok (.invokevirtual 102, 3) := by decide +kernel
theorem dX7_order_88 : decode cX7_order 88 = .ok (.ifCond .eq 5, 3) := by decide +kernel
theorem dX7_order_91 : decode cX7_order 91 = .ok (.iconst 0, 1) := by decide +kernel
theorem dX7_order_92 : decode cX7_order 92 = .ok (.ireturn, 1) := by decide +kernel
theorem dX7_order_93 : decode cX7_order 93 = .ok (.aload_n 0, 1) := by decide +kernel
theorem dX7_order_94 : decode cX7_order 94 = .ok (.invokevirtual 160, 3) := by decide +kernel
theorem dX7_order_97 : decode cX7_order 97 = .ok (.aload_n 0, 1) := by decide +kernel
theorem dX7_order_98 : decode cX7_order 98 = .ok (.getfield 16, 3) := by decide +kernel
theorem dX7_order_101 : decode cX7_order 101 = .ok (.iload_n 1, 1) := by decide +kernel
theorem dX7_order_102 : decode cX7_order 102 = .ok (.iaload, 1) := by decide +kernel
theorem dX7_order_103 : decode cX7_order 103 = .ok (.istore 7, 2) := by decide +kernel
theorem dX7_order_105 : decode cX7_order 105 = .ok (.aload_n 0, 1) := by decide +kernel
theorem dX7_order_106 : decode cX7_order 106 = .ok (.getfield 16, 3) := by decide +kernel
theorem dX7_order_109 : decode cX7_order 109 = .ok (.iload_n 1, 1) := by decide +kernel
theorem dX7_order_110 : decode cX7_order 110 = .ok (.iload_n 2, 1) := by decide +kernel
theorem dX7_order_111 : decode cX7_order 111 = .ok (.iastore, 1) := by decide +kernel
theorem dX7_order_112 : decode cX7_order 112 = .ok (.aload_n 0, 1) := by decide +kernel
theorem dX7_order_113 : decode cX7_order 113 = .ok (.getfield 16, 3) := by decide +kernel
theorem dX7_order_116 : decode cX7_order 116 = .ok (.iload_n 1, 1) := by decide +kernel
theorem dX7_order_117 : decode cX7_order 117 = .ok (.iconst 1, 1) := by decide +kernel
theorem dX7_order_118 : decode cX7_order 118 = .ok (.iadd, 1) := by decide +kernel
theorem dX7_order_119 : decode cX7_order 119 = .ok (.iload_n 3, 1) := by decide +kernel
theorem dX7_order_120 : decode cX7_order 120 = .ok (.iastore, 1) := by decide +kernel
theorem dX7_order_121 : decode cX7_order 121 = .ok (.aload_n 0, 1) := by decide +kernel
theorem dX7_order_122 : decode cX7_order 122 = .ok (.getfield 16, 3) := by decide +kernel
theorem dX7_order_125 : decode cX7_order 125 = .ok (.iload_n 1, 1) := by decide +kernel
theorem dX7_order_126 : decode cX7_order 126 = .ok (.iconst 2, 1) := by decide +kernel
theorem dX7_order_127 : decode cX7_order 127 = .ok (.iadd, 1) := by decide +kernel
theorem dX7_order_128 : decode cX7_order 128 = .ok (.iload 4, 2) := by decide +kernel
theorem dX7_order_130 : decode cX7_order 130 = .ok (.iastore, 1) := by decide +kernel
theorem dX7_order_131 : decode cX7_order 131 = .ok (.aload_n 0, 1) := by decide +kernel
theorem dX7_order_132 : decode cX7_order 132 = .ok (.getfield 16, 3) := by decide +kernel
theorem dX7_order_135 : decode cX7_order 135 = .ok (.iload_n 1, 1) := by decide +kernel
theorem dX7_order_136 : decode cX7_order 136 = .ok (.iconst 3, 1) := by decide +kernel
theorem dX7_order_137 : decode cX7_order 137 = .ok (.iadd, 1) := by decide +kernel
theorem dX7_order_138 : decode cX7_order 138 = .ok (.iload 5, 2) := by decide +kernel
theorem dX7_order_140 : decode cX7_order 140 = .ok (.iastore, 1) := by decide +kernel
theorem dX7_order_141 : decode cX7_order 141 = .ok (.aload_n 0, 1) := by decide +kernel
theorem dX7_order_142 : decode cX7_order 142 = .ok (.getfield 16, 3) := by decide +kernel
theorem dX7_order_145 : decode cX7_order 145 = .ok (.iload_n 1, 1) := by decide +kernel
theorem dX7_order_146 : decode cX7_order 146 = .ok (.iconst 4, 1) := by decide +kernel
theorem dX7_order_147 : decode cX7_order 147 = .ok (.iadd, 1) := by decide +kernel
theorem dX7_order_148 : decode cX7_order 148 = .ok (.iconst 1, 1) := by decide +kernel
theorem dX7_order_149 : decode cX7_order 149 = .ok (.iastore, 1) := by decide +kernel
theorem dX7_order_150 : decode cX7_order 150 = .ok (.aload_n 0, 1) := by decide +kernel
theorem dX7_order_151 : decode cX7_order 151 = .ok (.getfield 16, 3) := by decide +kernel
theorem dX7_order_154 : decode cX7_order 154 = .ok (.iload_n 1, 1) := by decide +kernel
theorem dX7_order_155 : decode cX7_order 155 = .ok (.iconst 5, 1) := by decide +kernel
theorem dX7_order_156 : decode cX7_order 156 = .ok (.iadd, 1) := by decide +kernel
theorem dX7_order_157 : decode cX7_order 157 = .ok (.iload_n 1, 1) := by decide +kernel
theorem dX7_order_158 : decode cX7_order 158 = .ok (.bipush 6, 2) := by decide +kernel
theorem dX7_order_160 : decode cX7_order 160 = .ok (.iadd, 1) := by decide +kernel
theorem dX7_order_161 : decode cX7_order 161 = .ok (.iastore, 1) := by decide +kernel
theorem dX7_order_162 : decode cX7_order 162 = .ok (.iload 7, 2) := by decide +kernel
theorem dX7_order_164 : decode cX7_order 164 = .ok (.ireturn, 1) := by decide +kernel
theorem dX7_ownOn_0 : decode cX7_ownOn 0 = .ok (.iconst 0, 1) := by decide +kernel
theorem dX7_ownOn_1 : decode cX7_ownOn 1 = .ok (.istore 4, 2) := by decide +kernel
theorem dX7_ownOn_3 : decode cX7_ownOn 3 = .ok (.iload_n 1, 1) := by decide +kernel
theorem dX7_ownOn_4 : decode cX7_ownOn 4 = .ok (.istore 5, 2) := by decide +kernel
theorem dX7_ownOn_6 : decode cX7_ownOn 6 = .ok (.iload 5, 2) := by decide +kernel
theorem dX7_ownOn_8 : decode cX7_ownOn 8 = .ok (.iload_n 1, 1) := by decide +kernel
theorem dX7_ownOn_9 : decode cX7_ownOn 9 = .ok (.iload_n 2, 1) := by decide +kernel
theorem dX7_ownOn_10 : decode cX7_ownOn 10 = .ok (.iadd, 1) := by decide +kernel
theorem dX7_ownOn_11 : decode cX7_ownOn 11 = .ok (.if_icmp .ge 45, 3) := by decide +kernel
theorem dX7_ownOn_14 : decode cX7_ownOn 14 = .ok (.iload 5, 2) := by decide +kernel
theorem dX7_ownOn_16 : decode cX7_ownOn 16 = .ok (.bipush 96, 2) := by decide +kernel
theorem dX7_ownOn_18 : decode cX7_ownOn 18 = .ok (.if_icmp .ge 38, 3) := by decide +kernel
theorem dX7_ownOn_21 : decode cX7_ownOn 21 = .ok (.iload 4, 2) := by decide +kernel
theorem dX7_ownOn_23 : decode cX7_ownOn 23 = .ok (.aload_n 0, 1) := by decide +kernel
theorem dX7_ownOn_24 : decode cX7_ownOn 24 = .ok (.bipush 96, 2) := by decide +kernel
theorem dX7_ownOn_26 : decode cX7_ownOn 26 = .ok (.iload 5, 2) := by decide +kernel
theorem dX7_ownOn_28 : decode cX7_ownOn 28 = .ok (.iadd, 1) := by decide +kernel
theorem dX7_ownOn_29 : decode cX7_ownOn 29 = .ok (.iaload, 1) := by decide +kernel
theorem dX7_ownOn_30 : decode cX7_ownOn 30 = .ok (.iload_n 3, 1) := by decide +kernel
theorem dX7_ownOn_31 : decode cX7_ownOn 31 = .ok (.if_icmp .ne 7, 3) := by decide +kernel
theorem dX7_ownOn_34 : decode cX7_ownOn 34 = .ok (.iconst 0, 1) := by decide +kernel
theorem dX7_ownOn_35 : decode cX7_ownOn 35 = .ok (.goto 4, 3) := by decide +kernel
theorem dX7_ownOn_38 : decode cX7_ownOn 38 = .ok (.iconst 1, 1) := by decide +kernel
theorem dX7_ownOn_39 : decode cX7_ownOn 39 = .ok (.iadd, 1) := by decide +kernel
theorem dX7_ownOn_40 : decode cX7_ownOn 40 = .ok (.istore 4, 2) := by decide +kernel
theorem dX7_ownOn_42 : decode cX7_ownOn 42 = .ok (.aload_n 0, 1) := by decide +kernel
theorem dX7_ownOn_43 : decode cX7_ownOn 43 = .ok (.bipush 96, 2) := by decide +kernel
theorem dX7_ownOn_45 : decode cX7_ownOn 45 = .ok (.iload 5, 2) := by decide +kernel
theorem dX7_ownOn_47 : decode cX7_ownOn 47 = .ok (.iadd, 1) := by decide +kernel
theorem dX7_ownOn_48 : decode cX7_ownOn 48 = .ok (.iload_n 3, 1) := by decide +kernel
theorem dX7_ownOn_49 : decode cX7_ownOn 49 = .ok (.iastore, 1) := by decide +kernel
theorem dX7_ownOn_50 : decode cX7_ownOn 50 = .ok (.iinc 5 1, 3) := by decide +kernel
theorem dX7_ownOn_53 : decode cX7_ownOn 53 = .ok (.goto (-47), 3) := by decide +kernel
theorem dX7_ownOn_56 : decode cX7_ownOn 56 = .ok (.iload 4, 2) := by decide +kernel
theorem dX7_ownOn_58 : decode cX7_ownOn 58 = .ok (.ireturn, 1) := by decide +kernel
set_option maxRecDepth 20000 in
theorem ggX7_own_X7_isCell : GoodIn wsX7_own wsX7_isCell := goodIn_r _ [7, 8, 9, 10, 6, 11] (by decide +kernel) (by decide +kernel)
set_option maxRecDepth 20000 in
theorem gX7_own_X7_isCell : GoodIn wsX7_own (va_wsS RX7 148 yX7_isCell wsX7_isCell) := goodIn_app (goodIn_of _ (by decide +kernel)) ggX7_own_X7_isCell
set_option maxRecDepth 20000 in
theorem ggX7_own_X7_in : GoodIn wsX7_own wsX7_in := goodIn_r _ [11] (by decide +kernel) (by decide +kernel)
set_option maxRecDepth 20000 in
theorem gX7_own_X7_in : GoodIn wsX7_own (va_wsS RX7 47 yX7_in wsX7_in) := goodIn_app (goodIn_of _ (by decide +kernel)) ggX7_own_X7_in
set_option maxRecDepth 20000 in
theorem ggX7_own_X7_refused : GoodIn wsX7_own wsX7_refused := goodIn_r _ [15, 16, 29, 30, 31, 32, 33, 34, 35, 36, 37, 38, 39, 40, 41, 42, 43, 44, 45] (by decide +kernel) (by decide +kernel)
set_option maxRecDepth 20000 in
theorem gX7_own_X7_refused : GoodIn wsX7_own (wsV RX7 102 RX7 yX7_refused wsX7_refused) := goodIn_app (goodIn_of _ (by decide +kernel)) ggX7_own_X7_refused
set_option maxRecDepth 20000 in
theorem ggX7_own_X7_remember : GoodIn wsX7_own wsX7_remember := goodIn_r _ [20, 21, 22, 3, 23, 24, 6, 25, 29, 30, 31, 32, 33, 34, 35, 36, 37, 38, 39, 40, 41, 42, 43, 44, 45] (by decide +kernel) (by decide +kernel)
set_option maxRecDepth 20000 in
theorem gX7_own_X7_remember : GoodIn wsX7_own (wsV RX7 160 RX7 yX7_remember wsX7_remember) := goodIn_app (goodIn_of _ (by decide +kernel)) ggX7_own_X7_remember
set_option maxRecDepth 20000 in
theorem ggX7_own_X7_ownOn : GoodIn wsX7_own wsX7_ownOn := goodIn_r _ [28] (by decide +kernel) (by decide +kernel)
set_option maxRecDepth 20000 in
theorem gX7_own_X7_ownOn : GoodIn wsX7_own (va_wsS RX7 165 yX7_ownOn wsX7_ownOn) := goodIn_app (goodIn_of _ (by decide +kernel)) ggX7_own_X7_ownOn
theorem dX7_own_0 : decode cX7_own 0 = .ok (.aload_n 0, 1) := by decide +kernel
theorem dX7_own_1 : decode cX7_own 1 = .ok (.iload_n 1, 1) := by decide +kernel
theorem dX7_own_2 : decode cX7_own 2 = .ok (.invokestatic 148, 3) := by decide +kernel
theorem dX7_own_5 : decode cX7_own 5 = .ok (.ifCond .ne 7, 3) := by decide +kernel
theorem dX7_own_8 : decode cX7_own 8 = .ok (.iconst 1, 1) := by decide +kernel
theorem dX7_own_9 : decode cX7_own 9 = .ok (.goto 32, 3) := by decide +kernel
theorem dX7_own_12 : decode cX7_own 12 = .ok (.iload_n 2, 1) := by decide +kernel
theorem dX7_own_13 : decode cX7_own 13 = .ok (.i2l, 1) := by decide +kernel
theorem dX7_own_14 : decode cX7_own 14 = .ok (.lconst 1, 1) := by decide +kernel
theorem dX7_own_15 : decode cX7_own 15 = .ok (.ldc2_w 163, 3) := by decide +kernel
theorem dX7_own_18 : decode cX7_own 18 = .ok (.invokestatic 47, 3) := by decide +kernel
theorem dX7_own_21 : decode cX7_own 21 = .ok (.ifCond .eq 19, 3) := by decide +kernel
theorem dX7_own_24 : decode cX7_own 24 = .ok (.iload_n 3, 1) := by decide +kernel
theorem dX7_own_25 : decode cX7_own 25 = .ok (.i2l, 1) := by decide +kernel
theorem dX7_own_26 : decode cX7_own 26 = .ok (.lconst 0, 1) := by decide +kernel
theorem dX7_own_27 : decode cX7_own 27 = .ok (.ldc2_w 151, 3) := by decide +kernel
theorem dX7_own_30 : decode cX7_own 30 = .ok (.invokestatic 47, 3) := by decide +kernel
theorem dX7_own_33 : decode cX7_own 33 = .ok (.ifCond .eq 7, 3) := by decide +kernel
theorem dX7_own_36 : decode cX7_own 36 = .ok (.iconst 0, 1) := by decide +kernel
theorem dX7_own_37 : decode cX7_own 37 = .ok (.goto 4, 3) := by decide +kernel
theorem dX7_own_40 : decode cX7_own 40 = .ok (.iconst 2, 1) := by decide +kernel
theorem dX7_own_41 : decode cX7_own 41 = .ok (.invokevirtual 102, 3) := by decide +kernel
theorem dX7_own_44 : decode cX7_own 44 = .ok (.ifCond .eq 5, 3) := by decide +kernel
theorem dX7_own_47 : decode cX7_own 47 = .ok (.iconst 0, 1) := by decide +kernel
theorem dX7_own_48 : decode cX7_own 48 = .ok (.ireturn, 1) := by decide +kernel
theorem dX7_own_49 : decode cX7_own 49 = .ok (.aload_n 0, 1) := by decide +kernel
theorem dX7_own_50 : decode cX7_own 50 = .ok (.invokevirtual 160, 3) := by decide +kernel
theorem dX7_own_53 : decode cX7_own 53 = .ok (.aload_n 0, 1) := by decide +kernel
theorem dX7_own_54 : decode cX7_own 54 = .ok (.getfield 16, 3) := by decide +kernel
theorem dX7_own_57 : decode cX7_own 57 = .ok (.iload_n 1, 1) := by decide +kernel
theorem dX7_own_58 : decode cX7_own 58 = .ok (.iload_n 2, 1) := by decide +kernel
theorem dX7_own_59 : decode cX7_own 59 = .ok (.iload_n 3, 1) := by decide +kernel
theorem dX7_own_60 : decode cX7_own 60 = .ok (.invokestatic 165, 3) := by decide +kernel
theorem dX7_own_63 : decode cX7_own 63 = .ok (.ireturn, 1) := by decide +kernel
set_option maxRecDepth 20000 in
theorem ggX7_start_X7_isChannel : GoodIn wsX7_start wsX7_isChannel := goodIn_r _ [5, 6, 7, 8, 4, 9] (by decide +kernel) (by decide +kernel)
set_option maxRecDepth 20000 in
theorem gX7_start_X7_isChannel : GoodIn wsX7_start (va_wsS RX7 153 yX7_isChannel wsX7_isChannel) := goodIn_app (goodIn_of _ (by decide +kernel)) ggX7_start_X7_isChannel
set_option maxRecDepth 20000 in
theorem ggX7_start_X7_isCell : GoodIn wsX7_start wsX7_isCell := goodIn_r _ [12, 13, 7, 8, 4, 9] (by decide +kernel) (by decide +kernel)
set_option maxRecDepth 20000 in
theorem gX7_start_X7_isCell : GoodIn wsX7_start (va_wsS RX7 148 yX7_isCell wsX7_isCell) := goodIn_app (goodIn_of _ (by decide +kernel)) ggX7_start_X7_isCell
set_option maxRecDepth 20000 in
theorem ggX7_start_X7_refused : GoodIn wsX7_start wsX7_refused := goodIn_r _ [17, 18, 34, 35, 36, 37, 38, 39, 40, 41, 42, 43, 44, 45, 46, 47, 48, 49, 50] (by decide +kernel) (by decide +kernel)
set_option maxRecDepth 20000 in
theorem gX7_start_X7_refused : GoodIn wsX7_start (wsV RX7 102 RX7 yX7_refused wsX7_refused) := goodIn_app (goodIn_of _ (by decide +kernel)) ggX7_start_X7_refused
set_option maxRecDepth 20000 in
theorem ggX7_start_X7_remember : GoodIn wsX7_start wsX7_remember := goodIn_r _ [22, 23, 24, 1, 25, 26, 4, 27, 34, 35, 36, 37, 38, 39, 40, 41, 42, 43, 44, 45, 46, 47, 48, 49, 50] (by decide +kernel) (by decide +kernel)
set_option maxRecDepth 20000 in
theorem gX7_start_X7_remember : GoodIn wsX7_start (wsV RX7 160 RX7 yX7_remember wsX7_remember) := goodIn_app (goodIn_of _ (by decide +kernel)) ggX7_start_X7_remember
set_option maxRecDepth 20000 in
theorem ggX7_start_X7_at : GoodIn wsX7_start wsX7_at := goodIn_r _ [30] (by decide +kernel) (by decide +kernel)
set_option maxRecDepth 20000 in
theorem gX7_start_X7_at : GoodIn wsX7_start (va_wsS RX7 59 yX7_at wsX7_at) := goodIn_app (goodIn_of _ (by decide +kernel)) ggX7_start_X7_at
set_option maxRecDepth 20000 in
theorem ggX7_start_X7_begin : GoodIn wsX7_start wsX7_begin := goodIn_r _ [33, 28, 29, 4, 30] (by decide +kernel) (by decide +kernel)
set_option maxRecDepth 20000 in
theorem gX7_start_X7_begin : GoodIn wsX7_start (va_wsS RX7 125 yX7_begin wsX7_begin) := goodIn_app (goodIn_of _ (by decide +kernel)) ggX7_start_X7_begin
theorem dX7_start_0 : decode cX7_start 0 = .ok (.aload_n 0, 1) := by decide +kernel
theorem dX7_start_1 : decode cX7_start 1 = .ok (.iload_n 1, 1) := by decide +kernel
theorem dX7_start_2 : decode cX7_start 2 = .ok (.invokestatic 153, 3) := by decide +kernel
theorem dX7_start_5 : decode cX7_start 5 = .ok (.ifCond .eq 14, 3) := by decide +kernel
theorem dX7_start_8 : decode cX7_start 8 = .ok (.iload_n 2, 1) := by decide +kernel
theorem dX7_start_9 : decode cX7_start 9 = .ok (.invokestatic 148, 3) := by decide +kernel
theorem dX7_start_12 : decode cX7_start 12 = .ok (.ifCond .eq 7, 3) := by decide +kernel
theorem dX7_start_15 : decode cX7_start 15 = .ok (.iconst 0, 1) := by decide +kernel
theorem dX7_start_16 : decode cX7_start 16 = .ok (.goto 4, 3) := by decide +kernel
theorem dX7_start_19 : decode cX7_start 19 = .ok (.iconst 1, 1) := by decide +kernel
theorem dX7_start_20 : decode cX7_start 20 = .ok (.invokevirtual 102, 3) := by decide +kernel
theorem dX7_start_23 : decode cX7_start 23 = .ok (.ifCond .eq 5, 3) := by decide +kernel
theorem dX7_start_26 : decode cX7_start 26 = .ok (.iconst 0, 1) := by decide +kernel
theorem dX7_start_27 : decode cX7_start 27 = .ok (.ireturn, 1) := by decide +kernel
theorem dX7_start_28 : decode cX7_start 28 = .ok (.aload_n 0, 1) := by decide +kernel
theorem dX7_start_29 : decode cX7_start 29 = .ok (.invokevirtual 160, 3) := by decide +kernel
theorem dX7_start_32 : decode cX7_start 32 = .ok (.aload_n 0, 1) := by decide +kernel
theorem dX7_start_33 : decode cX7_start 33 = .ok (.getfield 16, 3) := by decide +kernel
theorem dX7_start_36 : decode cX7_start 36 = .ok (.iload_n 1, 1) := by decide +kernel
theorem dX7_start_37 : decode cX7_start 37 = .ok (.invokestatic 59, 3) := by decide +kernel
theorem dX7_start_40 : decode cX7_start 40 = .ok (.iaload, 1) := by decide +kernel
theorem dX7_start_41 : decode cX7_start 41 = .ok (.istore_n 3, 1) := by decide +kernel
theorem dX7_start_42 : decode cX7_start 42 = .ok (.aload_n 0, 1) := by decide +kernel
theorem dX7_start_43 : decode cX7_start 43 = .ok (.getfield 16, 3) := by decide +kernel
theorem dX7_start_46 : decode cX7_start 46 = .ok (.iload_n 1, 1) := by decide +kernel
theorem dX7_start_47 : decode cX7_start 47 = .ok (.iload_n 2, 1) := by decide +kernel
theorem dX7_start_48 : decode cX7_start 48 = .ok (.iconst 1, 1) := by decide +kernel
theorem dX7_start_49 : decode cX7_start 49 = .ok (.invokestatic 125, 3) := by decide +kernel
theorem dX7_start_52 : decode cX7_start 52 = .ok (.iload_n 3, 1) := by decide +kernel
theorem dX7_start_53 : decode cX7_start 53 = .ok (.ireturn, 1) := by decide +kernel
set_option maxRecDepth 20000 in
theorem ggX7_stopOn_X7_at : GoodIn wsX7_stopOn wsX7_at := goodIn_r _ [5] (by decide +kernel) (by decide +kernel)
set_option maxRecDepth 20000 in
theorem gX7_stopOn_X7_at : GoodIn wsX7_stopOn (va_wsS RX7 59 yX7_at wsX7_at) := goodIn_app (goodIn_of _ (by decide +kernel)) ggX7_stopOn_X7_at
set_option maxRecDepth 20000 in
theorem ggX7_stopOn_X7_in : GoodIn wsX7_stopOn wsX7_in := goodIn_r _ [8] (by decide +kernel) (by decide +kernel)
set_option maxRecDepth 20000 in
theorem gX7_stopOn_X7_in : GoodIn wsX7_stopOn (va_wsS RX7 47 yX7_in wsX7_in) := goodIn_app (goodIn_of _ (by decide +kernel)) ggX7_stopOn_X7_in
set_option maxRecDepth 20000 in
theorem ggX7_stopOn_X7_begin : GoodIn wsX7_stopOn wsX7_begin := goodIn_r _ [11, 2, 3, 4, 5] (by decide +kernel) (by decide +kernel)
set_option maxRecDepth 20000 in
theorem gX7_stopOn_X7_begin : GoodIn wsX7_stopOn (va_wsS RX7 125 yX7_begin wsX7_begin) := goodIn_app (goodIn_of _ (by decide +kernel)) ggX7_stopOn_X7_begin
theorem dX7_stopOn_0 : decode cX7_stopOn 0 = .ok (.iload_n 1, 1) := by decide +kernel
theorem dX7_stopOn_1 : decode cX7_stopOn 1 = .ok (.invokestatic 59, 3) := by decide +kernel
theorem dX7_stopOn_4 : decode cX7_stopOn 4 = .ok (.istore_n 2, 1) := by decide +kernel
theorem dX7_stopOn_5 : decode cX7_stopOn 5 = .ok (.aload_n 0, 1) := by decide +kernel
theorem dX7_stopOn_6 : decode cX7_stopOn 6 = .ok (.iload_n 2, 1) := by decide +kernel
theorem dX7_stopOn_7 : decode cX7_stopOn 7 = .ok (.iconst 4, 1) := by decide +kernel
theorem dX7_stopOn_8 : decode cX7_stopOn 8 = .ok (.iadd, 1) := by decide +kernel
theorem dX7_stopOn_9 : decode cX7_stopOn 9 = .ok (.iaload, 1) := by decide +kernel
theorem dX7_stopOn_10 : decode cX7_stopOn 10 = .ok (.i2l, 1) := by decide +kernel
theorem dX7_stopOn_11 : decode cX7_stopOn 11 = .ok (.lconst 1, 1) := by decide +kernel
theorem dX7_stopOn_12 : decode cX7_stopOn 12 = .ok (.ldc2_w 169, 3) := by decide +kernel
theorem dX7_stopOn_15 : decode cX7_stopOn 15 = .ok (.invokestatic 47, 3) := by decide +kernel
theorem dX7_stopOn_18 : decode cX7_stopOn 18 = .ok (.ifCond .eq 19, 3) := by decide +kernel
theorem dX7_stopOn_21 : decode cX7_stopOn 21 = .ok (.aload_n 0, 1) := by decide +kernel
theorem dX7_stopOn_22 : decode cX7_stopOn 22 = .ok (.iload_n 2, 1) := by decide +kernel
theorem dX7_stopOn_23 : decode cX7_stopOn 23 = .ok (.bipush 7, 2) := by decide +kernel
theorem dX7_stopOn_25 : decode cX7_stopOn 25 = .ok (.iadd, 1) := by decide +kernel
theorem dX7_stopOn_26 : decode cX7_stopOn 26 = .ok (.iaload, 1) := by decide +kernel
theorem dX7_stopOn_27 : decode cX7_stopOn 27 = .ok (.aload_n 0, 1) := by decide +kernel
theorem dX7_stopOn_28 : decode cX7_stopOn 28 = .ok (.iload_n 2, 1) := by decide +kernel
theorem dX7_stopOn_29 : decode cX7_stopOn 29 = .ok (.bipush 10, 2) := by decide +kernel
theorem dX7_stopOn_31 : decode cX7_stopOn 31 = .ok (.iadd, 1) := by decide +kernel
theorem dX7_stopOn_32 : decode cX7_stopOn 32 = .ok (.iaload, 1) := by decide +kernel
theorem dX7_stopOn_33 : decode cX7_stopOn 33 = .ok (.isub, 1) := by decide +kernel
theorem dX7_stopOn_34 : decode cX7_stopOn 34 = .ok (.goto 4, 3) := by decide +kernel
theorem dX7_stopOn_37 : decode cX7_stopOn 37 = .ok (.iconst 0, 1) := by decide +kernel
theorem dX7_stopOn_38 : decode cX7_stopOn 38 = .ok (.istore_n 3, 1) := by decide +kernel
theorem dX7_stopOn_39 : decode cX7_stopOn 39 = .ok (.aload_n 0, 1) := by decide +kernel
theorem dX7_stopOn_40 : decode cX7_stopOn 40 = .ok (.iload_n 1, 1) := by decide +kernel
theorem dX7_stopOn_41 : decode cX7_stopOn 41 = .ok (.aload_n 0, 1) := by decide +kernel
theorem dX7_stopOn_42 : decode cX7_stopOn 42 = .ok (.iload_n 2, 1) := by decide +kernel
theorem dX7_stopOn_43 : decode cX7_stopOn 43 = .ok (.iconst 1, 1) := by decide +kernel
theorem dX7_stopOn_44 : decode cX7_stopOn 44 = .ok (.iadd, 1) := by decide +kernel
theorem dX7_stopOn_45 : decode cX7_stopOn 45 = .ok (.iaload, 1) := by decide +kernel
theorem dX7_stopOn_46 : decode cX7_stopOn 46 = .ok (.iconst 0, 1) := by decide +kernel
theorem dX7_stopOn_47 : decode cX7_stopOn 47 = .ok (.invokestatic 125, 3) := by decide +kernel
theorem dX7_stopOn_50 : decode cX7_stopOn 50 = .ok (.iload_n 3, 1) := by decide +kernel
theorem dX7_stopOn_51 : decode cX7_stopOn 51 = .ok (.ireturn, 1) := by decide +kernel
set_option maxRecDepth 20000 in
theorem ggX7_stop_X7_isChannel : GoodIn wsX7_stop wsX7_isChannel := goodIn_r _ [5, 6, 7, 8, 4, 9] (by decide +kernel) (by decide +kernel)
set_option maxRecDepth 20000 in
theorem gX7_stop_X7_isChannel : GoodIn wsX7_stop (va_wsS RX7 153 yX7_isChannel wsX7_isChannel) := goodIn_app (goodIn_of _ (by decide +kernel)) ggX7_stop_X7_isChannel
set_option maxRecDepth 20000 in
theorem ggX7_stop_X7_at : GoodIn wsX7_stop wsX7_at := goodIn_r _ [12] (by decide +kernel) (by decide +kernel)
set_option maxRecDepth 20000 in
theorem gX7_stop_X7_at : GoodIn wsX7_stop (va_wsS RX7 59 yX7_at wsX7_at) := goodIn_app (goodIn_of _ (by decide +kernel)) ggX7_stop_X7_at
set_option maxRecDepth 20000 in
theorem ggX7_stop_X7_refused : GoodIn wsX7_stop wsX7_refused := goodIn_r _ [16, 17, 34, 35, 36, 37, 38, 39, 40, 41, 42, 43, 44, 45, 46, 47, 48, 49, 50] (by decide +kernel) (by decide +kernel)
set_option maxRecDepth 20000 in
theorem gX7_stop_X7_refused : GoodIn wsX7_stop (wsV RX7 102 RX7 yX7_refused wsX7_refused) := goodIn_app (goodIn_of _ (by decide +kernel)) ggX7_stop_X7_refused
set_option maxRecDepth 20000 in
theorem ggX7_stop_X7_remember : GoodIn wsX7_stop wsX7_remember := goodIn_r _ [21, 22, 23, 1, 24, 25, 4, 26, 34, 35, 36, 37, 38, 39, 40, 41, 42, 43, 44, 45, 46, 47, 48, 49, 50] (by decide +kernel) (by decide +kernel)
set_option maxRecDepth 20000 in
theorem gX7_stop_X7_remember : GoodIn wsX7_stop (wsV RX7 160 RX7 yX7_remember wsX7_remember) := goodIn_app (goodIn_of _ (by decide +kernel)) ggX7_stop_X7_remember
set_option maxRecDepth 20000 in
theorem ggX7_stop_X7_stopOn : GoodIn wsX7_stop wsX7_stopOn := goodIn_r _ [29, 30, 10, 11, 4, 12, 7, 8, 9, 31, 32, 33] (by decide +kernel) (by decide +kernel)
set_option maxRecDepth 20000 in
theorem gX7_stop_X7_stopOn : GoodIn wsX7_stop (va_wsS RX7 171 yX7_stopOn wsX7_stopOn) := goodIn_app (goodIn_of _ (by decide +kernel)) ggX7_stop_X7_stopOn
theorem dX7_stop_0 : decode cX7_stop 0 = .ok (.aload_n 0, 1) := by decide +kernel
theorem dX7_stop_1 : decode cX7_stop 1 = .ok (.iload_n 1, 1) := by decide +kernel
theorem dX7_stop_2 : decode cX7_stop 2 = .ok (.invokestatic 153, 3) := by decide +kernel
theorem dX7_stop_5 : decode cX7_stop 5 = .ok (.ifCond .ne 7, 3) := by decide +kernel
theorem dX7_stop_8 : decode cX7_stop 8 = .ok (.iconst 1, 1) := by decide +kernel
theorem dX7_stop_9 : decode cX7_stop 9 = .ok (.goto 21, 3) := by decide +kernel
theorem dX7_stop_12 : decode cX7_stop 12 = .ok (.aload_n 0, 1) := by decide +kernel
theorem dX7_stop_13 : decode cX7_stop 13 = .ok (.getfield 16, 3) := by decide +kernel
theorem dX7_stop_16 : decode cX7_stop 16 = .ok (.iload_n 1, 1) := by decide +kernel
theorem dX7_stop_17 : decode cX7_stop 17 = .ok (.invokestatic 59, 3) := by decide +kernel
theorem dX7_stop_20 : decode cX7_stop 20 = .ok (.iaload, 1) := by decide +kernel
theorem dX7_stop_21 : decode cX7_stop 21 = .ok (.iconst 1, 1) := by decide +kernel
theorem dX7_stop_22 : decode cX7_stop 22 = .ok (.if_icmp .ne 7, 3) := by decide +kernel
theorem dX7_stop_25 : decode cX7_stop 25 = .ok (.iconst 0, 1) := by decide +kernel
theorem dX7_stop_26 : decode cX7_stop 26 = .ok (.goto 4, 3) := by decide +kernel
theorem dX7_stop_29 : decode cX7_stop 29 = .ok (.iconst 2, 1) := by decide +kernel
theorem dX7_stop_30 : decode cX7_stop 30 = .ok (.invokevirtual 102, 3) := by decide +kernel
theorem dX7_stop_33 : decode cX7_stop 33 = .ok (.ifCond .eq 5, 3) := by decide +kernel
theorem dX7_stop_36 : decode cX7_stop 36 = .ok (.iconst 0, 1) := by decide +kernel
theorem dX7_stop_37 : decode cX7_stop 37 = .ok (.ireturn, 1) := by decide +kernel
theorem dX7_stop_38 : decode cX7_stop 38 = .ok (.aload_n 0, 1) := by decide +kernel
theorem dX7_stop_39 : decode cX7_stop 39 = .ok (.invokevirtual 160, 3) := by decide +kernel
theorem dX7_stop_42 : decode cX7_stop 42 = .ok (.aload_n 0, 1) := by decide +kernel
theorem dX7_stop_43 : decode cX7_stop 43 = .ok (.getfield 16, 3) := by decide +kernel
theorem dX7_stop_46 : decode cX7_stop 46 = .ok (.iload_n 1, 1) := by decide +kernel
theorem dX7_stop_47 : decode cX7_stop 47 = .ok (.invokestatic 171, 3) := by decide +kernel
theorem dX7_stop_50 : decode cX7_stop 50 = .ok (.ireturn, 1) := by decide +kernel
set_option maxRecDepth 20000 in
theorem ggX7_run_X7_in : GoodIn wsX7_run wsX7_in := goodIn_r _ [6] (by decide +kernel) (by decide +kernel)
set_option maxRecDepth 20000 in
theorem gX7_run_X7_in : GoodIn wsX7_run (va_wsS RX7 47 yX7_in wsX7_in) := goodIn_app (goodIn_of _ (by decide +kernel)) ggX7_run_X7_in
set_option maxRecDepth 20000 in
theorem ggX7_run_X7_turnOf : GoodIn wsX7_run wsX7_turnOf := goodIn_r _ [9, 10, 11, 5, 12] (by decide +kernel) (by decide +kernel)
set_option maxRecDepth 20000 in
theorem gX7_run_X7_turnOf : GoodIn wsX7_run (va_wsS RX7 78 yX7_turnOf wsX7_turnOf) := goodIn_app (goodIn_of _ (by decide +kernel)) ggX7_run_X7_turnOf
set_option maxRecDepth 20000 in
theorem ggX7_run_X7_refused : GoodIn wsX7_run wsX7_refused := goodIn_r _ [16, 17, 61, 62, 63, 64, 65, 66, 67, 68, 69, 70, 71, 72, 73, 74, 75, 76, 77] (by decide +kernel) (by decide +kernel)
set_option maxRecDepth 20000 in
theorem gX7_run_X7_refused : GoodIn wsX7_run (wsV RX7 102 RX7 yX7_refused wsX7_refused) := goodIn_app (goodIn_of _ (by decide +kernel)) ggX7_run_X7_refused
set_option maxRecDepth 20000 in
theorem ggX7_run_X7_remember : GoodIn wsX7_run wsX7_remember := goodIn_r _ [21, 22, 23, 2, 24, 25, 5, 26, 61, 62, 63, 64, 65, 66, 67, 68, 69, 70, 71, 72, 73, 74, 75, 76, 77] (by decide +kernel) (by decide +kernel)
set_option maxRecDepth 20000 in
theorem gX7_run_X7_remember : GoodIn wsX7_run (wsV RX7 160 RX7 yX7_remember wsX7_remember) := goodIn_app (goodIn_of _ (by decide +kernel)) ggX7_run_X7_remember
set_option maxRecDepth 20000 in
theorem ggX7_run_X7_goOnFor : GoodIn wsX7_run wsX7_goOnFor := goodIn_r _ [30, 31, 32, 33, 5, 34, 7, 8, 9, 10, 11, 12, 35, 36, 37, 38, 39, 40, 41, 42, 43, 44, 45, 46, 47, 48, 49, 50, 51, 52, 53, 54, 55, 56, 57, 58, 59, 60, 61, 62, 63, 64, 65, 66, 67, 68, 69, 70, 71, 72, 73, 74, 75, 76, 77] (by decide +kernel) (by decide +kernel)
set_option maxRecDepth 20000 in
theorem gX7_run_X7_goOnFor : GoodIn wsX7_run (wsV RX7 174 RX7 yX7_goOnFor wsX7_goOnFor) := goodIn_app (goodIn_of _ (by decide +kernel)) ggX7_run_X7_goOnFor
theorem dX7_run_0 : decode cX7_run 0 = .ok (.aload_n 0, 1) := by decide +kernel
theorem dX7_run_1 : decode cX7_run 1 = .ok (.iload_n 1, 1) := by decide +kernel
theorem dX7_run_2 : decode cX7_run 2 = .ok (.i2l, 1) := by decide +kernel
theorem dX7_run_3 : decode cX7_run 3 = .ok (.lconst 1, 1) := by decide +kernel
theorem dX7_run_4 : decode cX7_run 4 = .ok (.ldc2_w 158, 3) := by decide +kernel
theorem dX7_run_7 : decode cX7_run 7 = .ok (.invokestatic 47, 3) := by decide +kernel
theorem dX7_run_10 : decode cX7_run 10 = .ok (.ifCond .ne 7, 3) := by decide +kernel
theorem dX7_run_13 : decode cX7_run 13 = .ok (.iconst 1, 1) := by decide +kernel
theorem dX7_run_14 : decode cX7_run 14 = .ok (.goto 20, 3) := by decide +kernel
theorem dX7_run_17 : decode cX7_run 17 = .ok (.aload_n 0, 1) := by decide +kernel
theorem dX7_run_18 : decode cX7_run 18 = .ok (.getfield 16, 3) := by decide +kernel
theorem dX7_run_21 : decode cX7_run 21 = .ok (.invokestatic 78, 3) := by decide +kernel
theorem dX7_run_24 : decode cX7_run 24 = .ok (.bipush (-9), 2) := by decide +kernel
theorem dX7_run_26 : decode cX7_run 26 = .ok (.if_icmp .ne 7, 3) := by decide +kernel
theorem dX7_run_29 : decode cX7_run 29 = .ok (.iconst 2, 1) := by decide +kernel
theorem dX7_run_30 : decode cX7_run 30 = .ok (.goto 4, 3) := by decide +kernel
theorem dX7_run_33 : decode cX7_run 33 = .ok (.iconst 0, 1) := by decide +kernel
theorem dX7_run_34 : decode cX7_run 34 = .ok (.invokevirtual 102, 3) := by decide +kernel
theorem dX7_run_37 : decode cX7_run 37 = .ok (.ifCond .eq 5, 3) := by decide +kernel
theorem dX7_run_40 : decode cX7_run 40 = .ok (.iconst 0, 1) := by decide +kernel
theorem dX7_run_41 : decode cX7_run 41 = .ok (.ireturn, 1) := by decide +kernel
theorem dX7_run_42 : decode cX7_run 42 = .ok (.aload_n 0, 1) := by decide +kernel
theorem dX7_run_43 : decode cX7_run 43 = .ok (.invokevirtual 160, 3) := by decide +kernel
theorem dX7_run_46 : decode cX7_run 46 = .ok (.aload_n 0, 1) := by decide +kernel
theorem dX7_run_47 : decode cX7_run 47 = .ok (.aload_n 0, 1) := by decide +kernel
theorem dX7_run_48 : decode cX7_run 48 = .ok (.getfield 16, 3) := by decide +kernel
theorem dX7_run_51 : decode cX7_run 51 = .ok (.iload_n 1, 1) := by decide +kernel
theorem dX7_run_52 : decode cX7_run 52 = .ok (.invokevirtual 174, 3) := by decide +kernel
theorem dX7_run_55 : decode cX7_run 55 = .ok (.ireturn, 1) := by decide +kernel
set_option maxRecDepth 20000 in
theorem ggX7_undo_X7_refused : GoodIn wsX7_undo wsX7_refused := goodIn_r _ [8, 9, 13, 14, 15, 16, 17, 18, 19, 20, 21, 22, 23, 24, 25, 26, 27, 28, 29] (by decide +kernel) (by decide +kernel)
set_option maxRecDepth 20000 in
theorem gX7_undo_X7_refused : GoodIn wsX7_undo (wsV RX7 102 RX7 yX7_refused wsX7_refused) := goodIn_app (goodIn_of _ (by decide +kernel)) ggX7_undo_X7_refused
set_option maxRecDepth 20000 in
theorem ggX7_undo_X7_copyEngine : GoodIn wsX7_undo wsX7_copyEngine := goodIn_r _ [12] (by decide +kernel) (by decide +kernel)
set_option maxRecDepth 20000 in
theorem gX7_undo_X7_copyEngine : GoodIn wsX7_undo (va_wsS RX7 135 yX7_copyEngine wsX7_copyEngine) := goodIn_app (goodIn_of _ (by decide +kernel)) ggX7_undo_X7_copyEngine
theorem dX7_undo_0 : decode cX7_undo 0 = .ok (.aload_n 0, 1) := by decide +kernel
theorem dX7_undo_1 : decode cX7_undo 1 = .ok (.aload_n 0, 1) := by decide +kernel
theorem dX7_undo_2 : decode cX7_undo 2 = .ok (.getfield 38, 3) := by decide +kernel
theorem dX7_undo_5 : decode cX7_undo 5 = .ok (.ifCond .ne 7, 3) := by decide +kernel
theorem dX7_undo_8 : decode cX7_undo 8 = .ok (.iconst 1, 1) := by decide +kernel
theorem dX7_undo_9 : decode cX7_undo 9 = .ok (.goto 4, 3) := by decide +kernel
theorem dX7_undo_12 : decode cX7_undo 12 = .ok (.iconst 0, 1) := by decide +kernel
theorem dX7_undo_13 : decode cX7_undo 13 = .ok (.invokevirtual 102, 3) := by decide +kernel
theorem dX7_undo_16 : decode cX7_undo 16 = .ok (.ifCond .eq 5, 3) := by decide +kernel
theorem dX7_undo_19 : decode cX7_undo 19 = .ok (.iconst 0, 1) := by decide +kernel
theorem dX7_undo_20 : decode cX7_undo 20 = .ok (.ireturn, 1) := by decide +kernel
theorem dX7_undo_21 : decode cX7_undo 21 = .ok (.aload_n 0, 1) := by decide +kernel
theorem dX7_undo_22 : decode cX7_undo 22 = .ok (.dup, 1) := by decide +kernel
theorem dX7_undo_23 : decode cX7_undo 23 = .ok (.getfield 38, 3) := by decide +kernel
theorem dX7_undo_26 : decode cX7_undo 26 = .ok (.iconst 1, 1) := by decide +kernel
theorem dX7_undo_27 : decode cX7_undo 27 = .ok (.isub, 1) := by decide +kernel
theorem dX7_undo_28 : decode cX7_undo 28 = .ok (.putfield 38, 3) := by decide +kernel
theorem dX7_undo_31 : decode cX7_undo 31 = .ok (.aload_n 0, 1) := by decide +kernel
theorem dX7_undo_32 : decode cX7_undo 32 = .ok (.getfield 22, 3) := by decide +kernel
theorem dX7_undo_35 : decode cX7_undo 35 = .ok (.sipush 427, 3) := by decide +kernel
theorem dX7_undo_38 : decode cX7_undo 38 = .ok (.aload_n 0, 1) := by decide +kernel
theorem dX7_undo_39 : decode cX7_undo 39 = .ok (.getfield 38, 3) := by decide +kernel
theorem dX7_undo_42 : decode cX7_undo 42 = .ok (.imul, 1) := by decide +kernel
theorem dX7_undo_43 : decode cX7_undo 43 = .ok (.aload_n 0, 1) := by decide +kernel
theorem dX7_undo_44 : decode cX7_undo 44 = .ok (.getfield 16, 3) := by decide +kernel
theorem dX7_undo_47 : decode cX7_undo 47 = .ok (.iconst 0, 1) := by decide +kernel
theorem dX7_undo_48 : decode cX7_undo 48 = .ok (.invokestatic 135, 3) := by decide +kernel
theorem dX7_undo_51 : decode cX7_undo 51 = .ok (.aload_n 0, 1) := by decide +kernel
theorem dX7_undo_52 : decode cX7_undo 52 = .ok (.getfield 38, 3) := by decide +kernel
theorem dX7_undo_55 : decode cX7_undo 55 = .ok (.ireturn, 1) := by decide +kernel
set_option maxRecDepth 20000 in
theorem ggX7_tryNow_X7_copyEngine : GoodIn wsX7_tryNow wsX7_copyEngine := goodIn_r _ [6] (by decide +kernel) (by decide +kernel)
set_option maxRecDepth 20000 in
theorem gX7_tryNow_X7_copyEngine : GoodIn wsX7_tryNow (va_wsS RX7 135 yX7_copyEngine wsX7_copyEngine) := goodIn_app (goodIn_of _ (by decide +kernel)) ggX7_tryNow_X7_copyEngine
set_option maxRecDepth 20000 in
theorem ggX7_tryNow_X7_watch : GoodIn wsX7_tryNow wsX7_watch := goodIn_r _ [10, 11, 12, 13, 14, 15, 16, 17, 18, 19, 20, 21, 22, 23, 24, 25, 26, 27, 28, 29, 30] (by decide +kernel) (by decide +kernel)
set_option maxRecDepth 20000 in
theorem gX7_tryNow_X7_watch : GoodIn wsX7_tryNow (wsV RX7 177 RX7 yX7_watch wsX7_watch) := goodIn_app (goodIn_of _ (by decide +kernel)) ggX7_tryNow_X7_watch
theorem dX7_tryNow_0 : decode cX7_tryNow 0 = .ok (.aload_n 0, 1) := by decide +kernel
theorem dX7_tryNow_1 : decode cX7_tryNow 1 = .ok (.getfield 16, 3) := by decide +kernel
theorem dX7_tryNow_4 : decode cX7_tryNow 4 = .ok (.iconst 0, 1) := by decide +kernel
theorem dX7_tryNow_5 : decode cX7_tryNow 5 = .ok (.aload_n 0, 1) := by decide +kernel
theorem dX7_tryNow_6 : decode cX7_tryNow 6 = .ok (.getfield 19, 3) := by decide +kernel
theorem dX7_tryNow_9 : decode cX7_tryNow 9 = .ok (.iconst 0, 1) := by decide +kernel
theorem dX7_tryNow_10 : decode cX7_tryNow 10 = .ok (.invokestatic 135, 3) := by decide +kernel
theorem dX7_tryNow_13 : decode cX7_tryNow 13 = .ok (.aload_n 0, 1) := by decide +kernel
theorem dX7_tryNow_14 : decode cX7_tryNow 14 = .ok (.invokevirtual 177, 3) := by decide +kernel
theorem dX7_tryNow_17 : decode cX7_tryNow 17 = .ok (.return_, 1) := by decide +kernel
set_option maxRecDepth 20000 in
theorem ggX7_ends_X7_isChannel : GoodIn wsX7_ends wsX7_isChannel := goodIn_r _ [5, 6, 7, 8, 4, 9] (by decide +kernel) (by decide +kernel)
set_option maxRecDepth 20000 in
theorem gX7_ends_X7_isChannel : GoodIn wsX7_ends (va_wsS RX7 153 yX7_isChannel wsX7_isChannel) := goodIn_app (goodIn_of _ (by decide +kernel)) ggX7_ends_X7_isChannel
set_option maxRecDepth 20000 in
theorem ggX7_ends_X7_refused : GoodIn wsX7_ends wsX7_refused := goodIn_r _ [13, 14, 63, 64, 65, 66, 67, 68, 69, 70, 71, 72, 73, 74, 75, 76, 77, 78, 79] (by decide +kernel) (by decide +kernel)
set_option maxRecDepth 20000 in
theorem gX7_ends_X7_refused : GoodIn wsX7_ends (wsV RX7 102 RX7 yX7_refused wsX7_refused) := goodIn_app (goodIn_of _ (by decide +kernel)) ggX7_ends_X7_refused
set_option maxRecDepth 20000 in
theorem ggX7_ends_X7_tryNow : GoodIn wsX7_ends wsX7_tryNow := goodIn_r _ [18, 19, 1, 20, 21, 4, 22, 23, 24, 25, 26, 27, 28, 29, 63, 64, 65, 66, 67, 68, 69, 70, 71, 72, 73, 74, 75, 76, 77, 78, 79] (by decide +kernel) (by decide +kernel)
set_option maxRecDepth 20000 in
theorem gX7_ends_X7_tryNow : GoodIn wsX7_ends (wsV RX7 180 RX7 yX7_tryNow wsX7_tryNow) := goodIn_app (goodIn_of _ (by decide +kernel)) ggX7_ends_X7_tryNow
set_option maxRecDepth 20000 in
theorem ggX7_ends_X7_at : GoodIn wsX7_ends wsX7_at := goodIn_r _ [32] (by decide +kernel) (by decide +kernel)
set_option maxRecDepth 20000 in
theorem gX7_ends_X7_at : GoodIn wsX7_ends (va_wsS RX7 59 yX7_at wsX7_at) := goodIn_app (goodIn_of _ (by decide +kernel)) ggX7_ends_X7_at
set_option maxRecDepth 20000 in
theorem ggX7_ends_X7_goOn : GoodIn wsX7_ends wsX7_goOn := goodIn_r _ [36, 37, 38, 4, 39, 30, 31, 32, 40, 41, 42, 43, 44, 45, 46, 47, 48, 49, 50, 51, 52, 53, 54, 55, 56, 57, 58, 59, 60, 61, 62, 29, 28, 27, 63, 64, 65, 66, 67, 68, 69, 70, 71, 72, 73, 74, 75, 76, 77, 78, 79] (by decide +kernel) (by decide +kernel)
set_option maxRecDepth 20000 in
theorem gX7_ends_X7_goOn : GoodIn wsX7_ends (wsV RX7 93 RX7 yX7_goOn wsX7_goOn) := goodIn_app (goodIn_of _ (by decide +kernel)) ggX7_ends_X7_goOn
theorem dX7_ends_0 : decode cX7_ends 0 = .ok (.aload_n 0, 1) := by decide +kernel
theorem dX7_ends_1 : decode cX7_ends 1 = .ok (.iload_n 1, 1) := by decide +kernel
theorem dX7_ends_2 : decode cX7_ends 2 = .ok (.invokestatic 153, 3) := by decide +kernel
theorem dX7_ends_5 : decode cX7_ends 5 = .ok (.ifCond .eq 7, 3) := by decide +kernel
theorem dX7_ends_8 : decode cX7_ends 8 = .ok (.iconst 0, 1) := by decide +kernel
theorem dX7_ends_9 : decode cX7_ends 9 = .ok (.goto 4, 3) := by decide +kernel
theorem dX7_ends_12 : decode cX7_ends 12 = .ok (.iconst 1, 1) := by decide +kernel
theorem dX7_ends_13 : decode cX7_ends 13 = .ok (.invokevirtual 102, 3) := by decide +kernel
theorem dX7_ends_16 : decode cX7_ends 16 = .ok (.ifCond .eq 5, 3) := by decide +kernel
theorem dX7_ends_19 : decode cX7_ends 19 = .ok (.iconst 0, 1) := by decide +kernel
theorem dX7_ends_20 : decode cX7_ends 20 = .ok (.ireturn, 1) := by decide +kernel
theorem dX7_ends_21 : decode cX7_ends 21 = .ok (.aload_n 0, 1) := by decide +kernel
theorem dX7_ends_22 : decode cX7_ends 22 = .ok (.invokevirtual 180, 3) := by decide +kernel
theorem dX7_ends_25 : decode cX7_ends 25 = .ok (.iconst 0, 1) := by decide +kernel
theorem dX7_ends_26 : decode cX7_ends 26 = .ok (.istore_n 2, 1) := by decide +kernel
theorem dX7_ends_27 : decode cX7_ends 27 = .ok (.iload_n 2, 1) := by decide +kernel
theorem dX7_ends_28 : decode cX7_ends 28 = .ok (.sipush 500, 3) := by decide +kernel
theorem dX7_ends_31 : decode cX7_ends 31 = .ok (.if_icmp .gt 33, 3) := by decide +kernel
theorem dX7_ends_34 : decode cX7_ends 34 = .ok (.aload_n 0, 1) := by decide +kernel
theorem dX7_ends_35 : decode cX7_ends 35 = .ok (.getfield 19, 3) := by decide +kernel
theorem dX7_ends_38 : decode cX7_ends 38 = .ok (.iload_n 1, 1) := by decide +kernel
theorem dX7_ends_39 : decode cX7_ends 39 = .ok (.invokestatic 59, 3) := by decide +kernel
theorem dX7_ends_42 : decode cX7_ends 42 = .ok (.iaload, 1) := by decide +kernel
theorem dX7_ends_43 : decode cX7_ends 43 = .ok (.iconst 1, 1) := by decide +kernel
theorem dX7_ends_44 : decode cX7_ends 44 = .ok (.if_icmp .eq 5, 3) := by decide +kernel
theorem dX7_ends_47 : decode cX7_ends 47 = .ok (.iload_n 2, 1) := by decide +kernel
theorem dX7_ends_48 : decode cX7_ends 48 = .ok (.ireturn, 1) := by decide +kernel
theorem dX7_ends_49 : decode cX7_ends 49 = .ok (.aload_n 0, 1) := by decide +kernel
theorem dX7_ends_50 : decode cX7_ends 50 = .ok (.aload_n 0, 1) := by decide +kernel
theorem dX7_ends_51 : decode cX7_ends 51 = .ok (.getfield 19, 3) := by decide +kernel
theorem dX7_ends_54 : decode cX7_ends 54 = .ok (.invokevirtual 93, 3) := by decide +kernel
theorem dX7_ends_57 : decode cX7_ends 57 = .ok (.pop, 1) := by decide +kernel
theorem dX7_ends_58 : decode cX7_ends 58 = .ok (.iinc 2 1, 3) := by decide +kernel
theorem dX7_ends_61 : decode cX7_ends 61 = .ok (.goto (-34), 3) := by decide +kernel
theorem dX7_ends_64 : decode cX7_ends 64 = .ok (.bipush (-9), 2) := by decide +kernel
theorem dX7_ends_66 : decode cX7_ends 66 = .ok (.ireturn, 1) := by decide +kernel
set_option maxRecDepth 20000 in
theorem ggX7_endOf_X7_isChannel : GoodIn wsX7_endOf wsX7_isChannel := goodIn_r _ [5, 6, 7, 8, 4, 9] (by decide +kernel) (by decide +kernel)
set_option maxRecDepth 20000 in
theorem gX7_endOf_X7_isChannel : GoodIn wsX7_endOf (va_wsS RX7 153 yX7_isChannel wsX7_isChannel) := goodIn_app (goodIn_of _ (by decide +kernel)) ggX7_endOf_X7_isChannel
set_option maxRecDepth 20000 in
theorem ggX7_endOf_X7_refused : GoodIn wsX7_endOf wsX7_refused := goodIn_r _ [13, 14, 67, 68, 69, 70, 71, 72, 73, 74, 75, 76, 77, 78, 79, 80, 81, 82, 83] (by decide +kernel) (by decide +kernel)
set_option maxRecDepth 20000 in
theorem gX7_endOf_X7_refused : GoodIn wsX7_endOf (wsV RX7 102 RX7 yX7_refused wsX7_refused) := goodIn_app (goodIn_of _ (by decide +kernel)) ggX7_endOf_X7_refused
set_option maxRecDepth 20000 in
theorem ggX7_endOf_X7_tryNow : GoodIn wsX7_endOf wsX7_tryNow := goodIn_r _ [18, 19, 1, 20, 21, 4, 22, 23, 24, 25, 26, 27, 28, 29, 67, 68, 69, 70, 71, 72, 73, 74, 75, 76, 77, 78, 79, 80, 81, 82, 83] (by decide +kernel) (by decide +kernel)
set_option maxRecDepth 20000 in
theorem gX7_endOf_X7_tryNow : GoodIn wsX7_endOf (wsV RX7 180 RX7 yX7_tryNow wsX7_tryNow) := goodIn_app (goodIn_of _ (by decide +kernel)) ggX7_endOf_X7_tryNow
set_option maxRecDepth 20000 in
theorem ggX7_endOf_X7_goOnFor : GoodIn wsX7_endOf wsX7_goOnFor := goodIn_r _ [33, 34, 35, 36, 4, 37, 38, 39, 40, 41, 42, 43, 44, 45, 46, 47, 48, 49, 50, 51, 52, 53, 54, 55, 56, 57, 58, 59, 60, 61, 62, 63, 64, 65, 66, 29, 28, 27, 67, 68, 69, 70, 71, 72, 73, 74, 75, 76, 77, 78, 79, 80, 81, 82, 83] (by decide +kernel) (by decide +kernel)
set_option maxRecDepth 20000 in
theorem gX7_endOf_X7_goOnFor : GoodIn wsX7_endOf (wsV RX7 174 RX7 yX7_goOnFor wsX7_goOnFor) := goodIn_app (goodIn_of _ (by decide +kernel)) ggX7_endOf_X7_goOnFor
set_option maxRecDepth 20000 in
theorem ggX7_endOf_X7_at : GoodIn wsX7_endOf wsX7_at := goodIn_r _ [43] (by decide +kernel) (by decide +kernel)
set_option maxRecDepth 20000 in
theorem gX7_endOf_X7_at : GoodIn wsX7_endOf (va_wsS RX7 59 yX7_at wsX7_at) := goodIn_app (goodIn_of _ (by decide +kernel)) ggX7_endOf_X7_at
theorem dX7_endOf_0 : decode cX7_endOf 0 = .ok (.aload_n 0, 1) := by decide +kernel
theorem dX7_endOf_1 : decode cX7_endOf 1 = .ok (.iload_n 1, 1) := by decide +kernel
theorem dX7_endOf_2 : decode cX7_endOf 2 = .ok (.invokestatic 153, 3) := by decide +kernel
theorem dX7_endOf_5 : decode cX7_endOf 5 = .ok (.ifCond .eq 7, 3) := by decide +kernel
theorem dX7_endOf_8 : decode cX7_endOf 8 = .ok (.iconst 0, 1) := by decide +kernel
theorem dX7_endOf_9 : decode cX7_endOf 9 = .ok (.goto 4, 3) := by decide +kernel
theorem dX7_endOf_12 : decode cX7_endOf 12 = .ok (.iconst 1, 1) := by decide +kernel
theorem dX7_endOf_13 : decode cX7_endOf 13 = .ok (.invokevirtual 102, 3) := by decide +kernel
theorem dX7_endOf_16 : decode cX7_endOf 16 = .ok (.ifCond .eq 5, 3) := by decide +kernel
theorem dX7_endOf_19 : decode cX7_endOf 19 = .ok (.iconst 0, 1) := by decide +kernel
theorem dX7_endOf_20 : decode cX7_endOf 20 = .ok (.ireturn, 1) := by decide +kernel
theorem dX7_endOf_21 : decode cX7_endOf 21 = .ok (.aload_n 0, 1) := by decide +kernel
theorem dX7_endOf_22 : decode cX7_endOf 22 = .ok (.invokevirtual 180, 3) := by decide +kernel
theorem dX7_endOf_25 : decode cX7_endOf 25 = .ok (.aload_n 0, 1) := by decide +kernel
theorem dX7_endOf_26 : decode cX7_endOf 26 = .ok (.aload_n 0, 1) := by decide +kernel
theorem dX7_endOf_27 : decode cX7_endOf 27 = .ok (.getfield 19, 3) := by decide +kernel
theorem dX7_endOf_30 : decode cX7_endOf 30 = .ok (.sipush 500, 3) := by decide +kernel
theorem dX7_endOf_33 : decode cX7_endOf 33 = .ok (.invokevirtual 174, 3) := by decide +kernel
theorem dX7_endOf_36 : decode cX7_endOf 36 = .ok (.pop, 1) := by decide +kernel
theorem dX7_endOf_37 : decode cX7_endOf 37 = .ok (.aload_n 0, 1) := by decide +kernel
theorem dX7_endOf_38 : decode cX7_endOf 38 = .ok (.getfield 19, 3) := by decide +kernel
theorem dX7_endOf_41 : decode cX7_endOf 41 = .ok (.iload_n 1, 1) := by decide +kernel
theorem dX7_endOf_42 : decode cX7_endOf 42 = .ok (.invokestatic 59, 3) := by decide +kernel
theorem dX7_endOf_45 : decode cX7_endOf 45 = .ok (.iaload, 1) := by decide +kernel
theorem dX7_endOf_46 : decode cX7_endOf 46 = .ok (.istore_n 2, 1) := by decide +kernel
theorem dX7_endOf_47 : decode cX7_endOf 47 = .ok (.iload_n 2, 1) := by decide +kernel
theorem dX7_endOf_48 : decode cX7_endOf 48 = .ok (.iconst 3, 1) := by decide +kernel
theorem dX7_endOf_49 : decode cX7_endOf 49 = .ok (.if_icmp .ne 17, 3) := by decide +kernel
theorem dX7_endOf_52 : decode cX7_endOf 52 = .ok (.aload_n 0, 1) := by decide +kernel
theorem dX7_endOf_53 : decode cX7_endOf 53 = .ok (.getfield 19, 3) := by decide +kernel
theorem dX7_endOf_56 : decode cX7_endOf 56 = .ok (.iload_n 1, 1) := by decide +kernel
theorem dX7_endOf_57 : decode cX7_endOf 57 = .ok (.invokestatic 59, 3) := by decide +kernel
theorem dX7_endOf_60 : decode cX7_endOf 60 = .ok (.iconst 2, 1) := by decide +kernel
theorem dX7_endOf_61 : decode cX7_endOf 61 = .ok (.iadd, 1) := by decide +kernel
theorem dX7_endOf_62 : decode cX7_endOf 62 = .ok (.iaload, 1) := by decide +kernel
theorem dX7_endOf_63 : decode cX7_endOf 63 = .ok (.goto 14, 3) := by decide +kernel
theorem dX7_endOf_66 : decode cX7_endOf 66 = .ok (.iload_n 2, 1) := by decide +kernel
theorem dX7_endOf_67 : decode cX7_endOf 67 = .ok (.iconst 2, 1) := by decide +kernel
theorem dX7_endOf_68 : decode cX7_endOf 68 = .ok (.if_icmp .ne 7, 3) := by decide +kernel
theorem dX7_endOf_71 : decode cX7_endOf 71 = .ok (.iconst 0, 1) := by decide +kernel
theorem dX7_endOf_72 : decode cX7_endOf 72 = .ok (.goto 5, 3) := by decide +kernel
theorem dX7_endOf_75 : decode cX7_endOf 75 = .ok (.bipush (-9), 2) := by decide +kernel
theorem dX7_endOf_77 : decode cX7_endOf 77 = .ok (.ireturn, 1) := by decide +kernel
set_option maxRecDepth 20000 in
theorem ggX7_later_X7_isCell : GoodIn wsX7_later wsX7_isCell := goodIn_r _ [6, 7, 8, 9, 5, 10] (by decide +kernel) (by decide +kernel)
set_option maxRecDepth 20000 in
theorem gX7_later_X7_isCell : GoodIn wsX7_later (va_wsS RX7 148 yX7_isCell wsX7_isCell) := goodIn_app (goodIn_of _ (by decide +kernel)) ggX7_later_X7_isCell
set_option maxRecDepth 20000 in
theorem ggX7_later_X7_in : GoodIn wsX7_later wsX7_in := goodIn_r _ [10] (by decide +kernel) (by decide +kernel)
set_option maxRecDepth 20000 in
theorem gX7_later_X7_in : GoodIn wsX7_later (va_wsS RX7 47 yX7_in wsX7_in) := goodIn_app (goodIn_of _ (by decide +kernel)) ggX7_later_X7_in
set_option maxRecDepth 20000 in
theorem ggX7_later_X7_refused : GoodIn wsX7_later wsX7_refused := goodIn_r _ [14, 15, 68, 69, 70, 71, 72, 73, 74, 75, 76, 77, 78, 79, 80, 81, 82, 83, 84] (by decide +kernel) (by decide +kernel)
set_option maxRecDepth 20000 in
theorem gX7_later_X7_refused : GoodIn wsX7_later (wsV RX7 102 RX7 yX7_refused wsX7_refused) := goodIn_app (goodIn_of _ (by decide +kernel)) ggX7_later_X7_refused
set_option maxRecDepth 20000 in
theorem ggX7_later_X7_tryNow : GoodIn wsX7_later wsX7_tryNow := goodIn_r _ [19, 20, 2, 21, 22, 5, 23, 24, 25, 26, 27, 28, 29, 30, 68, 69, 70, 71, 72, 73, 74, 75, 76, 77, 78, 79, 80, 81, 82, 83, 84] (by decide +kernel) (by decide +kernel)
set_option maxRecDepth 20000 in
theorem gX7_later_X7_tryNow : GoodIn wsX7_later (wsV RX7 180 RX7 yX7_tryNow wsX7_tryNow) := goodIn_app (goodIn_of _ (by decide +kernel)) ggX7_later_X7_tryNow
set_option maxRecDepth 20000 in
theorem ggX7_later_X7_goOnFor : GoodIn wsX7_later wsX7_goOnFor := goodIn_r _ [34, 35, 36, 37, 5, 38, 39, 40, 41, 42, 43, 44, 45, 46, 47, 48, 49, 50, 51, 52, 53, 54, 55, 56, 57, 58, 59, 60, 61, 62, 63, 64, 65, 66, 67, 30, 29, 28, 68, 69, 70, 71, 72, 73, 74, 75, 76, 77, 78, 79, 80, 81, 82, 83, 84] (by decide +kernel) (by decide +kernel)
set_option maxRecDepth 20000 in
theorem gX7_later_X7_goOnFor : GoodIn wsX7_later (wsV RX7 174 RX7 yX7_goOnFor wsX7_goOnFor) := goodIn_app (goodIn_of _ (by decide +kernel)) ggX7_later_X7_goOnFor
theorem dX7_later_0 : decode cX7_later 0 = .ok (.aload_n 0, 1) := by decide +kernel
theorem dX7_later_1 : decode cX7_later 1 = .ok (.iload_n 1, 1) := by decide +kernel
theorem dX7_later_2 : decode cX7_later 2 = .ok (.invokestatic 148, 3) := by decide +kernel
theorem dX7_later_5 : decode cX7_later 5 = .ok (.ifCond .ne 7, 3) := by decide +kernel
theorem dX7_later_8 : decode cX7_later 8 = .ok (.iconst 1, 1) := by decide +kernel
theorem dX7_later_9 : decode cX7_later 9 = .ok (.goto 20, 3) := by decide +kernel
theorem dX7_later_12 : decode cX7_later 12 = .ok (.iload_n 2, 1) := by decide +kernel
theorem dX7_later_13 : decode cX7_later 13 = .ok (.i2l, 1) := by decide +kernel
theorem dX7_later_14 : decode cX7_later 14 = .ok (.lconst 0, 1) := by decide +kernel
theorem dX7_later_15 : decode cX7_later 15 = .ok (.ldc2_w 183, 3) := by decide +kernel
theorem dX7_later_18 : decode cX7_later 18 = .ok (.invokestatic 47, 3) := by decide +kernel
theorem dX7_later_21 : decode cX7_later 21 = .ok (.ifCond .eq 7, 3) := by decide +kernel
theorem dX7_later_24 : decode cX7_later 24 = .ok (.iconst 0, 1) := by decide +kernel
theorem dX7_later_25 : decode cX7_later 25 = .ok (.goto 4, 3) := by decide +kernel
theorem dX7_later_28 : decode cX7_later 28 = .ok (.iconst 2, 1) := by decide +kernel
theorem dX7_later_29 : decode cX7_later 29 = .ok (.invokevirtual 102, 3) := by decide +kernel
theorem dX7_later_32 : decode cX7_later 32 = .ok (.ifCond .eq 5, 3) := by decide +kernel
theorem dX7_later_35 : decode cX7_later 35 = .ok (.iconst 0, 1) := by decide +kernel
theorem dX7_later_36 : decode cX7_later 36 = .ok (.ireturn, 1) := by decide +kernel
theorem dX7_later_37 : decode cX7_later 37 = .ok (.aload_n 0, 1) := by decide +kernel
theorem dX7_later_38 : decode cX7_later 38 = .ok (.invokevirtual 180, 3) := by decide +kernel
theorem dX7_later_41 : decode cX7_later 41 = .ok (.aload_n 0, 1) := by decide +kernel
theorem dX7_later_42 : decode cX7_later 42 = .ok (.aload_n 0, 1) := by decide +kernel
theorem dX7_later_43 : decode cX7_later 43 = .ok (.getfield 19, 3) := by decide +kernel
theorem dX7_later_46 : decode cX7_later 46 = .ok (.iload_n 2, 1) := by decide +kernel
theorem dX7_later_47 : decode cX7_later 47 = .ok (.invokevirtual 174, 3) := by decide +kernel
theorem dX7_later_50 : decode cX7_later 50 = .ok (.pop, 1) := by decide +kernel
theorem dX7_later_51 : decode cX7_later 51 = .ok (.aload_n 0, 1) := by decide +kernel
theorem dX7_later_52 : decode cX7_later 52 = .ok (.getfield 19, 3) := by decide +kernel
theorem dX7_later_55 : decode cX7_later 55 = .ok (.iload_n 1, 1) := by decide +kernel
theorem dX7_later_56 : decode cX7_later 56 = .ok (.iaload, 1) := by decide +kernel
theorem dX7_later_57 : decode cX7_later 57 = .ok (.ireturn, 1) := by decide +kernel
set_option maxRecDepth 20000 in
theorem ggX7_contested_X7_in : GoodIn wsX7_contested wsX7_in := goodIn_r _ [7] (by decide +kernel) (by decide +kernel)
set_option maxRecDepth 20000 in
theorem gX7_contested_X7_in : GoodIn wsX7_contested (va_wsS RX7 47 yX7_in wsX7_in) := goodIn_app (goodIn_of _ (by decide +kernel)) ggX7_contested_X7_in
set_option maxRecDepth 20000 in
theorem ggX7_contested_X7_refused : GoodIn wsX7_contested wsX7_refused := goodIn_r _ [11, 12, 64, 65, 66, 67, 68, 69, 70, 71, 72, 73, 74, 75, 76, 77, 78, 79, 80] (by decide +kernel) (by decide +kernel)
set_option maxRecDepth 20000 in
theorem gX7_contested_X7_refused : GoodIn wsX7_contested (wsV RX7 102 RX7 yX7_refused wsX7_refused) := goodIn_app (goodIn_of _ (by decide +kernel)) ggX7_contested_X7_refused
set_option maxRecDepth 20000 in
theorem ggX7_contested_X7_tryNow : GoodIn wsX7_contested wsX7_tryNow := goodIn_r _ [16, 17, 2, 18, 19, 6, 20, 21, 22, 23, 24, 3, 25, 26, 64, 65, 66, 67, 68, 69, 70, 71, 72, 73, 74, 75, 76, 77, 78, 79, 80] (by decide +kernel) (by decide +kernel)
set_option maxRecDepth 20000 in
theorem gX7_contested_X7_tryNow : GoodIn wsX7_contested (wsV RX7 180 RX7 yX7_tryNow wsX7_tryNow) := goodIn_app (goodIn_of _ (by decide +kernel)) ggX7_contested_X7_tryNow
set_option maxRecDepth 20000 in
theorem ggX7_contested_X7_goOnFor : GoodIn wsX7_contested wsX7_goOnFor := goodIn_r _ [30, 31, 32, 33, 6, 34, 35, 36, 37, 38, 39, 40, 41, 42, 43, 44, 45, 46, 47, 48, 49, 50, 51, 52, 53, 54, 55, 56, 57, 58, 59, 60, 61, 62, 63, 26, 25, 3, 64, 65, 66, 67, 68, 69, 70, 71, 72, 73, 74, 75, 76, 77, 78, 79, 80] (by decide +kernel) (by decide +kernel)
set_option maxRecDepth 20000 in
theorem gX7_contested_X7_goOnFor : GoodIn wsX7_contested (wsV RX7 174 RX7 yX7_goOnFor wsX7_goOnFor) := goodIn_app (goodIn_of _ (by decide +kernel)) ggX7_contested_X7_goOnFor
theorem dX7_contested_0 : decode cX7_contested 0 = .ok (.aload_n 0, 1) := by decide +kernel
theorem dX7_contested_1 : decode cX7_contested 1 = .ok (.iload_n 1, 1) := by decide +kernel
theorem dX7_contested_2 : decode cX7_contested 2 = .ok (.i2l, 1) := by decide +kernel
theorem dX7_contested_3 : decode cX7_contested 3 = .ok (.lconst 0, 1) := by decide +kernel
theorem dX7_contested_4 : decode cX7_contested 4 = .ok (.ldc2_w 183, 3) := by decide +kernel
theorem dX7_contested_7 : decode cX7_contested 7 = .ok (.invokestatic 47, 3) := by decide +kernel
theorem dX7_contested_10 : decode cX7_contested 10 = .ok (.ifCond .eq 7, 3) := by decide +kernel
theorem dX7_contested_13 : decode cX7_contested 13 = .ok (.iconst 0, 1) := by decide +kernel
theorem dX7_contested_14 : decode cX7_contested 14 = .ok (.goto 4, 3) := by decide +kernel
theorem dX7_contested_17 : decode cX7_contested 17 = .ok (.iconst 1, 1) := by decide +kernel
theorem dX7_contested_18 : decode cX7_contested 18 = .ok (.invokevirtual 102, 3) := by decide +kernel
theorem dX7_contested_21 : decode cX7_contested 21 = .ok (.ifCond .eq 5, 3) := by decide +kernel
theorem dX7_contested_24 : decode cX7_contested 24 = .ok (.iconst 0, 1) := by decide +kernel
theorem dX7_contested_25 : decode cX7_contested 25 = .ok (.ireturn, 1) := by decide +kernel
theorem dX7_contested_26 : decode cX7_contested 26 = .ok (.aload_n 0, 1) := by decide +kernel
theorem dX7_contested_27 : decode cX7_contested 27 = .ok (.invokevirtual 180, 3) := by decide +kernel
theorem dX7_contested_30 : decode cX7_contested 30 = .ok (.aload_n 0, 1) := by decide +kernel
theorem dX7_contested_31 : decode cX7_contested 31 = .ok (.aload_n 0, 1) := by decide +kernel
theorem dX7_contested_32 : decode cX7_contested 32 = .ok (.getfield 19, 3) := by decide +kernel
theorem dX7_contested_35 : decode cX7_contested 35 = .ok (.iload_n 1, 1) := by decide +kernel
theorem dX7_contested_36 : decode cX7_contested 36 = .ok (.invokevirtual 174, 3) := by decide +kernel
theorem dX7_contested_39 : decode cX7_contested 39 = .ok (.pop, 1) := by decide +kernel
theorem dX7_contested_40 : decode cX7_contested 40 = .ok (.iconst 0, 1) := by decide +kernel
theorem dX7_contested_41 : decode cX7_contested 41 = .ok (.istore_n 2, 1) := by decide +kernel
theorem dX7_contested_42 : decode cX7_contested 42 = .ok (.iconst 0, 1) := by decide +kernel
theorem dX7_contested_43 : decode cX7_contested 43 = .ok (.istore_n 3, 1) := by decide +kernel
theorem dX7_contested_44 : decode cX7_contested 44 = .ok (.iload_n 3, 1) := by decide +kernel
theorem dX7_contested_45 : decode cX7_contested 45 = .ok (.bipush 96, 2) := by decide +kernel
theorem dX7_contested_47 : decode cX7_contested 47 = .ok (.if_icmp .ge 37, 3) := by decide +kernel
theorem dX7_contested_50 : decode cX7_contested 50 = .ok (.iload_n 2, 1) := by decide +kernel
theorem dX7_contested_51 : decode cX7_contested 51 = .ok (.aload_n 0, 1) := by decide +kernel
theorem dX7_contested_52 : decode cX7_contested 52 = .ok (.getfield 32, 3) := by decide +kernel
theorem dX7_contested_55 : decode cX7_contested 55 = .ok (.iload_n 3, 1) := by decide +kernel
theorem dX7_contested_56 : decode cX7_contested 56 = .ok (.iaload, 1) := by decide +kernel
theorem dX7_contested_57 : decode cX7_contested 57 = .ok (.iconst 2, 1) := by decide +kernel
theorem dX7_contested_58 : decode cX7_contested 58 = .ok (.if_icmp .le 17, 3) := by decide +kernel
theorem dX7_contested_61 : decode cX7_contested 61 = .ok (.aload_n 0, 1) := by decide +kernel
theorem dX7_contested_62 : decode cX7_contested 62 = .ok (.getfield 32, 3) := by decide +kernel
theorem dX7_contested_65 : decode cX7_contested 65 = .ok (.iload_n 3, 1) := by decide +kernel
theorem dX7_contested_66 : decode cX7_contested 66 = .ok (.iaload, 1) := by decide +kernel
theorem dX7_contested_67 : decode cX7_contested 67 = .ok (.iconst 4, 1) := by decide +kernel
theorem dX7_contested_68 : decode cX7_contested 68 = .ok (.if_icmp .eq 7, 3) := by decide +kernel
theorem dX7_contested_71 : decode cX7_contested 71 = .ok (.iconst 1, 1) := by decide +kernel
theorem dX7_contested_72 : decode cX7_contested 72 = .ok (.goto 4, 3) := by decide +kernel
theorem dX7_contested_75 : decode cX7_contested 75 = .ok (.iconst 0, 1) := by decide +kernel
theorem dX7_contested_76 : decode cX7_contested 76 = .ok (.iadd, 1) := by decide +kernel
theorem dX7_contested_77 : decode cX7_contested 77 = .ok (.istore_n 2, 1) := by decide +kernel
theorem dX7_contested_78 : decode cX7_contested 78 = .ok (.iinc 3 1, 3) := by decide +kernel
theorem dX7_contested_81 : decode cX7_contested 81 = .ok (.goto (-37), 3) := by decide +kernel
theorem dX7_contested_84 : decode cX7_contested 84 = .ok (.iload_n 2, 1) := by decide +kernel
theorem dX7_contested_85 : decode cX7_contested 85 = .ok (.ireturn, 1) := by decide +kernel
set_option maxRecDepth 20000 in
theorem ggX7_firstEdit_X7_tryNow : GoodIn wsX7_firstEdit wsX7_tryNow := goodIn_r _ [8, 9, 2, 10, 11, 7, 12, 13, 14, 15, 16, 17, 3, 1, 51, 52, 53, 54, 55, 56, 57, 58, 59, 60, 61, 62, 63, 64, 65, 66, 67] (by decide +kernel) (by decide +kernel)
set_option maxRecDepth 20000 in
theorem gX7_firstEdit_X7_tryNow : GoodIn wsX7_firstEdit (wsV RX7 180 RX7 yX7_tryNow wsX7_tryNow) := goodIn_app (goodIn_of _ (by decide +kernel)) ggX7_firstEdit_X7_tryNow
set_option maxRecDepth 20000 in
theorem ggX7_firstEdit_X7_goOn : GoodIn wsX7_firstEdit wsX7_goOn := goodIn_r _ [21, 22, 23, 7, 24, 25, 26, 27, 28, 29, 30, 31, 32, 33, 34, 35, 36, 37, 38, 39, 40, 41, 42, 43, 44, 45, 46, 47, 48, 49, 50, 1, 3, 17, 51, 52, 53, 54, 55, 56, 57, 58, 59, 60, 61, 62, 63, 64, 65, 66, 67] (by decide +kernel) (by decide +kernel)
set_option maxRecDepth 20000 in
theorem gX7_firstEdit_X7_goOn : GoodIn wsX7_firstEdit (wsV RX7 93 RX7 yX7_goOn wsX7_goOn) := goodIn_app (goodIn_of _ (by decide +kernel)) ggX7_firstEdit_X7_goOn
theorem dX7_firstEdit_0 : decode cX7_firstEdit 0 = .ok (.aload_n 0, 1) := by decide +kernel
theorem dX7_firstEdit_1 : decode cX7_firstEdit 1 = .ok (.invokevirtual 180, 3) := by decide +kernel
theorem dX7_firstEdit_4 : decode cX7_firstEdit 4 = .ok (.iconst 0, 1) := by decide +kernel
theorem dX7_firstEdit_5 : decode cX7_firstEdit 5 = .ok (.istore_n 1, 1) := by decide +kernel
theorem dX7_firstEdit_6 : decode cX7_firstEdit 6 = .ok (.iload_n 1, 1) := by decide +kernel
theorem dX7_firstEdit_7 : decode cX7_firstEdit 7 = .ok (.sipush 500, 3) := by decide +kernel
theorem dX7_firstEdit_10 : decode cX7_firstEdit 10 = .ok (.if_icmp .ge 27, 3) := by decide +kernel
theorem dX7_firstEdit_13 : decode cX7_firstEdit 13 = .ok (.aload_n 0, 1) := by decide +kernel
theorem dX7_firstEdit_14 : decode cX7_firstEdit 14 = .ok (.getfield 56, 3) := by decide +kernel
theorem dX7_firstEdit_17 : decode cX7_firstEdit 17 = .ok (.bipush (-9), 2) := by decide +kernel
theorem dX7_firstEdit_19 : decode cX7_firstEdit 19 = .ok (.if_icmp .ne 18, 3) := by decide +kernel
theorem dX7_firstEdit_22 : decode cX7_firstEdit 22 = .ok (.aload_n 0, 1) := by decide +kernel
theorem dX7_firstEdit_23 : decode cX7_firstEdit 23 = .ok (.aload_n 0, 1) := by decide +kernel
theorem dX7_firstEdit_24 : decode cX7_firstEdit 24 = .ok (.getfield 19, 3) := by decide +kernel
theorem dX7_firstEdit_27 : decode cX7_firstEdit 27 = .ok (.invokevirtual 93, 3) := by decide +kernel
theorem dX7_firstEdit_30 : decode cX7_firstEdit 30 = .ok (.pop, 1) := by decide +kernel
theorem dX7_firstEdit_31 : decode cX7_firstEdit 31 = .ok (.iinc 1 1, 3) := by decide +kernel
theorem dX7_firstEdit_34 : decode cX7_firstEdit 34 = .ok (.goto (-28), 3) := by decide +kernel
theorem dX7_firstEdit_37 : decode cX7_firstEdit 37 = .ok (.aload_n 0, 1) := by decide +kernel
theorem dX7_firstEdit_38 : decode cX7_firstEdit 38 = .ok (.getfield 56, 3) := by decide +kernel
theorem dX7_firstEdit_41 : decode cX7_firstEdit 41 = .ok (.bipush (-9), 2) := by decide +kernel
theorem dX7_firstEdit_43 : decode cX7_firstEdit 43 = .ok (.if_icmp .ne 8, 3) := by decide +kernel
theorem dX7_firstEdit_46 : decode cX7_firstEdit 46 = .ok (.bipush (-9), 2) := by decide +kernel
theorem dX7_firstEdit_48 : decode cX7_firstEdit 48 = .ok (.goto 15, 3) := by decide +kernel
theorem dX7_firstEdit_51 : decode cX7_firstEdit 51 = .ok (.bipush 100, 2) := by decide +kernel
theorem dX7_firstEdit_53 : decode cX7_firstEdit 53 = .ok (.aload_n 0, 1) := by decide +kernel
theorem dX7_firstEdit_54 : decode cX7_firstEdit 54 = .ok (.getfield 53, 3) := by decide +kernel
theorem dX7_firstEdit_57 : decode cX7_firstEdit 57 = .ok (.imul, 1) := by decide +kernel
theorem dX7_firstEdit_58 : decode cX7_firstEdit 58 = .ok (.aload_n 0, 1) := by decide +kernel
theorem dX7_firstEdit_59 : decode cX7_firstEdit 59 = .ok (.getfield 56, 3) := by decide +kernel
theorem dX7_firstEdit_62 : decode cX7_firstEdit 62 = .ok (.iadd, 1) := by decide +kernel
theorem dX7_firstEdit_63 : decode cX7_firstEdit 63 = .ok (.ireturn, 1) := by decide +kernel
set_option maxRecDepth 20000 in
theorem ggX7_alone_X7_isChannel : GoodIn wsX7_alone wsX7_isChannel := goodIn_r _ [6, 7, 8, 9, 5, 10] (by decide +kernel) (by decide +kernel)
set_option maxRecDepth 20000 in
theorem gX7_alone_X7_isChannel : GoodIn wsX7_alone (va_wsS RX7 153 yX7_isChannel wsX7_isChannel) := goodIn_app (goodIn_of _ (by decide +kernel)) ggX7_alone_X7_isChannel
set_option maxRecDepth 20000 in
theorem ggX7_alone_X7_refused : GoodIn wsX7_alone wsX7_refused := goodIn_r _ [14, 15, 70, 71, 72, 73, 74, 75, 76, 77, 78, 79, 80, 81, 82, 83, 84, 85, 86] (by decide +kernel) (by decide +kernel)
set_option maxRecDepth 20000 in
theorem gX7_alone_X7_refused : GoodIn wsX7_alone (wsV RX7 102 RX7 yX7_refused wsX7_refused) := goodIn_app (goodIn_of _ (by decide +kernel)) ggX7_alone_X7_refused
set_option maxRecDepth 20000 in
theorem ggX7_alone_X7_tryNow : GoodIn wsX7_alone wsX7_tryNow := goodIn_r _ [19, 2, 1, 20, 21, 5, 22, 23, 24, 25, 26, 27, 28, 29, 70, 71, 72, 73, 74, 75, 76, 77, 78, 79, 80, 81, 82, 83, 84, 85, 86] (by decide +kernel) (by decide +kernel)
set_option maxRecDepth 20000 in
theorem gX7_alone_X7_tryNow : GoodIn wsX7_alone (wsV RX7 180 RX7 yX7_tryNow wsX7_tryNow) := goodIn_app (goodIn_of _ (by decide +kernel)) ggX7_alone_X7_tryNow
set_option maxRecDepth 20000 in
theorem ggX7_alone_X7_begin : GoodIn wsX7_alone wsX7_begin := goodIn_r _ [32, 33, 34, 5, 35] (by decide +kernel) (by decide +kernel)
set_option maxRecDepth 20000 in
theorem gX7_alone_X7_begin : GoodIn wsX7_alone (va_wsS RX7 125 yX7_begin wsX7_begin) := goodIn_app (goodIn_of _ (by decide +kernel)) ggX7_alone_X7_begin
set_option maxRecDepth 20000 in
theorem ggX7_alone_X7_goOnFor : GoodIn wsX7_alone wsX7_goOnFor := goodIn_r _ [39, 40, 41, 42, 5, 43, 44, 45, 46, 33, 34, 35, 47, 48, 49, 50, 51, 52, 53, 54, 55, 56, 57, 58, 59, 60, 61, 62, 63, 64, 65, 66, 67, 68, 69, 29, 28, 27, 70, 71, 72, 73, 74, 75, 76, 77, 78, 79, 80, 81, 82, 83, 84, 85, 86] (by decide +kernel) (by decide +kernel)
set_option maxRecDepth 20000 in
theorem gX7_alone_X7_goOnFor : GoodIn wsX7_alone (wsV RX7 174 RX7 yX7_goOnFor wsX7_goOnFor) := goodIn_app (goodIn_of _ (by decide +kernel)) ggX7_alone_X7_goOnFor
set_option maxRecDepth 20000 in
theorem ggX7_alone_X7_at : GoodIn wsX7_alone wsX7_at := goodIn_r _ [35] (by decide +kernel) (by decide +kernel)
set_option maxRecDepth 20000 in
theorem gX7_alone_X7_at : GoodIn wsX7_alone (va_wsS RX7 59 yX7_at wsX7_at) := goodIn_app (goodIn_of _ (by decide +kernel)) ggX7_alone_X7_at
theorem dX7_alone_0 : decode cX7_alone 0 = .ok (.aload_n 0, 1) := by decide +kernel
theorem dX7_alone_1 : decode cX7_alone 1 = .ok (.iload_n 1, 1) := by decide +kernel
theorem dX7_alone_2 : decode cX7_alone 2 = .ok (.invokestatic 153, 3) := by decide +kernel
theorem dX7_alone_5 : decode cX7_alone 5 = .ok (.ifCond .eq 7, 3) := by decide +kernel
theorem dX7_alone_8 : decode cX7_alone 8 = .ok (.iconst 0, 1) := by decide +kernel
theorem dX7_alone_9 : decode cX7_alone 9 = .ok (.goto 4, 3) := by decide +kernel
theorem dX7_alone_12 : decode cX7_alone 12 = .ok (.iconst 1, 1) := by decide +kernel
theorem dX7_alone_13 : decode cX7_alone 13 = .ok (.invokevirtual 102, 3) := by decide +kernel
theorem dX7_alone_16 : decode cX7_alone 16 = .ok (.ifCond .eq 5, 3) := by decide +kernel
theorem dX7_alone_19 : decode cX7_alone 19 = .ok (.iconst 0, 1) := by decide +kernel
theorem dX7_alone_20 : decode cX7_alone 20 = .ok (.ireturn, 1) := by decide +kernel
theorem dX7_alone_21 : decode cX7_alone 21 = .ok (.aload_n 0, 1) := by decide +kernel
theorem dX7_alone_22 : decode cX7_alone 22 = .ok (.invokevirtual 180, 3) := by decide +kernel
theorem dX7_alone_25 : decode cX7_alone 25 = .ok (.iconst 0, 1) := by decide +kernel
theorem dX7_alone_26 : decode cX7_alone 26 = .ok (.istore_n 2, 1) := by decide +kernel
theorem dX7_alone_27 : decode cX7_alone 27 = .ok (.iload_n 2, 1) := by decide +kernel
theorem dX7_alone_28 : decode cX7_alone 28 = .ok (.iconst 3, 1) := by decide +kernel
theorem dX7_alone_29 : decode cX7_alone 29 = .ok (.if_icmp .ge 24, 3) := by decide +kernel
theorem dX7_alone_32 : decode cX7_alone 32 = .ok (.iload_n 2, 1) := by decide +kernel
theorem dX7_alone_33 : decode cX7_alone 33 = .ok (.iload_n 1, 1) := by decide +kernel
theorem dX7_alone_34 : decode cX7_alone 34 = .ok (.if_icmp .eq 13, 3) := by decide +kernel
theorem dX7_alone_37 : decode cX7_alone 37 = .ok (.aload_n 0, 1) := by decide +kernel
theorem dX7_alone_38 : decode cX7_alone 38 = .ok (.getfield 19, 3) := by decide +kernel
theorem dX7_alone_41 : decode cX7_alone 41 = .ok (.iload_n 2, 1) := by decide +kernel
theorem dX7_alone_42 : decode cX7_alone 42 = .ok (.iconst 0, 1) := by decide +kernel
theorem dX7_alone_43 : decode cX7_alone 43 = .ok (.iconst 0, 1) := by decide +kernel
theorem dX7_alone_44 : decode cX7_alone 44 = .ok (.invokestatic 125, 3) := by decide +kernel
theorem dX7_alone_47 : decode cX7_alone 47 = .ok (.iinc 2 1, 3) := by decide +kernel
theorem dX7_alone_50 : decode cX7_alone 50 = .ok (.goto (-23), 3) := by decide +kernel
theorem dX7_alone_53 : decode cX7_alone 53 = .ok (.aload_n 0, 1) := by decide +kernel
theorem dX7_alone_54 : decode cX7_alone 54 = .ok (.aload_n 0, 1) := by decide +kernel
theorem dX7_alone_55 : decode cX7_alone 55 = .ok (.getfield 19, 3) := by decide +kernel
theorem dX7_alone_58 : decode cX7_alone 58 = .ok (.sipush 500, 3) := by decide +kernel
theorem dX7_alone_61 : decode cX7_alone 61 = .ok (.invokevirtual 174, 3) := by decide +kernel
theorem dX7_alone_64 : decode cX7_alone 64 = .ok (.pop, 1) := by decide +kernel
theorem dX7_alone_65 : decode cX7_alone 65 = .ok (.aload_n 0, 1) := by decide +kernel
theorem dX7_alone_66 : decode cX7_alone 66 = .ok (.getfield 19, 3) := by decide +kernel
theorem dX7_alone_69 : decode cX7_alone 69 = .ok (.iload_n 1, 1) := by decide +kernel
theorem dX7_alone_70 : decode cX7_alone 70 = .ok (.invokestatic 59, 3) := by decide +kernel
theorem dX7_alone_73 : decode cX7_alone 73 = .ok (.bipush 12, 2) := by decide +kernel
theorem dX7_alone_75 : decode cX7_alone 75 = .ok (.iadd, 1) := by decide +kernel
theorem dX7_alone_76 : decode cX7_alone 76 = .ok (.iaload, 1) := by decide +kernel
theorem dX7_alone_77 : decode cX7_alone 77 = .ok (.aload_n 0, 1) := by decide +kernel
theorem dX7_alone_78 : decode cX7_alone 78 = .ok (.getfield 16, 3) := by decide +kernel
theorem dX7_alone_81 : decode cX7_alone 81 = .ok (.iload_n 1, 1) := by decide +kernel
theorem dX7_alone_82 : decode cX7_alone 82 = .ok (.invokestatic 59, 3) := by decide +kernel
theorem dX7_alone_85 : decode cX7_alone 85 = .ok (.bipush 12, 2) := by decide +kernel
theorem dX7_alone_87 : decode cX7_alone 87 = .ok (.iadd, 1) := by decide +kernel
theorem dX7_alone_88 : decode cX7_alone 88 = .ok (.iaload, 1) := by decide +kernel
theorem dX7_alone_89 : decode cX7_alone 89 = .ok (.isub, 1) := by decide +kernel
theorem dX7_alone_90 : decode cX7_alone 90 = .ok (.ireturn, 1) := by decide +kernel
set_option maxRecDepth 20000 in
theorem ggX7_command_X7_isCell : GoodIn wsX7_command wsX7_isCell := goodIn_r _ [5, 6, 7, 8, 4, 9] (by decide +kernel) (by decide +kernel)
set_option maxRecDepth 20000 in
theorem gX7_command_X7_isCell : GoodIn wsX7_command (va_wsS RX7 148 yX7_isCell wsX7_isCell) := goodIn_app (goodIn_of _ (by decide +kernel)) ggX7_command_X7_isCell
set_option maxRecDepth 20000 in
theorem ggX7_command_X7_turnOf : GoodIn wsX7_command wsX7_turnOf := goodIn_r _ [12, 13, 14, 4, 15] (by decide +kernel) (by decide +kernel)
set_option maxRecDepth 20000 in
theorem gX7_command_X7_turnOf : GoodIn wsX7_command (va_wsS RX7 78 yX7_turnOf wsX7_turnOf) := goodIn_app (goodIn_of _ (by decide +kernel)) ggX7_command_X7_turnOf
set_option maxRecDepth 20000 in
theorem ggX7_command_X7_goOnFor : GoodIn wsX7_command wsX7_goOnFor := goodIn_r _ [19, 20, 21, 22, 4, 23, 10, 11, 12, 13, 14, 15, 24, 25, 26, 27, 28, 29, 30, 31, 32, 33, 34, 35, 36, 37, 38, 39, 40, 41, 42, 43, 44, 45, 46, 47, 48, 49, 64, 65, 66, 67, 68, 69, 70, 71, 72, 73, 74, 75, 76, 77, 78, 79, 80] (by decide +kernel) (by decide +kernel)
set_option maxRecDepth 20000 in
theorem gX7_command_X7_goOnFor : GoodIn wsX7_command (wsV RX7 174 RX7 yX7_goOnFor wsX7_goOnFor) := goodIn_app (goodIn_of _ (by decide +kernel)) ggX7_command_X7_goOnFor
set_option maxRecDepth 20000 in
theorem ggX7_command_X7_isChannel : GoodIn wsX7_command wsX7_isChannel := goodIn_r _ [52, 53, 7, 8, 4, 9] (by decide +kernel) (by decide +kernel)
set_option maxRecDepth 20000 in
theorem gX7_command_X7_isChannel : GoodIn wsX7_command (va_wsS RX7 153 yX7_isChannel wsX7_isChannel) := goodIn_app (goodIn_of _ (by decide +kernel)) ggX7_command_X7_isChannel
set_option maxRecDepth 20000 in
theorem ggX7_command_X7_begin : GoodIn wsX7_command wsX7_begin := goodIn_r _ [56, 13, 14, 4, 15] (by decide +kernel) (by decide +kernel)
set_option maxRecDepth 20000 in
theorem gX7_command_X7_begin : GoodIn wsX7_command (va_wsS RX7 125 yX7_begin wsX7_begin) := goodIn_app (goodIn_of _ (by decide +kernel)) ggX7_command_X7_begin
set_option maxRecDepth 20000 in
theorem ggX7_command_X7_at : GoodIn wsX7_command wsX7_at := goodIn_r _ [15] (by decide +kernel) (by decide +kernel)
set_option maxRecDepth 20000 in
theorem gX7_command_X7_at : GoodIn wsX7_command (va_wsS RX7 59 yX7_at wsX7_at) := goodIn_app (goodIn_of _ (by decide +kernel)) ggX7_command_X7_at
set_option maxRecDepth 20000 in
theorem ggX7_command_X7_stopOn : GoodIn wsX7_command wsX7_stopOn := goodIn_r _ [59, 60, 13, 14, 4, 15, 7, 8, 9, 54, 55, 56] (by decide +kernel) (by decide +kernel)
set_option maxRecDepth 20000 in
theorem gX7_command_X7_stopOn : GoodIn wsX7_command (va_wsS RX7 171 yX7_stopOn wsX7_stopOn) := goodIn_app (goodIn_of _ (by decide +kernel)) ggX7_command_X7_stopOn
set_option maxRecDepth 20000 in
theorem ggX7_command_X7_ownOn : GoodIn wsX7_command wsX7_ownOn := goodIn_r _ [63] (by decide +kernel) (by decide +kernel)
set_option maxRecDepth 20000 in
theorem gX7_command_X7_ownOn : GoodIn wsX7_command (va_wsS RX7 165 yX7_ownOn wsX7_ownOn) := goodIn_app (goodIn_of _ (by decide +kernel)) ggX7_command_X7_ownOn
theorem dX7_command_0 : decode cX7_command 0 = .ok (.bipush 10, 2) := by decide +kernel
theorem dX7_command_2 : decode cX7_command 2 = .ok (.iload_n 2, 1) := by decide +kernel
theorem dX7_command_3 : decode cX7_command 3 = .ok (.imul, 1) := by decide +kernel
theorem dX7_command_4 : decode cX7_command 4 = .ok (.iload_n 3, 1) := by decide +kernel
theorem dX7_command_5 : decode cX7_command 5 = .ok (.iadd, 1) := by decide +kernel
theorem dX7_command_6 : decode cX7_command 6 = .ok (.istore 6, 2) := by decide +kernel
theorem dX7_command_8 : decode cX7_command 8 = .ok (.bipush 10, 2) := by decide +kernel
theorem dX7_command_10 : decode cX7_command 10 = .ok (.iload 4, 2) := by decide +kernel
theorem dX7_command_12 : decode cX7_command 12 = .ok (.imul, 1) := by decide +kernel
theorem dX7_command_13 : decode cX7_command 13 = .ok (.iload 5, 2) := by decide +kernel
theorem dX7_command_15 : decode cX7_command 15 = .ok (.iadd, 1) := by decide +kernel
theorem dX7_command_16 : decode cX7_command 16 = .ok (.istore 7, 2) := by decide +kernel
theorem dX7_command_18 : decode cX7_command 18 = .ok (.bipush 10, 2) := by decide +kernel
theorem dX7_command_20 : decode cX7_command 20 = .ok (.iload_n 3, 1) := by decide +kernel
theorem dX7_command_21 : decode cX7_command 21 = .ok (.imul, 1) := by decide +kernel
theorem dX7_command_22 : decode cX7_command 22 = .ok (.iload 4, 2) := by decide +kernel
theorem dX7_command_24 : decode cX7_command 24 = .ok (.iadd, 1) := by decide +kernel
theorem dX7_command_25 : decode cX7_command 25 = .ok (.istore 8, 2) := by decide +kernel
theorem dX7_command_27 : decode cX7_command 27 = .ok (.iload_n 1, 1) := by decide +kernel
theorem dX7_command_28 : decode cX7_command 28 = .ok (.tableswitch 351 1 9 #[52, 73, 114, 149, 194, 235, 261, 293, 327], 52) := by decide +kernel
theorem dX7_command_80 : decode cX7_command 80 = .ok (.iload 6, 2) := by decide +kernel
theorem dX7_command_82 : decode cX7_command 82 = .ok (.invokestatic 148, 3) := by decide +kernel
theorem dX7_command_85 : decode cX7_command 85 = .ok (.ifCond .ne 5, 3) := by decide +kernel
theorem dX7_command_88 : decode cX7_command 88 = .ok (.iconst 0, 1) := by decide +kernel
theorem dX7_command_89 : decode cX7_command 89 = .ok (.ireturn, 1) := by decide +kernel
theorem dX7_command_90 : decode cX7_command 90 = .ok (.aload_n 0, 1) := by decide +kernel
theorem dX7_command_91 : decode cX7_command 91 = .ok (.getfield 19, 3) := by decide +kernel
theorem dX7_command_94 : decode cX7_command 94 = .ok (.iload 6, 2) := by decide +kernel
theorem dX7_command_96 : decode cX7_command 96 = .ok (.iload 7, 2) := by decide +kernel
theorem dX7_command_98 : decode cX7_command 98 = .ok (.iastore, 1) := by decide +kernel
theorem dX7_command_99 : decode cX7_command 99 = .ok (.iconst 1, 1) := by decide +kernel
theorem dX7_command_100 : decode cX7_command 100 = .ok (.ireturn, 1) := by decide +kernel
theorem dX7_command_101 : decode cX7_command 101 = .ok (.iload 6, 2) := by decide +kernel
theorem dX7_command_103 : decode cX7_command 103 = .ok (.ifCond .ne 37, 3) := by decide +kernel
theorem dX7_command_106 : decode cX7_command 106 = .ok (.iload 7, 2) := by decide +kernel
theorem dX7_command_108 : decode cX7_command 108 = .ok (.ifCond .le 32, 3) := by decide +kernel
theorem dX7_command_111 : decode cX7_command 111 = .ok (.aload_n 0, 1) := by decide +kernel
theorem dX7_command_112 : decode cX7_command 112 = .ok (.getfield 19, 3) := by decide +kernel
theorem dX7_command_115 : decode cX7_command 115 = .ok (.invokestatic 78, 3) := by decide +kernel
theorem dX7_command_118 : decode cX7_command 118 = .ok (.bipush (-9), 2) := by decide +kernel
theorem dX7_command_120 : decode cX7_command 120 = .ok (.if_icmp .eq 20, 3) := by decide +kernel
theorem dX7_command_123 : decode cX7_command 123 = .ok (.aload_n 0, 1) := by decide +kernel
theorem dX7_command_124 : decode cX7_command 124 = .ok (.aload_n 0, 1) := by decide +kernel
theorem dX7_command_125 : decode cX7_command 125 = .ok (.getfield 19, 3) := by decide +kernel
theorem dX7_command_128 : decode cX7_command 128 = .ok (.iload 7, 2) := by decide +kernel
theorem dX7_command_130 : decode cX7_command 130 = .ok (.invokevirtual 174, 3) := by decide +kernel
theorem dX7_command_133 : decode cX7_command 133 = .ok (.ifCond .le 7, 3) := by decide +kernel
theorem dX7_command_136 : decode cX7_command 136 = .ok (.iconst 1, 1) := by decide +kernel
theorem dX7_command_137 : decode cX7_command 137 = .ok (.goto 4, 3) := by decide +kernel
theorem dX7_command_140 : decode cX7_command 140 = .ok (.iconst 0, 1) := by decide +kernel
theorem dX7_command_141 : decode cX7_command 141 = .ok (.ireturn, 1) := by decide +kernel
theorem dX7_command_142 : decode cX7_command 142 = .ok (.iload 5, 2) := by decide +kernel
theorem dX7_command_144 : decode cX7_command 144 = .ok (.ifCond .gt 18, 3) := by decide +kernel
theorem dX7_command_147 : decode cX7_command 147 = .ok (.iload_n 2, 1) := by decide +kernel
theorem dX7_command_148 : decode cX7_command 148 = .ok (.invokestatic 153, 3) := by decide +kernel
theorem dX7_command_151 : decode cX7_command 151 = .ok (.ifCond .eq 11, 3) := by decide +kernel
theorem dX7_command_154 : decode cX7_command 154 = .ok (.iload 8, 2) := by decide +kernel
theorem dX7_command_156 : decode cX7_command 156 = .ok (.invokestatic 148, 3) := by decide +kernel
theorem dX7_command_159 : decode cX7_command 159 = .ok (.ifCond .ne 5, 3) := by decide +kernel
theorem dX7_command_162 : decode cX7_command 162 = .ok (.iconst 0, 1) := by decide +kernel
theorem dX7_command_163 : decode cX7_command 163 = .ok (.ireturn, 1) := by decide +kernel
theorem dX7_command_164 : decode cX7_command 164 = .ok (.aload_n 0, 1) := by decide +kernel
theorem dX7_command_165 : decode cX7_command 165 = .ok (.getfield 19, 3) := by decide +kernel
theorem dX7_command_168 : decode cX7_command 168 = .ok (.iload_n 2, 1) := by decide +kernel
theorem dX7_command_169 : decode cX7_command 169 = .ok (.iload 8, 2) := by decide +kernel
theorem dX7_command_171 : decode cX7_command 171 = .ok (.iconst 1, 1) := by decide +kernel
theorem dX7_command_172 : decode cX7_command 172 = .ok (.invokestatic 125, 3) := by decide +kernel
theorem dX7_command_175 : decode cX7_command 175 = .ok (.iconst 1, 1) := by decide +kernel
theorem dX7_command_176 : decode cX7_command 176 = .ok (.ireturn, 1) := by decide +kernel
theorem dX7_command_177 : decode cX7_command 177 = .ok (.iload 8, 2) := by decide +kernel
theorem dX7_command_179 : decode cX7_command 179 = .ok (.iload 5, 2) := by decide +kernel
theorem dX7_command_181 : decode cX7_command 181 = .ok (.iadd, 1) := by decide +kernel
theorem dX7_command_182 : decode cX7_command 182 = .ok (.ifCond .ne 38, 3) := by decide +kernel
theorem dX7_command_185 : decode cX7_command 185 = .ok (.iload_n 2, 1) := by decide +kernel
theorem dX7_command_186 : decode cX7_command 186 = .ok (.invokestatic 153, 3) := by decide +kernel
theorem dX7_command_189 : decode cX7_command 189 = .ok (.ifCond .eq 31, 3) := by decide +kernel
theorem dX7_command_192 : decode cX7_command 192 = .ok (.aload_n 0, 1) := by decide +kernel
theorem dX7_command_193 : decode cX7_command 193 = .ok (.getfield 19, 3) := by decide +kernel
theorem dX7_command_196 : decode cX7_command 196 = .ok (.iload_n 2, 1) := by decide +kernel
theorem dX7_command_197 : decode cX7_command 197 = .ok (.invokestatic 59, 3) := by decide +kernel
theorem dX7_command_200 : decode cX7_command 200 = .ok (.iaload, 1) := by decide +kernel
theorem dX7_command_201 : decode cX7_command 201 = .ok (.iconst 1, 1) := by decide +kernel
theorem dX7_command_202 : decode cX7_command 202 = .ok (.if_icmp .ne 18, 3) := by decide +kernel
theorem dX7_command_205 : decode cX7_command 205 = .ok (.aload_n 0, 1) := by decide +kernel
theorem dX7_command_206 : decode cX7_command 206 = .ok (.getfield 19, 3) := by decide +kernel
theorem dX7_command_209 : decode cX7_command 209 = .ok (.iload_n 2, 1) := by decide +kernel
theorem dX7_command_210 : decode cX7_command 210 = .ok (.invokestatic 171, 3) := by decide +kernel
theorem dX7_command_213 : decode cX7_command 213 = .ok (.ifCond .lt 7, 3) := by decide +kernel
theorem dX7_command_216 : decode cX7_command 216 = .ok (.iconst 1, 1) := by decide +kernel
theorem dX7_command_217 : decode cX7_command 217 = .ok (.goto 4, 3) := by decide +kernel
theorem dX7_command_220 : decode cX7_command 220 = .ok (.iconst 0, 1) := by decide +kernel
theorem dX7_command_221 : decode cX7_command 221 = .ok (.ireturn, 1) := by decide +kernel
theorem dX7_command_222 : decode cX7_command 222 = .ok (.iload 6, 2) := by decide +kernel
theorem dX7_command_224 : decode cX7_command 224 = .ok (.invokestatic 148, 3) := by decide +kernel
theorem dX7_command_227 : decode cX7_command 227 = .ok (.ifCond .eq 34, 3) := by decide +kernel
theorem dX7_command_230 : decode cX7_command 230 = .ok (.iload 4, 2) := by decide +kernel
theorem dX7_command_232 : decode cX7_command 232 = .ok (.iconst 3, 1) := by decide +kernel
theorem dX7_command_233 : decode cX7_command 233 = .ok (.if_icmp .gt 28, 3) := by decide +kernel
theorem dX7_command_236 : decode cX7_command 236 = .ok (.iload 5, 2) := by decide +kernel
theorem dX7_command_238 : decode cX7_command 238 = .ok (.ifCond .le 23, 3) := by decide +kernel
theorem dX7_command_241 : decode cX7_command 241 = .ok (.aload_n 0, 1) := by decide +kernel
theorem dX7_command_242 : decode cX7_command 242 = .ok (.getfield 19, 3) := by decide +kernel
theorem dX7_command_245 : decode cX7_command 245 = .ok (.iload 6, 2) := by decide +kernel
theorem dX7_command_247 : decode cX7_command 247 = .ok (.iload 5, 2) := by decide +kernel
theorem dX7_command_249 : decode cX7_command 249 = .ok (.iload 4, 2) := by decide +kernel
theorem dX7_command_251 : decode cX7_command 251 = .ok (.invokestatic 165, 3) := by decide +kernel
theorem dX7_command_254 : decode cX7_command 254 = .ok (.ifCond .lt 7, 3) := by decide +kernel
theorem dX7_command_257 : decode cX7_command 257 = .ok (.iconst 1, 1) := by decide +kernel
theorem dX7_command_258 : decode cX7_command 258 = .ok (.goto 4, 3) := by decide +kernel
theorem dX7_command_261 : decode cX7_command 261 = .ok (.iconst 0, 1) := by decide +kernel
theorem dX7_command_262 : decode cX7_command 262 = .ok (.ireturn, 1) := by decide +kernel
theorem dX7_command_263 : decode cX7_command 263 = .ok (.iload 6, 2) := by decide +kernel
theorem dX7_command_265 : decode cX7_command 265 = .ok (.invokestatic 148, 3) := by decide +kernel
theorem dX7_command_268 : decode cX7_command 268 = .ok (.ifCond .eq 19, 3) := by decide +kernel
theorem dX7_command_271 : decode cX7_command 271 = .ok (.aload_n 0, 1) := by decide +kernel
theorem dX7_command_272 : decode cX7_command 272 = .ok (.getfield 19, 3) := by decide +kernel
theorem dX7_command_275 : decode cX7_command 275 = .ok (.iload 6, 2) := by decide +kernel
theorem dX7_command_277 : decode cX7_command 277 = .ok (.iaload, 1) := by decide +kernel
theorem dX7_command_278 : decode cX7_command 278 = .ok (.iload 7, 2) := by decide +kernel
theorem dX7_command_280 : decode cX7_command 280 = .ok (.if_icmp .ne 7, 3) := by decide +kernel
theorem dX7_command_283 : decode cX7_command 283 = .ok (.iconst 1, 1) := by decide +kernel
theorem dX7_command_284 : decode cX7_command 284 = .ok (.goto 4, 3) := by decide +kernel
theorem dX7_command_287 : decode cX7_command 287 = .ok (.iconst 0, 1) := by decide +kernel
theorem dX7_command_288 : decode cX7_command 288 = .ok (.ireturn, 1) := by decide +kernel
theorem dX7_command_289 : decode cX7_command 289 = .ok (.iload 8, 2) := by decide +kernel
theorem dX7_command_291 : decode cX7_command 291 = .ok (.ifCond .ne 28, 3) := by decide +kernel
theorem dX7_command_294 : decode cX7_command 294 = .ok (.iload_n 2, 1) := by decide +kernel
theorem dX7_command_295 : decode cX7_command 295 = .ok (.invokestatic 153, 3) := by decide +kernel
theorem dX7_command_298 : decode cX7_command 298 = .ok (.ifCond .eq 21, 3) := by decide +kernel
theorem dX7_command_301 : decode cX7_command 301 = .ok (.aload_n 0, 1) := by decide +kernel
theorem dX7_command_302 : decode cX7_command 302 = .ok (.getfield 19, 3) := by decide +kernel
theorem dX7_command_305 : decode cX7_command 305 = .ok (.iload_n 2, 1) := by decide +kernel
theorem dX7_command_306 : decode cX7_command 306 = .ok (.invokestatic 59, 3) := by decide +kernel
theorem dX7_command_309 : decode cX7_command 309 = .ok (.iaload, 1) := by decide +kernel
theorem dX7_command_310 : decode cX7_command 310 = .ok (.iload 5, 2) := by decide +kernel
theorem dX7_command_312 : decode cX7_command 312 = .ok (.if_icmp .ne 7, 3) := by decide +kernel
theorem dX7_command_315 : decode cX7_command 315 = .ok (.iconst 1, 1) := by decide +kernel
theorem dX7_command_316 : decode cX7_command 316 = .ok (.goto 4, 3) := by decide +kernel
theorem dX7_command_319 : decode cX7_command 319 = .ok (.iconst 0, 1) := by decide +kernel
theorem dX7_command_320 : decode cX7_command 320 = .ok (.ireturn, 1) := by decide +kernel
theorem dX7_command_321 : decode cX7_command 321 = .ok (.iload_n 3, 1) := by decide +kernel
theorem dX7_command_322 : decode cX7_command 322 = .ok (.ifCond .ne 31, 3) := by decide +kernel
theorem dX7_command_325 : decode cX7_command 325 = .ok (.iload_n 2, 1) := by decide +kernel
theorem dX7_command_326 : decode cX7_command 326 = .ok (.invokestatic 153, 3) := by decide +kernel
theorem dX7_command_329 : decode cX7_command 329 = .ok (.ifCond .eq 24, 3) := by decide +kernel
theorem dX7_command_332 : decode cX7_command 332 = .ok (.aload_n 0, 1) := by decide +kernel
theorem dX7_command_333 : decode cX7_command 333 = .ok (.getfield 19, 3) := by decide +kernel
theorem dX7_command_336 : decode cX7_command 336 = .ok (.iload_n 2, 1) := by decide +kernel
theorem dX7_command_337 : decode cX7_command 337 = .ok (.invokestatic 59, 3) := by decide +kernel
theorem dX7_command_340 : decode cX7_command 340 = .ok (.bipush 12, 2) := by decide +kernel
theorem dX7_command_342 : decode cX7_command 342 = .ok (.iadd, 1) := by decide +kernel
theorem dX7_command_343 : decode cX7_command 343 = .ok (.iaload, 1) := by decide +kernel
theorem dX7_command_344 : decode cX7_command 344 = .ok (.iload 7, 2) := by decide +kernel
theorem dX7_command_346 : decode cX7_command 346 = .ok (.if_icmp .lt 7, 3) := by decide +kernel
theorem dX7_command_349 : decode cX7_command 349 = .ok (.iconst 1, 1) := by decide +kernel
theorem dX7_command_350 : decode cX7_command 350 = .ok (.goto 4, 3) := by decide +kernel
theorem dX7_command_353 : decode cX7_command 353 = .ok (.iconst 0, 1) := by decide +kernel
theorem dX7_command_354 : decode cX7_command 354 = .ok (.ireturn, 1) := by decide +kernel
theorem dX7_command_355 : decode cX7_command 355 = .ok (.iload 6, 2) := by decide +kernel
theorem dX7_command_357 : decode cX7_command 357 = .ok (.ifCond .ne 20, 3) := by decide +kernel
theorem dX7_command_360 : decode cX7_command 360 = .ok (.aload_n 0, 1) := by decide +kernel
theorem dX7_command_361 : decode cX7_command 361 = .ok (.getfield 19, 3) := by decide +kernel
theorem dX7_command_364 : decode cX7_command 364 = .ok (.sipush 424, 3) := by decide +kernel
theorem dX7_command_367 : decode cX7_command 367 = .ok (.iaload, 1) := by decide +kernel
theorem dX7_command_368 : decode cX7_command 368 = .ok (.iload 7, 2) := by decide +kernel
theorem dX7_command_370 : decode cX7_command 370 = .ok (.if_icmp .gt 7, 3) := by decide +kernel
theorem dX7_command_373 : decode cX7_command 373 = .ok (.iconst 1, 1) := by decide +kernel
theorem dX7_command_374 : decode cX7_command 374 = .ok (.goto 4, 3) := by decide +kernel
theorem dX7_command_377 : decode cX7_command 377 = .ok (.iconst 0, 1) := by decide +kernel
theorem dX7_command_378 : decode cX7_command 378 = .ok (.ireturn, 1) := by decide +kernel
theorem dX7_command_379 : decode cX7_command 379 = .ok (.iconst 0, 1) := by decide +kernel
theorem dX7_command_380 : decode cX7_command 380 = .ok (.ireturn, 1) := by decide +kernel
set_option maxRecDepth 20000 in
theorem ggX7_runScript_X7_in : GoodIn wsX7_runScript wsX7_in := goodIn_r _ [6] (by decide +kernel) (by decide +kernel)
set_option maxRecDepth 20000 in
theorem gX7_runScript_X7_in : GoodIn wsX7_runScript (va_wsS RX7 47 yX7_in wsX7_in) := goodIn_app (goodIn_of _ (by decide +kernel)) ggX7_runScript_X7_in
set_option maxRecDepth 20000 in
theorem ggX7_runScript_X7_refused : GoodIn wsX7_runScript wsX7_refused := goodIn_r _ [10, 11, 87, 88, 89, 90, 91, 92, 93, 94, 95, 96, 97, 98, 99, 100, 101, 102, 103] (by decide +kernel) (by decide +kernel)
set_option maxRecDepth 20000 in
theorem gX7_runScript_X7_refused : GoodIn wsX7_runScript (wsV RX7 102 RX7 yX7_refused wsX7_refused) := goodIn_app (goodIn_of _ (by decide +kernel)) ggX7_runScript_X7_refused
set_option maxRecDepth 20000 in
theorem ggX7_runScript_X7_tryNow : GoodIn wsX7_runScript wsX7_tryNow := goodIn_r _ [15, 16, 17, 18, 19, 5, 20, 21, 22, 23, 24, 25, 26, 27, 87, 88, 89, 90, 91, 92, 93, 94, 95, 96, 97, 98, 99, 100, 101, 102, 103] (by decide +kernel) (by decide +kernel)
set_option maxRecDepth 20000 in
theorem gX7_runScript_X7_tryNow : GoodIn wsX7_runScript (wsV RX7 180 RX7 yX7_tryNow wsX7_tryNow) := goodIn_app (goodIn_of _ (by decide +kernel)) ggX7_runScript_X7_tryNow
set_option maxRecDepth 20000 in
theorem ggX7_runScript_X7_command : GoodIn wsX7_runScript wsX7_command := goodIn_r _ [31, 17, 32, 33, 5, 34, 35, 3, 4, 6, 36, 37, 38, 39, 40, 41, 42, 43, 44, 45, 46, 47, 48, 49, 50, 51, 52, 53, 54, 55, 56, 57, 58, 59, 60, 61, 62, 63, 64, 65, 66, 67, 68, 69, 70, 71, 72, 27, 26, 25, 73, 74, 75, 76, 77, 78, 79, 80, 81, 82, 83, 84, 85, 86, 87, 88, 89, 90, 91, 92, 93, 94, 95, 96, 97, 98, 99, 100, 101, 102, 103] (by decide +kernel) (by decide +kernel)
set_option maxRecDepth 20000 in
theorem gX7_runScript_X7_command : GoodIn wsX7_runScript (wsV RX7 187 RX7 yX7_command wsX7_command) := goodIn_app (goodIn_of _ (by decide +kernel)) ggX7_runScript_X7_command
theorem dX7_runScript_0 : decode cX7_runScript 0 = .ok (.lconst 1, 1) := by decide +kernel
theorem dX7_runScript_1 : decode cX7_runScript 1 = .ok (.lstore 4, 2) := by decide +kernel
theorem dX7_runScript_3 : decode cX7_runScript 3 = .ok (.iconst 0, 1) := by decide +kernel
theorem dX7_runScript_4 : decode cX7_runScript 4 = .ok (.istore 6, 2) := by decide +kernel
theorem dX7_runScript_6 : decode cX7_runScript 6 = .ok (.iload 6, 2) := by decide +kernel
theorem dX7_runScript_8 : decode cX7_runScript 8 = .ok (.iload_n 1, 1) := by decide +kernel
theorem dX7_runScript_9 : decode cX7_runScript 9 = .ok (.if_icmp .ge 23, 3) := by decide +kernel
theorem dX7_runScript_12 : decode cX7_runScript 12 = .ok (.iload 6, 2) := by decide +kernel
theorem dX7_runScript_14 : decode cX7_runScript 14 = .ok (.iconst 3, 1) := by decide +kernel
theorem dX7_runScript_15 : decode cX7_runScript 15 = .ok (.if_icmp .ge 17, 3) := by decide +kernel
theorem dX7_runScript_18 : decode cX7_runScript 18 = .ok (.lload 4, 2) := by decide +kernel
theorem dX7_runScript_20 : decode cX7_runScript 20 = .ok (.ldc2_w 185, 3) := by decide +kernel
theorem dX7_runScript_23 : decode cX7_runScript 23 = .ok (.lmul, 1) := by decide +kernel
theorem dX7_runScript_24 : decode cX7_runScript 24 = .ok (.lstore 4, 2) := by decide +kernel
theorem dX7_runScript_26 : decode cX7_runScript 26 = .ok (.iinc 6 1, 3) := by decide +kernel
theorem dX7_runScript_29 : decode cX7_runScript 29 = .ok (.goto (-23), 3) := by decide +kernel
theorem dX7_runScript_32 : decode cX7_runScript 32 = .ok (.aload_n 0, 1) := by decide +kernel
theorem dX7_runScript_33 : decode cX7_runScript 33 = .ok (.iload_n 1, 1) := by decide +kernel
theorem dX7_runScript_34 : decode cX7_runScript 34 = .ok (.i2l, 1) := by decide +kernel
theorem dX7_runScript_35 : decode cX7_runScript 35 = .ok (.lconst 1, 1) := by decide +kernel
theorem dX7_runScript_36 : decode cX7_runScript 36 = .ok (.ldc2_w 151, 3) := by decide +kernel
theorem dX7_runScript_39 : decode cX7_runScript 39 = .ok (.invokestatic 47, 3) := by decide +kernel
theorem dX7_runScript_42 : decode cX7_runScript 42 = .ok (.ifCond .eq 19, 3) := by decide +kernel
theorem dX7_runScript_45 : decode cX7_runScript 45 = .ok (.lload_n 2, 1) := by decide +kernel
theorem dX7_runScript_46 : decode cX7_runScript 46 = .ok (.lconst 0, 1) := by decide +kernel
theorem dX7_runScript_47 : decode cX7_runScript 47 = .ok (.lload 4, 2) := by decide +kernel
theorem dX7_runScript_49 : decode cX7_runScript 49 = .ok (.lconst 1, 1) := by decide +kernel
theorem dX7_runScript_50 : decode cX7_runScript 50 = .ok (.lsub, 1) := by decide +kernel
theorem dX7_runScript_51 : decode cX7_runScript 51 = .ok (.invokestatic 47, 3) := by decide +kernel
theorem dX7_runScript_54 : decode cX7_runScript 54 = .ok (.ifCond .eq 7, 3) := by decide +kernel
theorem dX7_runScript_57 : decode cX7_runScript 57 = .ok (.iconst 0, 1) := by decide +kernel
theorem dX7_runScript_58 : decode cX7_runScript 58 = .ok (.goto 4, 3) := by decide +kernel
theorem dX7_runScript_61 : decode cX7_runScript 61 = .ok (.iconst 1, 1) := by decide +kernel
theorem dX7_runScript_62 : decode cX7_runScript 62 = .ok (.invokevirtual 102, 3) := by decide +kernel
theorem dX7_runScript_65 : decode cX7_runScript 65 = .ok (.ifCond .eq 5, 3) := by decide +kernel
theorem dX7_runScript_68 : decode cX7_runScript 68 = .ok (.iconst 0, 1) := by decide +kernel
theorem dX7_runScript_69 : decode cX7_runScript 69 = .ok (.ireturn, 1) := by decide +kernel
theorem dX7_runScript_70 : decode cX7_runScript 70 = .ok (.aload_n 0, 1) := by decide +kernel
theorem dX7_runScript_71 : decode cX7_runScript 71 = .ok (.invokevirtual 180, 3) := by decide +kernel
theorem dX7_runScript_74 : decode cX7_runScript 74 = .ok (.iconst 0, 1) := by decide +kernel
theorem dX7_runScript_75 : decode cX7_runScript 75 = .ok (.istore 6, 2) := by decide +kernel
theorem dX7_runScript_77 : decode cX7_runScript 77 = .ok (.iload 6, 2) := by decide +kernel
theorem dX7_runScript_79 : decode cX7_runScript 79 = .ok (.iload_n 1, 1) := by decide +kernel
theorem dX7_runScript_80 : decode cX7_runScript 80 = .ok (.if_icmp .ge 74, 3) := by decide +kernel
theorem dX7_runScript_83 : decode cX7_runScript 83 = .ok (.lload 4, 2) := by decide +kernel
theorem dX7_runScript_85 : decode cX7_runScript 85 = .ok (.ldc2_w 185, 3) := by decide +kernel
theorem dX7_runScript_88 : decode cX7_runScript 88 = .ok (.ldiv, 1) := by decide +kernel
theorem dX7_runScript_89 : decode cX7_runScript 89 = .ok (.lstore 4, 2) := by decide +kernel
theorem dX7_runScript_91 : decode cX7_runScript 91 = .ok (.lload_n 2, 1) := by decide +kernel
theorem dX7_runScript_92 : decode cX7_runScript 92 = .ok (.lload 4, 2) := by decide +kernel
theorem dX7_runScript_94 : decode cX7_runScript 94 = .ok (.ldiv, 1) := by decide +kernel
theorem dX7_runScript_95 : decode cX7_runScript 95 = .ok (.ldc2_w 185, 3) := by decide +kernel
theorem dX7_runScript_98 : decode cX7_runScript 98 = .ok (.lrem, 1) := by decide +kernel
theorem dX7_runScript_99 : decode cX7_runScript 99 = .ok (.l2i, 1) := by decide +kernel
theorem dX7_runScript_100 : decode cX7_runScript 100 = .ok (.istore 7, 2) := by decide +kernel
theorem dX7_runScript_102 : decode cX7_runScript 102 = .ok (.aload_n 0, 1) := by decide +kernel
theorem dX7_runScript_103 : decode cX7_runScript 103 = .ok (.iload 7, 2) := by decide +kernel
theorem dX7_runScript_105 : decode cX7_runScript 105 = .ok (.sipush 10000, 3) := by decide +kernel
theorem dX7_runScript_108 : decode cX7_runScript 108 = .ok (.idiv, 1) := by decide +kernel
theorem dX7_runScript_109 : decode cX7_runScript 109 = .ok (.iload 7, 2) := by decide +kernel
theorem dX7_runScript_111 : decode cX7_runScript 111 = .ok (.sipush 1000, 3) := by decide +kernel
theorem dX7_runScript_114 : decode cX7_runScript 114 = .ok (.idiv, 1) := by decide +kernel
theorem dX7_runScript_115 : decode cX7_runScript 115 = .ok (.bipush 10, 2) := by decide +kernel
theorem dX7_runScript_117 : decode cX7_runScript 117 = .ok (.irem, 1) := by decide +kernel
theorem dX7_runScript_118 : decode cX7_runScript 118 = .ok (.iload 7, 2) := by decide +kernel
theorem dX7_runScript_120 : decode cX7_runScript 120 = .ok (.bipush 100, 2) := by decide +kernel
theorem dX7_runScript_122 : decode cX7_runScript 122 = .ok (.idiv, 1) := by decide +kernel
theorem dX7_runScript_123 : decode cX7_runScript 123 = .ok (.bipush 10, 2) := by decide +kernel
theorem dX7_runScript_125 : decode cX7_runScript 125 = .ok (.irem, 1) := by decide +kernel
theorem dX7_runScript_126 : decode cX7_runScript 126 = .ok (.iload 7, 2) := by decide +kernel
theorem dX7_runScript_128 : decode cX7_runScript 128 = .ok (.bipush 10, 2) := by decide +kernel
theorem dX7_runScript_130 : decode cX7_runScript 130 = .ok (.idiv, 1) := by decide +kernel
theorem dX7_runScript_131 : decode cX7_runScript 131 = .ok (.bipush 10, 2) := by decide +kernel
theorem dX7_runScript_133 : decode cX7_runScript 133 = .ok (.irem, 1) := by decide +kernel
theorem dX7_runScript_134 : decode cX7_runScript 134 = .ok (.iload 7, 2) := by decide +kernel
theorem dX7_runScript_136 : decode cX7_runScript 136 = .ok (.bipush 10, 2) := by decide +kernel
theorem dX7_runScript_138 : decode cX7_runScript 138 = .ok (.irem, 1) := by decide +kernel
theorem dX7_runScript_139 : decode cX7_runScript 139 = .ok (.invokevirtual 187, 3) := by decide +kernel
theorem dX7_runScript_142 : decode cX7_runScript 142 = .ok (.ifCond .ne 6, 3) := by decide +kernel
theorem dX7_runScript_145 : decode cX7_runScript 145 = .ok (.iload 6, 2) := by decide +kernel
theorem dX7_runScript_147 : decode cX7_runScript 147 = .ok (.ireturn, 1) := by decide +kernel
theorem dX7_runScript_148 : decode cX7_runScript 148 = .ok (.iinc 6 1, 3) := by decide +kernel
theorem dX7_runScript_151 : decode cX7_runScript 151 = .ok (.goto (-74), 3) := by decide +kernel
theorem dX7_runScript_154 : decode cX7_runScript 154 = .ok (.bipush (-9), 2) := by decide +kernel
theorem dX7_runScript_156 : decode cX7_runScript 156 = .ok (.ireturn, 1) := by decide +kernel
set_option maxRecDepth 20000 in
theorem ggX7_simulate_X7_in : GoodIn wsX7_simulate wsX7_in := goodIn_r _ [10] (by decide +kernel) (by decide +kernel)
set_option maxRecDepth 20000 in
theorem gX7_simulate_X7_in : GoodIn wsX7_simulate (va_wsS RX7 47 yX7_in wsX7_in) := goodIn_app (goodIn_of _ (by decide +kernel)) ggX7_simulate_X7_in
set_option maxRecDepth 20000 in
theorem ggX7_simulate_X7_refused : GoodIn wsX7_simulate wsX7_refused := goodIn_r _ [14, 15, 77, 78, 79, 80, 81, 82, 83, 84, 85, 86, 87, 88, 89, 90, 91, 92, 93] (by decide +kernel) (by decide +kernel)
set_option maxRecDepth 20000 in
theorem gX7_simulate_X7_refused : GoodIn wsX7_simulate (wsV RX7 102 RX7 yX7_refused wsX7_refused) := goodIn_app (goodIn_of _ (by decide +kernel)) ggX7_simulate_X7_refused
set_option maxRecDepth 20000 in
theorem ggX7_simulate_X7_tryNow : GoodIn wsX7_simulate wsX7_tryNow := goodIn_r _ [19, 20, 4, 21, 22, 9, 23, 24, 25, 26, 27, 28, 29, 30, 77, 78, 79, 80, 81, 82, 83, 84, 85, 86, 87, 88, 89, 90, 91, 92, 93] (by decide +kernel) (by decide +kernel)
set_option maxRecDepth 20000 in
theorem gX7_simulate_X7_tryNow : GoodIn wsX7_simulate (wsV RX7 180 RX7 yX7_tryNow wsX7_tryNow) := goodIn_app (goodIn_of _ (by decide +kernel)) ggX7_simulate_X7_tryNow
set_option maxRecDepth 20000 in
theorem ggX7_simulate_X7_begin : GoodIn wsX7_simulate wsX7_begin := goodIn_r _ [33, 34, 35, 9, 36] (by decide +kernel) (by decide +kernel)
set_option maxRecDepth 20000 in
theorem gX7_simulate_X7_begin : GoodIn wsX7_simulate (va_wsS RX7 125 yX7_begin wsX7_begin) := goodIn_app (goodIn_of _ (by decide +kernel)) ggX7_simulate_X7_begin
set_option maxRecDepth 20000 in
theorem ggX7_simulate_X7_goOnFor : GoodIn wsX7_simulate wsX7_goOnFor := goodIn_r _ [40, 41, 42, 43, 9, 44, 45, 46, 47, 34, 35, 36, 48, 49, 50, 51, 52, 53, 54, 55, 56, 57, 58, 59, 60, 61, 62, 63, 64, 65, 66, 67, 68, 69, 70, 30, 29, 28, 77, 78, 79, 80, 81, 82, 83, 84, 85, 86, 87, 88, 89, 90, 91, 92, 93] (by decide +kernel) (by decide +kernel)
set_option maxRecDepth 20000 in
theorem gX7_simulate_X7_goOnFor : GoodIn wsX7_simulate (wsV RX7 174 RX7 yX7_goOnFor wsX7_goOnFor) := goodIn_app (goodIn_of _ (by decide +kernel)) ggX7_simulate_X7_goOnFor
set_option maxRecDepth 20000 in
theorem ggX7_simulate_X7_channels : GoodIn wsX7_simulate wsX7_channels := goodIn_r _ [73, 34, 35, 9, 36] (by decide +kernel) (by decide +kernel)
set_option maxRecDepth 20000 in
theorem gX7_simulate_X7_channels : GoodIn wsX7_simulate (va_wsS RX7 139 yX7_channels wsX7_channels) := goodIn_app (goodIn_of _ (by decide +kernel)) ggX7_simulate_X7_channels
set_option maxRecDepth 20000 in
theorem ggX7_simulate_X7_sum : GoodIn wsX7_simulate wsX7_sum := goodIn_r _ [76] (by decide +kernel) (by decide +kernel)
set_option maxRecDepth 20000 in
theorem gX7_simulate_X7_sum : GoodIn wsX7_simulate (va_wsS RX7 145 yX7_sum wsX7_sum) := goodIn_app (goodIn_of _ (by decide +kernel)) ggX7_simulate_X7_sum
theorem dX7_simulate_0 : decode cX7_simulate 0 = .ok (.aload_n 0, 1) := by decide +kernel
theorem dX7_simulate_1 : decode cX7_simulate 1 = .ok (.iload_n 3, 1) := by decide +kernel
theorem dX7_simulate_2 : decode cX7_simulate 2 = .ok (.i2l, 1) := by decide +kernel
theorem dX7_simulate_3 : decode cX7_simulate 3 = .ok (.lconst 1, 1) := by decide +kernel
theorem dX7_simulate_4 : decode cX7_simulate 4 = .ok (.ldc2_w 191, 3) := by decide +kernel
theorem dX7_simulate_7 : decode cX7_simulate 7 = .ok (.invokestatic 47, 3) := by decide +kernel
theorem dX7_simulate_10 : decode cX7_simulate 10 = .ok (.ifCond .eq 7, 3) := by decide +kernel
theorem dX7_simulate_13 : decode cX7_simulate 13 = .ok (.iconst 0, 1) := by decide +kernel
theorem dX7_simulate_14 : decode cX7_simulate 14 = .ok (.goto 4, 3) := by decide +kernel
theorem dX7_simulate_17 : decode cX7_simulate 17 = .ok (.iconst 1, 1) := by decide +kernel
theorem dX7_simulate_18 : decode cX7_simulate 18 = .ok (.invokevirtual 102, 3) := by decide +kernel
theorem dX7_simulate_21 : decode cX7_simulate 21 = .ok (.ifCond .eq 5, 3) := by decide +kernel
theorem dX7_simulate_24 : decode cX7_simulate 24 = .ok (.iconst 0, 1) := by decide +kernel
theorem dX7_simulate_25 : decode cX7_simulate 25 = .ok (.ireturn, 1) := by decide +kernel
theorem dX7_simulate_26 : decode cX7_simulate 26 = .ok (.aload_n 0, 1) := by decide +kernel
theorem dX7_simulate_27 : decode cX7_simulate 27 = .ok (.invokevirtual 180, 3) := by decide +kernel
theorem dX7_simulate_30 : decode cX7_simulate 30 = .ok (.lload_n 1, 1) := by decide +kernel
theorem dX7_simulate_31 : decode cX7_simulate 31 = .ok (.lstore 4, 2) := by decide +kernel
theorem dX7_simulate_33 : decode cX7_simulate 33 = .ok (.iconst 0, 1) := by decide +kernel
theorem dX7_simulate_34 : decode cX7_simulate 34 = .ok (.istore 6, 2) := by decide +kernel
theorem dX7_simulate_36 : decode cX7_simulate 36 = .ok (.iload 6, 2) := by decide +kernel
theorem dX7_simulate_38 : decode cX7_simulate 38 = .ok (.iload_n 3, 1) := by decide +kernel
theorem dX7_simulate_39 : decode cX7_simulate 39 = .ok (.if_icmp .ge 93, 3) := by decide +kernel
theorem dX7_simulate_42 : decode cX7_simulate 42 = .ok (.lload 4, 2) := by decide +kernel
theorem dX7_simulate_44 : decode cX7_simulate 44 = .ok (.ldc2_w 193, 3) := by decide +kernel
theorem dX7_simulate_47 : decode cX7_simulate 47 = .ok (.lmul, 1) := by decide +kernel
theorem dX7_simulate_48 : decode cX7_simulate 48 = .ok (.ldc2_w 195, 3) := by decide +kernel
theorem dX7_simulate_51 : decode cX7_simulate 51 = .ok (.ladd, 1) := by decide +kernel
theorem dX7_simulate_52 : decode cX7_simulate 52 = .ok (.lstore 4, 2) := by decide +kernel
theorem dX7_simulate_54 : decode cX7_simulate 54 = .ok (.lload 4, 2) := by decide +kernel
theorem dX7_simulate_56 : decode cX7_simulate 56 = .ok (.bipush 33, 2) := by decide +kernel
theorem dX7_simulate_58 : decode cX7_simulate 58 = .ok (.lushr, 1) := by decide +kernel
theorem dX7_simulate_59 : decode cX7_simulate 59 = .ok (.l2i, 1) := by decide +kernel
theorem dX7_simulate_60 : decode cX7_simulate 60 = .ok (.istore 7, 2) := by decide +kernel
theorem dX7_simulate_62 : decode cX7_simulate 62 = .ok (.aload_n 0, 1) := by decide +kernel
theorem dX7_simulate_63 : decode cX7_simulate 63 = .ok (.getfield 19, 3) := by decide +kernel
theorem dX7_simulate_66 : decode cX7_simulate 66 = .ok (.iload 7, 2) := by decide +kernel
theorem dX7_simulate_68 : decode cX7_simulate 68 = .ok (.bipush 96, 2) := by decide +kernel
theorem dX7_simulate_70 : decode cX7_simulate 70 = .ok (.irem, 1) := by decide +kernel
theorem dX7_simulate_71 : decode cX7_simulate 71 = .ok (.iload 7, 2) := by decide +kernel
theorem dX7_simulate_73 : decode cX7_simulate 73 = .ok (.sipush 128, 3) := by decide +kernel
theorem dX7_simulate_76 : decode cX7_simulate 76 = .ok (.idiv, 1) := by decide +kernel
theorem dX7_simulate_77 : decode cX7_simulate 77 = .ok (.bipush 100, 2) := by decide +kernel
theorem dX7_simulate_79 : decode cX7_simulate 79 = .ok (.irem, 1) := by decide +kernel
theorem dX7_simulate_80 : decode cX7_simulate 80 = .ok (.iastore, 1) := by decide +kernel
theorem dX7_simulate_81 : decode cX7_simulate 81 = .ok (.iload 7, 2) := by decide +kernel
theorem dX7_simulate_83 : decode cX7_simulate 83 = .ok (.sipush 16384, 3) := by decide +kernel
theorem dX7_simulate_86 : decode cX7_simulate 86 = .ok (.idiv, 1) := by decide +kernel
theorem dX7_simulate_87 : decode cX7_simulate 87 = .ok (.iconst 4, 1) := by decide +kernel
theorem dX7_simulate_88 : decode cX7_simulate 88 = .ok (.irem, 1) := by decide +kernel
theorem dX7_simulate_89 : decode cX7_simulate 89 = .ok (.ifCond .ne 26, 3) := by decide +kernel
theorem dX7_simulate_92 : decode cX7_simulate 92 = .ok (.aload_n 0, 1) := by decide +kernel
theorem dX7_simulate_93 : decode cX7_simulate 93 = .ok (.getfield 19, 3) := by decide +kernel
theorem dX7_simulate_96 : decode cX7_simulate 96 = .ok (.iload 7, 2) := by decide +kernel
theorem dX7_simulate_98 : decode cX7_simulate 98 = .ok (.ldc 197, 2) := by decide +kernel
theorem dX7_simulate_100 : decode cX7_simulate 100 = .ok (.idiv, 1) := by decide +kernel
theorem dX7_simulate_101 : decode cX7_simulate 101 = .ok (.iconst 3, 1) := by decide +kernel
theorem dX7_simulate_102 : decode cX7_simulate 102 = .ok (.irem, 1) := by decide +kernel
theorem dX7_simulate_103 : decode cX7_simulate 103 = .ok (.iload 7, 2) := by decide +kernel
theorem dX7_simulate_105 : decode cX7_simulate 105 = .ok (.ldc 198, 2) := by decide +kernel
theorem dX7_simulate_107 : decode cX7_simulate 107 = .ok (.idiv, 1) := by decide +kernel
theorem dX7_simulate_108 : decode cX7_simulate 108 = .ok (.bipush 91, 2) := by decide +kernel
theorem dX7_simulate_110 : decode cX7_simulate 110 = .ok (.irem, 1) := by decide +kernel
theorem dX7_simulate_111 : decode cX7_simulate 111 = .ok (.iconst 1, 1) := by decide +kernel
theorem dX7_simulate_112 : decode cX7_simulate 112 = .ok (.invokestatic 125, 3) := by decide +kernel
theorem dX7_simulate_115 : decode cX7_simulate 115 = .ok (.aload_n 0, 1) := by decide +kernel
theorem dX7_simulate_116 : decode cX7_simulate 116 = .ok (.aload_n 0, 1) := by decide +kernel
theorem dX7_simulate_117 : decode cX7_simulate 117 = .ok (.getfield 19, 3) := by decide +kernel
theorem dX7_simulate_120 : decode cX7_simulate 120 = .ok (.bipush 8, 2) := by decide +kernel
theorem dX7_simulate_122 : decode cX7_simulate 122 = .ok (.invokevirtual 174, 3) := by decide +kernel
theorem dX7_simulate_125 : decode cX7_simulate 125 = .ok (.pop, 1) := by decide +kernel
theorem dX7_simulate_126 : decode cX7_simulate 126 = .ok (.iinc 6 1, 3) := by decide +kernel
theorem dX7_simulate_129 : decode cX7_simulate 129 = .ok (.goto (-93), 3) := by decide +kernel
theorem dX7_simulate_132 : decode cX7_simulate 132 = .ok (.sipush 10000, 3) := by decide +kernel
theorem dX7_simulate_135 : decode cX7_simulate 135 = .ok (.aload_n 0, 1) := by decide +kernel
theorem dX7_simulate_136 : decode cX7_simulate 136 = .ok (.getfield 19, 3) := by decide +kernel
theorem dX7_simulate_139 : decode cX7_simulate 139 = .ok (.iconst 3, 1) := by decide +kernel
theorem dX7_simulate_140 : decode cX7_simulate 140 = .ok (.invokestatic 139, 3) := by decide +kernel
theorem dX7_simulate_143 : decode cX7_simulate 143 = .ok (.imul, 1) := by decide +kernel
theorem dX7_simulate_144 : decode cX7_simulate 144 = .ok (.aload_n 0, 1) := by decide +kernel
theorem dX7_simulate_145 : decode cX7_simulate 145 = .ok (.getfield 19, 3) := by decide +kernel
theorem dX7_simulate_148 : decode cX7_simulate 148 = .ok (.iconst 0, 1) := by decide +kernel
theorem dX7_simulate_149 : decode cX7_simulate 149 = .ok (.invokestatic 145, 3) := by decide +kernel
theorem dX7_simulate_152 : decode cX7_simulate 152 = .ok (.iadd, 1) := by decide +kernel
theorem dX7_simulate_153 : decode cX7_simulate 153 = .ok (.ireturn, 1) := by decide +kernel
set_option maxRecDepth 20000 in
theorem ggX7_save_X7_in : GoodIn wsX7_save wsX7_in := goodIn_r _ [7] (by decide +kernel) (by decide +kernel)
set_option maxRecDepth 20000 in
theorem gX7_save_X7_in : GoodIn wsX7_save (va_wsS RX7 47 yX7_in wsX7_in) := goodIn_app (goodIn_of _ (by decide +kernel)) ggX7_save_X7_in
set_option maxRecDepth 20000 in
theorem ggX7_save_X7_refused : GoodIn wsX7_save wsX7_refused := goodIn_r _ [11, 12, 16, 17, 18, 19, 20, 21, 22, 23, 24, 25, 26, 27, 28, 29, 30, 31, 32] (by decide +kernel) (by decide +kernel)
set_option maxRecDepth 20000 in
theorem gX7_save_X7_refused : GoodIn wsX7_save (wsV RX7 102 RX7 yX7_refused wsX7_refused) := goodIn_app (goodIn_of _ (by decide +kernel)) ggX7_save_X7_refused
set_option maxRecDepth 20000 in
theorem ggX7_save_X7_copyEngine : GoodIn wsX7_save wsX7_copyEngine := goodIn_r _ [15] (by decide +kernel) (by decide +kernel)
set_option maxRecDepth 20000 in
theorem gX7_save_X7_copyEngine : GoodIn wsX7_save (va_wsS RX7 135 yX7_copyEngine wsX7_copyEngine) := goodIn_app (goodIn_of _ (by decide +kernel)) ggX7_save_X7_copyEngine
theorem dX7_save_0 : decode cX7_save 0 = .ok (.aload_n 0, 1) := by decide +kernel
theorem dX7_save_1 : decode cX7_save 1 = .ok (.iload_n 1, 1) := by decide +kernel
theorem dX7_save_2 : decode cX7_save 2 = .ok (.i2l, 1) := by decide +kernel
theorem dX7_save_3 : decode cX7_save 3 = .ok (.lconst 0, 1) := by decide +kernel
theorem dX7_save_4 : decode cX7_save 4 = .ok (.lconst 1, 1) := by decide +kernel
theorem dX7_save_5 : decode cX7_save 5 = .ok (.invokestatic 47, 3) := by decide +kernel
theorem dX7_save_8 : decode cX7_save 8 = .ok (.ifCond .eq 7, 3) := by decide +kernel
theorem dX7_save_11 : decode cX7_save 11 = .ok (.iconst 0, 1) := by decide +kernel
theorem dX7_save_12 : decode cX7_save 12 = .ok (.goto 4, 3) := by decide +kernel
theorem dX7_save_15 : decode cX7_save 15 = .ok (.iconst 1, 1) := by decide +kernel
theorem dX7_save_16 : decode cX7_save 16 = .ok (.invokevirtual 102, 3) := by decide +kernel
theorem dX7_save_19 : decode cX7_save 19 = .ok (.ifCond .eq 5, 3) := by decide +kernel
theorem dX7_save_22 : decode cX7_save 22 = .ok (.iconst 0, 1) := by decide +kernel
theorem dX7_save_23 : decode cX7_save 23 = .ok (.ireturn, 1) := by decide +kernel
theorem dX7_save_24 : decode cX7_save 24 = .ok (.aload_n 0, 1) := by decide +kernel
theorem dX7_save_25 : decode cX7_save 25 = .ok (.getfield 16, 3) := by decide +kernel
theorem dX7_save_28 : decode cX7_save 28 = .ok (.iconst 0, 1) := by decide +kernel
theorem dX7_save_29 : decode cX7_save 29 = .ok (.aload_n 0, 1) := by decide +kernel
theorem dX7_save_30 : decode cX7_save 30 = .ok (.getfield 25, 3) := by decide +kernel
theorem dX7_save_33 : decode cX7_save 33 = .ok (.sipush 427, 3) := by decide +kernel
theorem dX7_save_36 : decode cX7_save 36 = .ok (.iload_n 1, 1) := by decide +kernel
theorem dX7_save_37 : decode cX7_save 37 = .ok (.imul, 1) := by decide +kernel
theorem dX7_save_38 : decode cX7_save 38 = .ok (.invokestatic 135, 3) := by decide +kernel
theorem dX7_save_41 : decode cX7_save 41 = .ok (.aload_n 0, 1) := by decide +kernel
theorem dX7_save_42 : decode cX7_save 42 = .ok (.getfield 28, 3) := by decide +kernel
theorem dX7_save_45 : decode cX7_save 45 = .ok (.iload_n 1, 1) := by decide +kernel
theorem dX7_save_46 : decode cX7_save 46 = .ok (.iconst 1, 1) := by decide +kernel
theorem dX7_save_47 : decode cX7_save 47 = .ok (.bastore, 1) := by decide +kernel
theorem dX7_save_48 : decode cX7_save 48 = .ok (.aload_n 0, 1) := by decide +kernel
theorem dX7_save_49 : decode cX7_save 49 = .ok (.getfield 16, 3) := by decide +kernel
theorem dX7_save_52 : decode cX7_save 52 = .ok (.sipush 423, 3) := by decide +kernel
theorem dX7_save_55 : decode cX7_save 55 = .ok (.iaload, 1) := by decide +kernel
theorem dX7_save_56 : decode cX7_save 56 = .ok (.ireturn, 1) := by decide +kernel
set_option maxRecDepth 20000 in
theorem ggX7_restore_X7_in : GoodIn wsX7_restore wsX7_in := goodIn_r _ [8] (by decide +kernel) (by decide +kernel)
set_option maxRecDepth 20000 in
theorem gX7_restore_X7_in : GoodIn wsX7_restore (va_wsS RX7 47 yX7_in wsX7_in) := goodIn_app (goodIn_of _ (by decide +kernel)) ggX7_restore_X7_in
set_option maxRecDepth 20000 in
theorem ggX7_restore_X7_refused : GoodIn wsX7_restore wsX7_refused := goodIn_r _ [12, 13, 17, 18, 19, 20, 21, 22, 23, 24, 25, 26, 27, 28, 29, 30, 31, 32, 33] (by decide +kernel) (by decide +kernel)
set_option maxRecDepth 20000 in
theorem gX7_restore_X7_refused : GoodIn wsX7_restore (wsV RX7 102 RX7 yX7_refused wsX7_refused) := goodIn_app (goodIn_of _ (by decide +kernel)) ggX7_restore_X7_refused
set_option maxRecDepth 20000 in
theorem ggX7_restore_X7_copyEngine : GoodIn wsX7_restore wsX7_copyEngine := goodIn_r _ [16] (by decide +kernel) (by decide +kernel)
set_option maxRecDepth 20000 in
theorem gX7_restore_X7_copyEngine : GoodIn wsX7_restore (va_wsS RX7 135 yX7_copyEngine wsX7_copyEngine) := goodIn_app (goodIn_of _ (by decide +kernel)) ggX7_restore_X7_copyEngine
theorem dX7_restore_0 : decode cX7_restore 0 = .ok (.aload_n 0, 1) := by decide +kernel
theorem dX7_restore_1 : decode cX7_restore 1 = .ok (.iload_n 1, 1) := by decide +kernel
theorem dX7_restore_2 : decode cX7_restore 2 = .ok (.i2l, 1) := by decide +kernel
theorem dX7_restore_3 : decode cX7_restore 3 = .ok (.lconst 0, 1) := by decide +kernel
theorem dX7_restore_4 : decode cX7_restore 4 = .ok (.lconst 1, 1) := by decide +kernel
theorem dX7_restore_5 : decode cX7_restore 5 = .ok (.invokestatic 47, 3) := by decide +kernel
theorem dX7_restore_8 : decode cX7_restore 8 = .ok (.ifCond .ne 7, 3) := by decide +kernel
theorem dX7_restore_11 : decode cX7_restore 11 = .ok (.iconst 1, 1) := by decide +kernel
theorem dX7_restore_12 : decode cX7_restore 12 = .ok (.goto 17, 3) := by decide +kernel
theorem dX7_restore_15 : decode cX7_restore 15 = .ok (.aload_n 0, 1) := by decide +kernel
theorem dX7_restore_16 : decode cX7_restore 16 = .ok (.getfield 28, 3) := by decide +kernel
theorem dX7_restore_19 : decode cX7_restore 19 = .ok (.iload_n 1, 1) := by decide +kernel
theorem dX7_restore_20 : decode cX7_restore 20 = .ok (.baload, 1) := by decide +kernel
theorem dX7_restore_21 : decode cX7_restore 21 = .ok (.ifCond .ne 7, 3) := by decide +kernel
theorem dX7_restore_24 : decode cX7_restore 24 = .ok (.iconst 2, 1) := by decide +kernel
theorem dX7_restore_25 : decode cX7_restore 25 = .ok (.goto 4, 3) := by decide +kernel
theorem dX7_restore_28 : decode cX7_restore 28 = .ok (.iconst 0, 1) := by decide +kernel
theorem dX7_restore_29 : decode cX7_restore 29 = .ok (.invokevirtual 102, 3) := by decide +kernel
theorem dX7_restore_32 : decode cX7_restore 32 = .ok (.ifCond .eq 5, 3) := by decide +kernel
theorem dX7_restore_35 : decode cX7_restore 35 = .ok (.iconst 0, 1) := by decide +kernel
theorem dX7_restore_36 : decode cX7_restore 36 = .ok (.ireturn, 1) := by decide +kernel
theorem dX7_restore_37 : decode cX7_restore 37 = .ok (.aload_n 0, 1) := by decide +kernel
theorem dX7_restore_38 : decode cX7_restore 38 = .ok (.getfield 25, 3) := by decide +kernel
theorem dX7_restore_41 : decode cX7_restore 41 = .ok (.sipush 427, 3) := by decide +kernel
theorem dX7_restore_44 : decode cX7_restore 44 = .ok (.iload_n 1, 1) := by decide +kernel
theorem dX7_restore_45 : decode cX7_restore 45 = .ok (.imul, 1) := by decide +kernel
theorem dX7_restore_46 : decode cX7_restore 46 = .ok (.aload_n 0, 1) := by decide +kernel
theorem dX7_restore_47 : decode cX7_restore 47 = .ok (.getfield 16, 3) := by decide +kernel
theorem dX7_restore_50 : decode cX7_restore 50 = .ok (.iconst 0, 1) := by decide +kernel
theorem dX7_restore_51 : decode cX7_restore 51 = .ok (.invokestatic 135, 3) := by decide +kernel
theorem dX7_restore_54 : decode cX7_restore 54 = .ok (.aload_n 0, 1) := by decide +kernel
theorem dX7_restore_55 : decode cX7_restore 55 = .ok (.iconst 0, 1) := by decide +kernel
theorem dX7_restore_56 : decode cX7_restore 56 = .ok (.putfield 38, 3) := by decide +kernel
theorem dX7_restore_59 : decode cX7_restore 59 = .ok (.aload_n 0, 1) := by decide +kernel
theorem dX7_restore_60 : decode cX7_restore 60 = .ok (.getfield 16, 3) := by decide +kernel
theorem dX7_restore_63 : decode cX7_restore 63 = .ok (.sipush 423, 3) := by decide +kernel
theorem dX7_restore_66 : decode cX7_restore 66 = .ok (.iaload, 1) := by decide +kernel
theorem dX7_restore_67 : decode cX7_restore 67 = .ok (.ireturn, 1) := by decide +kernel
