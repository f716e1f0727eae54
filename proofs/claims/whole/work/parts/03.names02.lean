theorem dX0_init_0 : decode cX0_init 0 = .ok (.aload_n 0, 1) := by decide +kernel
theorem dX0_init_1 : decode cX0_init 1 = .ok (.invokespecial 1, 3) := by decide +kernel
theorem dX0_init_4 : decode cX0_init 4 = .ok (.aload_n 0, 1) := by decide +kernel
theorem dX0_init_5 : decode cX0_init 5 = .ok (.iload_n 1, 1) := by decide +kernel
theorem dX0_init_6 : decode cX0_init 6 = .ok (.putfield 7, 3) := by decide +kernel
theorem dX0_init_9 : decode cX0_init 9 = .ok (.aload_n 0, 1) := by decide +kernel
theorem dX0_init_10 : decode cX0_init 10 = .ok (.iload_n 2, 1) := by decide +kernel
theorem dX0_init_11 : decode cX0_init 11 = .ok (.putfield 13, 3) := by decide +kernel
theorem dX0_init_14 : decode cX0_init 14 = .ok (.return_, 1) := by decide +kernel
theorem dX1_init_0 : decode cX1_init 0 = .ok (.aload_n 0, 1) := by decide +kernel
theorem dX1_init_1 : decode cX1_init 1 = .ok (.invokespecial 3, 3) := by decide +kernel
theorem dX1_init_4 : decode cX1_init 4 = .ok (.aload_n 0, 1) := by decide +kernel
theorem dX1_init_5 : decode cX1_init 5 = .ok (.sipush 128, 3) := by decide +kernel
theorem dX1_init_8 : decode cX1_init 8 = .ok (.anewarray 9, 3) := by decide +kernel
theorem dX1_init_11 : decode cX1_init 11 = .ok (.putfield 11, 3) := by decide +kernel
theorem dX1_init_14 : decode cX1_init 14 = .ok (.return_, 1) := by decide +kernel
theorem dX1_entryOf_0 : decode cX1_entryOf 0 = .ok (.aload_n 0, 1) := by decide +kernel
theorem dX1_entryOf_1 : decode cX1_entryOf 1 = .ok (.getfield 11, 3) := by decide +kernel
theorem dX1_entryOf_4 : decode cX1_entryOf 4 = .ok (.iload_n 1, 1) := by decide +kernel
theorem dX1_entryOf_5 : decode cX1_entryOf 5 = .ok (.bipush 16, 2) := by decide +kernel
theorem dX1_entryOf_7 : decode cX1_entryOf 7 = .ok (.imul, 1) := by decide +kernel
theorem dX1_entryOf_8 : decode cX1_entryOf 8 = .ok (.iload_n 2, 1) := by decide +kernel
theorem dX1_entryOf_9 : decode cX1_entryOf 9 = .ok (.iadd, 1) := by decide +kernel
theorem dX1_entryOf_10 : decode cX1_entryOf 10 = .ok (.aaload, 1) := by decide +kernel
theorem dX1_entryOf_11 : decode cX1_entryOf 11 = .ok (.areturn, 1) := by decide +kernel
set_option maxRecDepth 20000 in
theorem ggX1_replacing_X1_init : GoodIn wsX1_replacing wsX1_init := goodIn_r _ [7, 8, 9, 10, 11, 4, 12] (by decide +kernel) (by decide +kernel)
set_option maxRecDepth 20000 in
theorem gX1_replacing_X1_init : GoodIn wsX1_replacing (wsX1_init) := ggX1_replacing_X1_init
theorem dX1_replacing_0 : decode cX1_replacing 0 = .ok (.new 12, 3) := by decide +kernel
theorem dX1_replacing_3 : decode cX1_replacing 3 = .ok (.dup, 1) := by decide +kernel
theorem dX1_replacing_4 : decode cX1_replacing 4 = .ok (.invokespecial 17, 3) := by decide +kernel
theorem dX1_replacing_7 : decode cX1_replacing 7 = .ok (.astore 4, 2) := by decide +kernel
theorem dX1_replacing_9 : decode cX1_replacing 9 = .ok (.iconst 0, 1) := by decide +kernel
theorem dX1_replacing_10 : decode cX1_replacing 10 = .ok (.istore 5, 2) := by decide +kernel
theorem dX1_replacing_12 : decode cX1_replacing 12 = .ok (.iload 5, 2) := by decide +kernel
theorem dX1_replacing_14 : decode cX1_replacing 14 = .ok (.sipush 128, 3) := by decide +kernel
theorem dX1_replacing_17 : decode cX1_replacing 17 = .ok (.if_icmp .ge 24, 3) := by decide +kernel
theorem dX1_replacing_20 : decode cX1_replacing 20 = .ok (.aload 4, 2) := by decide +kernel
theorem dX1_replacing_22 : decode cX1_replacing 22 = .ok (.getfield 11, 3) := by decide +kernel
theorem dX1_replacing_25 : decode cX1_replacing 25 = .ok (.iload 5, 2) := by decide +kernel
theorem dX1_replacing_27 : decode cX1_replacing 27 = .ok (.aload_n 0, 1) := by decide +kernel
theorem dX1_replacing_28 : decode cX1_replacing 28 = .ok (.getfield 11, 3) := by decide +kernel
theorem dX1_replacing_31 : decode cX1_replacing 31 = .ok (.iload 5, 2) := by decide +kernel
theorem dX1_replacing_33 : decode cX1_replacing 33 = .ok (.aaload, 1) := by decide +kernel
theorem dX1_replacing_34 : decode cX1_replacing 34 = .ok (.aastore, 1) := by decide +kernel
theorem dX1_replacing_35 : decode cX1_replacing 35 = .ok (.iinc 5 1, 3) := by decide +kernel
theorem dX1_replacing_38 : decode cX1_replacing 38 = .ok (.goto (-26), 3) := by decide +kernel
theorem dX1_replacing_41 : decode cX1_replacing 41 = .ok (.aload 4, 2) := by decide +kernel
theorem dX1_replacing_43 : decode cX1_replacing 43 = .ok (.getfield 11, 3) := by decide +kernel
theorem dX1_replacing_46 : decode cX1_replacing 46 = .ok (.iload_n 1, 1) := by decide +kernel
theorem dX1_replacing_47 : decode cX1_replacing 47 = .ok (.bipush 16, 2) := by decide +kernel
theorem dX1_replacing_49 : decode cX1_replacing 49 = .ok (.imul, 1) := by decide +kernel
theorem dX1_replacing_50 : decode cX1_replacing 50 = .ok (.iload_n 2, 1) := by decide +kernel
theorem dX1_replacing_51 : decode cX1_replacing 51 = .ok (.iadd, 1) := by decide +kernel
theorem dX1_replacing_52 : decode cX1_replacing 52 = .ok (.aload_n 3, 1) := by decide +kernel
theorem dX1_replacing_53 : decode cX1_replacing 53 = .ok (.aastore, 1) := by decide +kernel
theorem dX1_replacing_54 : decode cX1_replacing 54 = .ok (.aload 4, 2) := by decide +kernel
theorem dX1_replacing_56 : decode cX1_replacing 56 = .ok (.areturn, 1) := by decide +kernel
theorem dX2_init_0 : decode cX2_init 0 = .ok (.aload_n 0, 1) := by decide +kernel
theorem dX2_init_1 : decode cX2_init 1 = .ok (.invokespecial 1, 3) := by decide +kernel
theorem dX2_init_4 : decode cX2_init 4 = .ok (.aload_n 0, 1) := by decide +kernel
theorem dX2_init_5 : decode cX2_init 5 = .ok (.iload_n 1, 1) := by decide +kernel
theorem dX2_init_6 : decode cX2_init 6 = .ok (.putfield 7, 3) := by decide +kernel
theorem dX2_init_9 : decode cX2_init 9 = .ok (.aload_n 0, 1) := by decide +kernel
theorem dX2_init_10 : decode cX2_init 10 = .ok (.iload_n 2, 1) := by decide +kernel
theorem dX2_init_11 : decode cX2_init 11 = .ok (.putfield 13, 3) := by decide +kernel
theorem dX2_init_14 : decode cX2_init 14 = .ok (.aload_n 0, 1) := by decide +kernel
theorem dX2_init_15 : decode cX2_init 15 = .ok (.iload_n 3, 1) := by decide +kernel
theorem dX2_init_16 : decode cX2_init 16 = .ok (.putfield 16, 3) := by decide +kernel
theorem dX2_init_19 : decode cX2_init 19 = .ok (.return_, 1) := by decide +kernel
theorem dX2_areSame_0 : decode cX2_areSame 0 = .ok (.aload_n 0, 1) := by decide +kernel
theorem dX2_areSame_1 : decode cX2_areSame 1 = .ok (.ifnull 7, 3) := by decide +kernel
theorem dX2_areSame_4 : decode cX2_areSame 4 = .ok (.aload_n 1, 1) := by decide +kernel
theorem dX2_areSame_5 : decode cX2_areSame 5 = .ok (.ifnonnull 17, 3) := by decide +kernel
theorem dX2_areSame_8 : decode cX2_areSame 8 = .ok (.aload_n 0, 1) := by decide +kernel
theorem dX2_areSame_9 : decode cX2_areSame 9 = .ok (.ifnonnull 11, 3) := by decide +kernel
theorem dX2_areSame_12 : decode cX2_areSame 12 = .ok (.aload_n 1, 1) := by decide +kernel
theorem dX2_areSame_13 : decode cX2_areSame 13 = .ok (.ifnonnull 7, 3) := by decide +kernel
theorem dX2_areSame_16 : decode cX2_areSame 16 = .ok (.iconst 1, 1) := by decide +kernel
theorem dX2_areSame_17 : decode cX2_areSame 17 = .ok (.goto 4, 3) := by decide +kernel
theorem dX2_areSame_20 : decode cX2_areSame 20 = .ok (.iconst 0, 1) := by decide +kernel
theorem dX2_areSame_21 : decode cX2_areSame 21 = .ok (.ireturn, 1) := by decide +kernel
theorem dX2_areSame_22 : decode cX2_areSame 22 = .ok (.aload_n 0, 1) := by decide +kernel
theorem dX2_areSame_23 : decode cX2_areSame 23 = .ok (.getfield 7, 3) := by decide +kernel
theorem dX2_areSame_26 : decode cX2_areSame 26 = .ok (.aload_n 1, 1) := by decide +kernel
theorem dX2_areSame_27 : decode cX2_areSame 27 = .ok (.getfield 7, 3) := by decide +kernel
theorem dX2_areSame_30 : decode cX2_areSame 30 = .ok (.if_icmp .ne 29, 3) := by decide +kernel
theorem dX2_areSame_33 : decode cX2_areSame 33 = .ok (.aload_n 0, 1) := by decide +kernel
theorem dX2_areSame_34 : decode cX2_areSame 34 = .ok (.getfield 13, 3) := by decide +kernel
theorem dX2_areSame_37 : decode cX2_areSame 37 = .ok (.aload_n 1, 1) := by decide +kernel
theorem dX2_areSame_38 : decode cX2_areSame 38 = .ok (.getfield 13, 3) := by decide +kernel
theorem dX2_areSame_41 : decode cX2_areSame 41 = .ok (.if_icmp .ne 18, 3) := by decide +kernel
theorem dX2_areSame_44 : decode cX2_areSame 44 = .ok (.aload_n 0, 1) := by decide +kernel
theorem dX2_areSame_45 : decode cX2_areSame 45 = .ok (.getfield 16, 3) := by decide +kernel
theorem dX2_areSame_48 : decode cX2_areSame 48 = .ok (.aload_n 1, 1) := by decide +kernel
theorem dX2_areSame_49 : decode cX2_areSame 49 = .ok (.getfield 16, 3) := by decide +kernel
theorem dX2_areSame_52 : decode cX2_areSame 52 = .ok (.if_icmp .ne 7, 3) := by decide +kernel
theorem dX2_areSame_55 : decode cX2_areSame 55 = .ok (.iconst 1, 1) := by decide +kernel
theorem dX2_areSame_56 : decode cX2_areSame 56 = .ok (.goto 4, 3) := by decide +kernel
theorem dX2_areSame_59 : decode cX2_areSame 59 = .ok (.iconst 0, 1) := by decide +kernel
theorem dX2_areSame_60 : decode cX2_areSame 60 = .ok (.ireturn, 1) := by decide +kernel
theorem dX3_init_0 : decode cX3_init 0 = .ok (.aload_n 0, 1) := by decide +kernel
theorem dX3_init_1 : decode cX3_init 1 = .ok (.invokespecial 3, 3) := by decide +kernel
theorem dX3_init_4 : decode cX3_init 4 = .ok (.aload_n 0, 1) := by decide +kernel
theorem dX3_init_5 : decode cX3_init 5 = .ok (.bipush 16, 2) := by decide +kernel
theorem dX3_init_7 : decode cX3_init 7 = .ok (.newarray .long, 2) := by decide +kernel
theorem dX3_init_9 : decode cX3_init 9 = .ok (.putfield 9, 3) := by decide +kernel
theorem dX3_init_12 : decode cX3_init 12 = .ok (.return_, 1) := by decide +kernel
theorem dX3_begin_0 : decode cX3_begin 0 = .ok (.aload_n 0, 1) := by decide +kernel
theorem dX3_begin_1 : decode cX3_begin 1 = .ok (.iload_n 1, 1) := by decide +kernel
theorem dX3_begin_2 : decode cX3_begin 2 = .ok (.putfield 15, 3) := by decide +kernel
theorem dX3_begin_5 : decode cX3_begin 5 = .ok (.aload_n 0, 1) := by decide +kernel
theorem dX3_begin_6 : decode cX3_begin 6 = .ok (.aload_n 2, 1) := by decide +kernel
theorem dX3_begin_7 : decode cX3_begin 7 = .ok (.putfield 19, 3) := by decide +kernel
theorem dX3_begin_10 : decode cX3_begin 10 = .ok (.aload_n 0, 1) := by decide +kernel
theorem dX3_begin_11 : decode cX3_begin 11 = .ok (.iload_n 3, 1) := by decide +kernel
theorem dX3_begin_12 : decode cX3_begin 12 = .ok (.putfield 23, 3) := by decide +kernel
theorem dX3_begin_15 : decode cX3_begin 15 = .ok (.aload_n 0, 1) := by decide +kernel
theorem dX3_begin_16 : decode cX3_begin 16 = .ok (.iconst 0, 1) := by decide +kernel
theorem dX3_begin_17 : decode cX3_begin 17 = .ok (.putfield 27, 3) := by decide +kernel
theorem dX3_begin_20 : decode cX3_begin 20 = .ok (.aload_n 0, 1) := by decide +kernel
theorem dX3_begin_21 : decode cX3_begin 21 = .ok (.iconst 0, 1) := by decide +kernel
theorem dX3_begin_22 : decode cX3_begin 22 = .ok (.putfield 30, 3) := by decide +kernel
theorem dX3_begin_25 : decode cX3_begin 25 = .ok (.aload_n 0, 1) := by decide +kernel
theorem dX3_begin_26 : decode cX3_begin 26 = .ok (.iconst 0, 1) := by decide +kernel
theorem dX3_begin_27 : decode cX3_begin 27 = .ok (.putfield 33, 3) := by decide +kernel
theorem dX3_begin_30 : decode cX3_begin 30 = .ok (.aload_n 0, 1) := by decide +kernel
theorem dX3_begin_31 : decode cX3_begin 31 = .ok (.iconst 0, 1) := by decide +kernel
theorem dX3_begin_32 : decode cX3_begin 32 = .ok (.putfield 36, 3) := by decide +kernel
theorem dX3_begin_35 : decode cX3_begin 35 = .ok (.aload_n 0, 1) := by decide +kernel
theorem dX3_begin_36 : decode cX3_begin 36 = .ok (.iconst (-1), 1) := by decide +kernel
theorem dX3_begin_37 : decode cX3_begin 37 = .ok (.putfield 39, 3) := by decide +kernel
theorem dX3_begin_40 : decode cX3_begin 40 = .ok (.return_, 1) := by decide +kernel
set_option maxRecDepth 20000 in
theorem ggX3_isKnown_X6_bit : GoodIn wsX3_isKnown wsX6_bit := goodIn_r _ [4] (by decide +kernel) (by decide +kernel)
set_option maxRecDepth 20000 in
theorem gX3_isKnown_X6_bit_n42 : GoodIn wsX3_isKnown (wsX6_bit) := ggX3_isKnown_X6_bit
theorem dX3_isKnown_0 : decode cX3_isKnown 0 = .ok (.aload_n 0, 1) := by decide +kernel
theorem dX3_isKnown_1 : decode cX3_isKnown 1 = .ok (.getfield 33, 3) := by decide +kernel
theorem dX3_isKnown_4 : decode cX3_isKnown 4 = .ok (.iload_n 1, 1) := by decide +kernel
theorem dX3_isKnown_5 : decode cX3_isKnown 5 = .ok (.invokestatic 42, 3) := by decide +kernel
theorem dX3_isKnown_8 : decode cX3_isKnown 8 = .ok (.iand, 1) := by decide +kernel
theorem dX3_isKnown_9 : decode cX3_isKnown 9 = .ok (.ifCond .eq 7, 3) := by decide +kernel
theorem dX3_isKnown_12 : decode cX3_isKnown 12 = .ok (.iconst 1, 1) := by decide +kernel
theorem dX3_isKnown_13 : decode cX3_isKnown 13 = .ok (.goto 4, 3) := by decide +kernel
theorem dX3_isKnown_16 : decode cX3_isKnown 16 = .ok (.iconst 0, 1) := by decide +kernel
theorem dX3_isKnown_17 : decode cX3_isKnown 17 = .ok (.ireturn, 1) := by decide +kernel
set_option maxRecDepth 20000 in
theorem ggX3_isUnderWay_X6_bit : GoodIn wsX3_isUnderWay wsX6_bit := goodIn_r _ [4] (by decide +kernel) (by decide +kernel)
set_option maxRecDepth 20000 in
theorem gX3_isUnderWay_X6_bit_n42 : GoodIn wsX3_isUnderWay (wsX6_bit) := ggX3_isUnderWay_X6_bit
theorem dX3_isUnderWay_0 : decode cX3_isUnderWay 0 = .ok (.aload_n 0, 1) := by decide +kernel
theorem dX3_isUnderWay_1 : decode cX3_isUnderWay 1 = .ok (.getfield 30, 3) := by decide +kernel
theorem dX3_isUnderWay_4 : decode cX3_isUnderWay 4 = .ok (.iload_n 1, 1) := by decide +kernel
theorem dX3_isUnderWay_5 : decode cX3_isUnderWay 5 = .ok (.invokestatic 42, 3) := by decide +kernel
theorem dX3_isUnderWay_8 : decode cX3_isUnderWay 8 = .ok (.iand, 1) := by decide +kernel
theorem dX3_isUnderWay_9 : decode cX3_isUnderWay 9 = .ok (.ifCond .eq 7, 3) := by decide +kernel
theorem dX3_isUnderWay_12 : decode cX3_isUnderWay 12 = .ok (.iconst 1, 1) := by decide +kernel
theorem dX3_isUnderWay_13 : decode cX3_isUnderWay 13 = .ok (.goto 4, 3) := by decide +kernel
theorem dX3_isUnderWay_16 : decode cX3_isUnderWay 16 = .ok (.iconst 0, 1) := by decide +kernel
theorem dX3_isUnderWay_17 : decode cX3_isUnderWay 17 = .ok (.ireturn, 1) := by decide +kernel
set_option maxRecDepth 20000 in
theorem ggX3_finish_X6_bit : GoodIn wsX3_finish wsX6_bit := goodIn_r _ [6] (by decide +kernel) (by decide +kernel)
set_option maxRecDepth 20000 in
theorem gX3_finish_X6_bit_n42 : GoodIn wsX3_finish (wsX6_bit) := ggX3_finish_X6_bit
theorem dX3_finish_0 : decode cX3_finish 0 = .ok (.aload_n 0, 1) := by decide +kernel
theorem dX3_finish_1 : decode cX3_finish 1 = .ok (.getfield 9, 3) := by decide +kernel
theorem dX3_finish_4 : decode cX3_finish 4 = .ok (.iload_n 1, 1) := by decide +kernel
theorem dX3_finish_5 : decode cX3_finish 5 = .ok (.lload_n 2, 1) := by decide +kernel
theorem dX3_finish_6 : decode cX3_finish 6 = .ok (.lastore, 1) := by decide +kernel
theorem dX3_finish_7 : decode cX3_finish 7 = .ok (.aload_n 0, 1) := by decide +kernel
theorem dX3_finish_8 : decode cX3_finish 8 = .ok (.dup, 1) := by decide +kernel
theorem dX3_finish_9 : decode cX3_finish 9 = .ok (.getfield 30, 3) := by decide +kernel
theorem dX3_finish_12 : decode cX3_finish 12 = .ok (.iload_n 1, 1) := by decide +kernel
theorem dX3_finish_13 : decode cX3_finish 13 = .ok (.invokestatic 42, 3) := by decide +kernel
theorem dX3_finish_16 : decode cX3_finish 16 = .ok (.iconst (-1), 1) := by decide +kernel
theorem dX3_finish_17 : decode cX3_finish 17 = .ok (.ixor, 1) := by decide +kernel
theorem dX3_finish_18 : decode cX3_finish 18 = .ok (.iand, 1) := by decide +kernel
theorem dX3_finish_19 : decode cX3_finish 19 = .ok (.putfield 30, 3) := by decide +kernel
theorem dX3_finish_22 : decode cX3_finish 22 = .ok (.aload_n 0, 1) := by decide +kernel
theorem dX3_finish_23 : decode cX3_finish 23 = .ok (.dup, 1) := by decide +kernel
theorem dX3_finish_24 : decode cX3_finish 24 = .ok (.getfield 33, 3) := by decide +kernel
theorem dX3_finish_27 : decode cX3_finish 27 = .ok (.iload_n 1, 1) := by decide +kernel
theorem dX3_finish_28 : decode cX3_finish 28 = .ok (.invokestatic 42, 3) := by decide +kernel
theorem dX3_finish_31 : decode cX3_finish 31 = .ok (.ior, 1) := by decide +kernel
theorem dX3_finish_32 : decode cX3_finish 32 = .ok (.putfield 33, 3) := by decide +kernel
theorem dX3_finish_35 : decode cX3_finish 35 = .ok (.return_, 1) := by decide +kernel
theorem dX3_fail_0 : decode cX3_fail 0 = .ok (.aload_n 0, 1) := by decide +kernel
theorem dX3_fail_1 : decode cX3_fail 1 = .ok (.iload_n 1, 1) := by decide +kernel
theorem dX3_fail_2 : decode cX3_fail 2 = .ok (.putfield 36, 3) := by decide +kernel
theorem dX3_fail_5 : decode cX3_fail 5 = .ok (.aload_n 0, 1) := by decide +kernel
theorem dX3_fail_6 : decode cX3_fail 6 = .ok (.iload_n 2, 1) := by decide +kernel
theorem dX3_fail_7 : decode cX3_fail 7 = .ok (.putfield 39, 3) := by decide +kernel
theorem dX3_fail_10 : decode cX3_fail 10 = .ok (.iconst 0, 1) := by decide +kernel
theorem dX3_fail_11 : decode cX3_fail 11 = .ok (.ireturn, 1) := by decide +kernel
theorem dX4_init_0 : decode cX4_init 0 = .ok (.aload_n 0, 1) := by decide +kernel
theorem dX4_init_1 : decode cX4_init 1 = .ok (.invokespecial 3, 3) := by decide +kernel
theorem dX4_init_4 : decode cX4_init 4 = .ok (.aload_n 0, 1) := by decide +kernel
theorem dX4_init_5 : decode cX4_init 5 = .ok (.bipush 17, 2) := by decide +kernel
theorem dX4_init_7 : decode cX4_init 7 = .ok (.newarray .int, 2) := by decide +kernel
theorem dX4_init_9 : decode cX4_init 9 = .ok (.putfield 9, 3) := by decide +kernel
theorem dX4_init_12 : decode cX4_init 12 = .ok (.aload_n 0, 1) := by decide +kernel
theorem dX4_init_13 : decode cX4_init 13 = .ok (.bipush 16, 2) := by decide +kernel
theorem dX4_init_15 : decode cX4_init 15 = .ok (.anewarray 15, 3) := by decide +kernel
theorem dX4_init_18 : decode cX4_init 18 = .ok (.putfield 17, 3) := by decide +kernel
theorem dX4_init_21 : decode cX4_init 21 = .ok (.aload_n 0, 1) := by decide +kernel
theorem dX4_init_22 : decode cX4_init 22 = .ok (.bipush 16, 2) := by decide +kernel
theorem dX4_init_24 : decode cX4_init 24 = .ok (.newarray .int, 2) := by decide +kernel
theorem dX4_init_26 : decode cX4_init 26 = .ok (.putfield 21, 3) := by decide +kernel
theorem dX4_init_29 : decode cX4_init 29 = .ok (.aload_n 0, 1) := by decide +kernel
theorem dX4_init_30 : decode cX4_init 30 = .ok (.iload_n 1, 1) := by decide +kernel
theorem dX4_init_31 : decode cX4_init 31 = .ok (.putfield 24, 3) := by decide +kernel
theorem dX4_init_34 : decode cX4_init 34 = .ok (.aload_n 0, 1) := by decide +kernel
theorem dX4_init_35 : decode cX4_init 35 = .ok (.iload_n 2, 1) := by decide +kernel
theorem dX4_init_36 : decode cX4_init 36 = .ok (.putfield 28, 3) := by decide +kernel
theorem dX4_init_39 : decode cX4_init 39 = .ok (.aload_n 0, 1) := by decide +kernel
theorem dX4_init_40 : decode cX4_init 40 = .ok (.iload_n 3, 1) := by decide +kernel
theorem dX4_init_41 : decode cX4_init 41 = .ok (.putfield 31, 3) := by decide +kernel
theorem dX4_init_44 : decode cX4_init 44 = .ok (.aload_n 0, 1) := by decide +kernel
theorem dX4_init_45 : decode cX4_init 45 = .ok (.iload 4, 2) := by decide +kernel
theorem dX4_init_47 : decode cX4_init 47 = .ok (.putfield 34, 3) := by decide +kernel
theorem dX4_init_50 : decode cX4_init 50 = .ok (.return_, 1) := by decide +kernel
theorem dX4_lockOf_0 : decode cX4_lockOf 0 = .ok (.iload_n 0, 1) := by decide +kernel
theorem dX4_lockOf_1 : decode cX4_lockOf 1 = .ok (.iconst (-1), 1) := by decide +kernel
theorem dX4_lockOf_2 : decode cX4_lockOf 2 = .ok (.if_icmp .ne 8, 3) := by decide +kernel
theorem dX4_lockOf_5 : decode cX4_lockOf 5 = .ok (.bipush 16, 2) := by decide +kernel
theorem dX4_lockOf_7 : decode cX4_lockOf 7 = .ok (.goto 4, 3) := by decide +kernel
theorem dX4_lockOf_10 : decode cX4_lockOf 10 = .ok (.iload_n 0, 1) := by decide +kernel
theorem dX4_lockOf_11 : decode cX4_lockOf 11 = .ok (.ireturn, 1) := by decide +kernel
theorem dX4_selects_0 : decode cX4_selects 0 = .ok (.aload_n 0, 1) := by decide +kernel
theorem dX4_selects_1 : decode cX4_selects 1 = .ok (.getfield 31, 3) := by decide +kernel
theorem dX4_selects_4 : decode cX4_selects 4 = .ok (.tableswitch 76 1 3 #[28, 45, 62], 28) := by decide +kernel
theorem dX4_selects_32 : decode cX4_selects 32 = .ok (.aload_n 2, 1) := by decide +kernel
theorem dX4_selects_33 : decode cX4_selects 33 = .ok (.getfield 37, 3) := by decide +kernel
theorem dX4_selects_36 : decode cX4_selects 36 = .ok (.aload_n 0, 1) := by decide +kernel
theorem dX4_selects_37 : decode cX4_selects 37 = .ok (.getfield 34, 3) := by decide +kernel
theorem dX4_selects_40 : decode cX4_selects 40 = .ok (.if_icmp .ne 7, 3) := by decide +kernel
theorem dX4_selects_43 : decode cX4_selects 43 = .ok (.iconst 1, 1) := by decide +kernel
theorem dX4_selects_44 : decode cX4_selects 44 = .ok (.goto 4, 3) := by decide +kernel
theorem dX4_selects_47 : decode cX4_selects 47 = .ok (.iconst 0, 1) := by decide +kernel
theorem dX4_selects_48 : decode cX4_selects 48 = .ok (.ireturn, 1) := by decide +kernel
theorem dX4_selects_49 : decode cX4_selects 49 = .ok (.aload_n 2, 1) := by decide +kernel
theorem dX4_selects_50 : decode cX4_selects 50 = .ok (.getfield 42, 3) := by decide +kernel
theorem dX4_selects_53 : decode cX4_selects 53 = .ok (.aload_n 0, 1) := by decide +kernel
theorem dX4_selects_54 : decode cX4_selects 54 = .ok (.getfield 34, 3) := by decide +kernel
theorem dX4_selects_57 : decode cX4_selects 57 = .ok (.if_icmp .ne 7, 3) := by decide +kernel
theorem dX4_selects_60 : decode cX4_selects 60 = .ok (.iconst 1, 1) := by decide +kernel
theorem dX4_selects_61 : decode cX4_selects 61 = .ok (.goto 4, 3) := by decide +kernel
theorem dX4_selects_64 : decode cX4_selects 64 = .ok (.iconst 0, 1) := by decide +kernel
theorem dX4_selects_65 : decode cX4_selects 65 = .ok (.ireturn, 1) := by decide +kernel
theorem dX4_selects_66 : decode cX4_selects 66 = .ok (.iload_n 1, 1) := by decide +kernel
theorem dX4_selects_67 : decode cX4_selects 67 = .ok (.aload_n 0, 1) := by decide +kernel
theorem dX4_selects_68 : decode cX4_selects 68 = .ok (.getfield 34, 3) := by decide +kernel
theorem dX4_selects_71 : decode cX4_selects 71 = .ok (.if_icmp .ne 7, 3) := by decide +kernel
theorem dX4_selects_74 : decode cX4_selects 74 = .ok (.iconst 1, 1) := by decide +kernel
theorem dX4_selects_75 : decode cX4_selects 75 = .ok (.goto 4, 3) := by decide +kernel
theorem dX4_selects_78 : decode cX4_selects 78 = .ok (.iconst 0, 1) := by decide +kernel
theorem dX4_selects_79 : decode cX4_selects 79 = .ok (.ireturn, 1) := by decide +kernel
theorem dX4_selects_80 : decode cX4_selects 80 = .ok (.iconst 1, 1) := by decide +kernel
theorem dX4_selects_81 : decode cX4_selects 81 = .ok (.ireturn, 1) := by decide +kernel
theorem dX4_bucket_0 : decode cX4_bucket 0 = .ok (.bipush 31, 2) := by decide +kernel
theorem dX4_bucket_2 : decode cX4_bucket 2 = .ok (.iload_n 1, 1) := by decide +kernel
theorem dX4_bucket_3 : decode cX4_bucket 3 = .ok (.imul, 1) := by decide +kernel
theorem dX4_bucket_4 : decode cX4_bucket 4 = .ok (.bipush 17, 2) := by decide +kernel
theorem dX4_bucket_6 : decode cX4_bucket 6 = .ok (.iload_n 2, 1) := by decide +kernel
theorem dX4_bucket_7 : decode cX4_bucket 7 = .ok (.imul, 1) := by decide +kernel
theorem dX4_bucket_8 : decode cX4_bucket 8 = .ok (.iadd, 1) := by decide +kernel
theorem dX4_bucket_9 : decode cX4_bucket 9 = .ok (.bipush 7, 2) := by decide +kernel
theorem dX4_bucket_11 : decode cX4_bucket 11 = .ok (.aload_n 0, 1) := by decide +kernel
theorem dX4_bucket_12 : decode cX4_bucket 12 = .ok (.getfield 24, 3) := by decide +kernel
theorem dX4_bucket_15 : decode cX4_bucket 15 = .ok (.imul, 1) := by decide +kernel
theorem dX4_bucket_16 : decode cX4_bucket 16 = .ok (.iadd, 1) := by decide +kernel
theorem dX4_bucket_17 : decode cX4_bucket 17 = .ok (.bipush 100, 2) := by decide +kernel
theorem dX4_bucket_19 : decode cX4_bucket 19 = .ok (.irem, 1) := by decide +kernel
theorem dX4_bucket_20 : decode cX4_bucket 20 = .ok (.ireturn, 1) := by decide +kernel
set_option maxRecDepth 20000 in
theorem ggX4_newEntryFor_X4_bucket : GoodIn wsX4_newEntryFor wsX4_bucket := goodIn_r _ [6, 7, 8, 9, 10, 11, 12, 13, 14] (by decide +kernel) (by decide +kernel)
set_option maxRecDepth 20000 in
theorem gX4_newEntryFor_X4_bucket : GoodIn wsX4_newEntryFor (wsV RX4 45 RX4 yX4_bucket wsX4_bucket) := goodIn_app (goodIn_of _ (by decide +kernel)) ggX4_newEntryFor_X4_bucket
theorem dX4_newEntryFor_0 : decode cX4_newEntryFor 0 = .ok (.aload_n 0, 1) := by decide +kernel
theorem dX4_newEntryFor_1 : decode cX4_newEntryFor 1 = .ok (.getfield 17, 3) := by decide +kernel
theorem dX4_newEntryFor_4 : decode cX4_newEntryFor 4 = .ok (.iload_n 2, 1) := by decide +kernel
theorem dX4_newEntryFor_5 : decode cX4_newEntryFor 5 = .ok (.aaload, 1) := by decide +kernel
theorem dX4_newEntryFor_6 : decode cX4_newEntryFor 6 = .ok (.astore_n 3, 1) := by decide +kernel
theorem dX4_newEntryFor_7 : decode cX4_newEntryFor 7 = .ok (.aload_n 3, 1) := by decide +kernel
theorem dX4_newEntryFor_8 : decode cX4_newEntryFor 8 = .ok (.ifnull 23, 3) := by decide +kernel
theorem dX4_newEntryFor_11 : decode cX4_newEntryFor 11 = .ok (.aload_n 0, 1) := by decide +kernel
theorem dX4_newEntryFor_12 : decode cX4_newEntryFor 12 = .ok (.iload_n 1, 1) := by decide +kernel
theorem dX4_newEntryFor_13 : decode cX4_newEntryFor 13 = .ok (.iload_n 2, 1) := by decide +kernel
theorem dX4_newEntryFor_14 : decode cX4_newEntryFor 14 = .ok (.invokevirtual 45, 3) := by decide +kernel
theorem dX4_newEntryFor_17 : decode cX4_newEntryFor 17 = .ok (.aload_n 3, 1) := by decide +kernel
theorem dX4_newEntryFor_18 : decode cX4_newEntryFor 18 = .ok (.getfield 49, 3) := by decide +kernel
theorem dX4_newEntryFor_21 : decode cX4_newEntryFor 21 = .ok (.if_icmp .ge 10, 3) := by decide +kernel
theorem dX4_newEntryFor_24 : decode cX4_newEntryFor 24 = .ok (.aload_n 3, 1) := by decide +kernel
theorem dX4_newEntryFor_25 : decode cX4_newEntryFor 25 = .ok (.getfield 52, 3) := by decide +kernel
theorem dX4_newEntryFor_28 : decode cX4_newEntryFor 28 = .ok (.goto 4, 3) := by decide +kernel
theorem dX4_newEntryFor_31 : decode cX4_newEntryFor 31 = .ok (.aconst_null, 1) := by decide +kernel
theorem dX4_newEntryFor_32 : decode cX4_newEntryFor 32 = .ok (.areturn, 1) := by decide +kernel
set_option maxRecDepth 20000 in
theorem ggX4_isHeldAgainst_X4_isHeldByOther : GoodIn wsX4_isHeldAgainst wsX4_isHeldByOther := goodIn_r _ [5, 6, 7, 8, 9, 10, 11, 12, 13] (by decide +kernel) (by decide +kernel)
set_option maxRecDepth 20000 in
theorem gX4_isHeldAgainst_X4_isHeldByOther : GoodIn wsX4_isHeldAgainst (wsV RX4 56 RX4 yX4_isHeldByOther wsX4_isHeldByOther) := goodIn_app (goodIn_of _ (by decide +kernel)) ggX4_isHeldAgainst_X4_isHeldByOther
theorem dX4_isHeldAgainst_0 : decode cX4_isHeldAgainst 0 = .ok (.aload_n 0, 1) := by decide +kernel
theorem dX4_isHeldAgainst_1 : decode cX4_isHeldAgainst 1 = .ok (.bipush 16, 2) := by decide +kernel
theorem dX4_isHeldAgainst_3 : decode cX4_isHeldAgainst 3 = .ok (.iload_n 2, 1) := by decide +kernel
theorem dX4_isHeldAgainst_4 : decode cX4_isHeldAgainst 4 = .ok (.invokevirtual 56, 3) := by decide +kernel
theorem dX4_isHeldAgainst_7 : decode cX4_isHeldAgainst 7 = .ok (.ifCond .ne 12, 3) := by decide +kernel
theorem dX4_isHeldAgainst_10 : decode cX4_isHeldAgainst 10 = .ok (.aload_n 0, 1) := by decide +kernel
theorem dX4_isHeldAgainst_11 : decode cX4_isHeldAgainst 11 = .ok (.iload_n 1, 1) := by decide +kernel
theorem dX4_isHeldAgainst_12 : decode cX4_isHeldAgainst 12 = .ok (.iload_n 2, 1) := by decide +kernel
theorem dX4_isHeldAgainst_13 : decode cX4_isHeldAgainst 13 = .ok (.invokevirtual 56, 3) := by decide +kernel
theorem dX4_isHeldAgainst_16 : decode cX4_isHeldAgainst 16 = .ok (.ifCond .eq 7, 3) := by decide +kernel
theorem dX4_isHeldAgainst_19 : decode cX4_isHeldAgainst 19 = .ok (.iconst 1, 1) := by decide +kernel
theorem dX4_isHeldAgainst_20 : decode cX4_isHeldAgainst 20 = .ok (.goto 4, 3) := by decide +kernel
theorem dX4_isHeldAgainst_23 : decode cX4_isHeldAgainst 23 = .ok (.iconst 0, 1) := by decide +kernel
theorem dX4_isHeldAgainst_24 : decode cX4_isHeldAgainst 24 = .ok (.ireturn, 1) := by decide +kernel
set_option maxRecDepth 20000 in
theorem ggX4_canBeHeld_X4_isHeldAgainst : GoodIn wsX4_canBeHeld wsX4_isHeldAgainst := goodIn_r _ [5, 6, 7, 8, 4, 9, 10, 11, 12, 13, 14, 15, 16, 17] (by decide +kernel) (by decide +kernel)
set_option maxRecDepth 20000 in
theorem gX4_canBeHeld_X4_isHeldAgainst : GoodIn wsX4_canBeHeld (wsV RX4 60 RX4 yX4_isHeldAgainst wsX4_isHeldAgainst) := goodIn_app (goodIn_of _ (by decide +kernel)) ggX4_canBeHeld_X4_isHeldAgainst
set_option maxRecDepth 20000 in
theorem ggX4_canBeHeld_X4_isHeldByOther : GoodIn wsX4_canBeHeld wsX4_isHeldByOther := goodIn_r _ [9, 10, 11, 12, 13, 14, 15, 16, 17] (by decide +kernel) (by decide +kernel)
set_option maxRecDepth 20000 in
theorem gX4_canBeHeld_X4_isHeldByOther : GoodIn wsX4_canBeHeld (wsV RX4 56 RX4 yX4_isHeldByOther wsX4_isHeldByOther) := goodIn_app (goodIn_of _ (by decide +kernel)) ggX4_canBeHeld_X4_isHeldByOther
theorem dX4_canBeHeld_0 : decode cX4_canBeHeld 0 = .ok (.iload_n 1, 1) := by decide +kernel
theorem dX4_canBeHeld_1 : decode cX4_canBeHeld 1 = .ok (.iconst (-1), 1) := by decide +kernel
theorem dX4_canBeHeld_2 : decode cX4_canBeHeld 2 = .ok (.if_icmp .eq 18, 3) := by decide +kernel
theorem dX4_canBeHeld_5 : decode cX4_canBeHeld 5 = .ok (.aload_n 0, 1) := by decide +kernel
theorem dX4_canBeHeld_6 : decode cX4_canBeHeld 6 = .ok (.iload_n 1, 1) := by decide +kernel
theorem dX4_canBeHeld_7 : decode cX4_canBeHeld 7 = .ok (.iload_n 2, 1) := by decide +kernel
theorem dX4_canBeHeld_8 : decode cX4_canBeHeld 8 = .ok (.invokevirtual 60, 3) := by decide +kernel
theorem dX4_canBeHeld_11 : decode cX4_canBeHeld 11 = .ok (.ifCond .ne 7, 3) := by decide +kernel
theorem dX4_canBeHeld_14 : decode cX4_canBeHeld 14 = .ok (.iconst 1, 1) := by decide +kernel
theorem dX4_canBeHeld_15 : decode cX4_canBeHeld 15 = .ok (.goto 4, 3) := by decide +kernel
theorem dX4_canBeHeld_18 : decode cX4_canBeHeld 18 = .ok (.iconst 0, 1) := by decide +kernel
theorem dX4_canBeHeld_19 : decode cX4_canBeHeld 19 = .ok (.ireturn, 1) := by decide +kernel
theorem dX4_canBeHeld_20 : decode cX4_canBeHeld 20 = .ok (.iconst 0, 1) := by decide +kernel
theorem dX4_canBeHeld_21 : decode cX4_canBeHeld 21 = .ok (.istore_n 3, 1) := by decide +kernel
theorem dX4_canBeHeld_22 : decode cX4_canBeHeld 22 = .ok (.iload_n 3, 1) := by decide +kernel
theorem dX4_canBeHeld_23 : decode cX4_canBeHeld 23 = .ok (.bipush 16, 2) := by decide +kernel
theorem dX4_canBeHeld_25 : decode cX4_canBeHeld 25 = .ok (.if_icmp .gt 20, 3) := by decide +kernel
theorem dX4_canBeHeld_28 : decode cX4_canBeHeld 28 = .ok (.aload_n 0, 1) := by decide +kernel
theorem dX4_canBeHeld_29 : decode cX4_canBeHeld 29 = .ok (.iload_n 3, 1) := by decide +kernel
theorem dX4_canBeHeld_30 : decode cX4_canBeHeld 30 = .ok (.iload_n 2, 1) := by decide +kernel
theorem dX4_canBeHeld_31 : decode cX4_canBeHeld 31 = .ok (.invokevirtual 56, 3) := by decide +kernel
theorem dX4_canBeHeld_34 : decode cX4_canBeHeld 34 = .ok (.ifCond .eq 5, 3) := by decide +kernel
theorem dX4_canBeHeld_37 : decode cX4_canBeHeld 37 = .ok (.iconst 0, 1) := by decide +kernel
theorem dX4_canBeHeld_38 : decode cX4_canBeHeld 38 = .ok (.ireturn, 1) := by decide +kernel
theorem dX4_canBeHeld_39 : decode cX4_canBeHeld 39 = .ok (.iinc 3 1, 3) := by decide +kernel
theorem dX4_canBeHeld_42 : decode cX4_canBeHeld 42 = .ok (.goto (-20), 3) := by decide +kernel
theorem dX4_canBeHeld_45 : decode cX4_canBeHeld 45 = .ok (.iconst 1, 1) := by decide +kernel
theorem dX4_canBeHeld_46 : decode cX4_canBeHeld 46 = .ok (.ireturn, 1) := by decide +kernel
theorem dX4_countHeld_0 : decode cX4_countHeld 0 = .ok (.iconst 0, 1) := by decide +kernel
theorem dX4_countHeld_1 : decode cX4_countHeld 1 = .ok (.istore_n 2, 1) := by decide +kernel
theorem dX4_countHeld_2 : decode cX4_countHeld 2 = .ok (.iconst 0, 1) := by decide +kernel
theorem dX4_countHeld_3 : decode cX4_countHeld 3 = .ok (.istore_n 3, 1) := by decide +kernel
theorem dX4_countHeld_4 : decode cX4_countHeld 4 = .ok (.iload_n 3, 1) := by decide +kernel
theorem dX4_countHeld_5 : decode cX4_countHeld 5 = .ok (.bipush 16, 2) := by decide +kernel
theorem dX4_countHeld_7 : decode cX4_countHeld 7 = .ok (.if_icmp .gt 22, 3) := by decide +kernel
theorem dX4_countHeld_10 : decode cX4_countHeld 10 = .ok (.aload_n 0, 1) := by decide +kernel
theorem dX4_countHeld_11 : decode cX4_countHeld 11 = .ok (.getfield 9, 3) := by decide +kernel
theorem dX4_countHeld_14 : decode cX4_countHeld 14 = .ok (.iload_n 3, 1) := by decide +kernel
theorem dX4_countHeld_15 : decode cX4_countHeld 15 = .ok (.iaload, 1) := by decide +kernel
theorem dX4_countHeld_16 : decode cX4_countHeld 16 = .ok (.iload_n 1, 1) := by decide +kernel
theorem dX4_countHeld_17 : decode cX4_countHeld 17 = .ok (.if_icmp .ne 6, 3) := by decide +kernel
theorem dX4_countHeld_20 : decode cX4_countHeld 20 = .ok (.iinc 2 1, 3) := by decide +kernel
theorem dX4_countHeld_23 : decode cX4_countHeld 23 = .ok (.iinc 3 1, 3) := by decide +kernel
theorem dX4_countHeld_26 : decode cX4_countHeld 26 = .ok (.goto (-22), 3) := by decide +kernel
theorem dX4_countHeld_29 : decode cX4_countHeld 29 = .ok (.iload_n 2, 1) := by decide +kernel
theorem dX4_countHeld_30 : decode cX4_countHeld 30 = .ok (.ireturn, 1) := by decide +kernel
theorem dX4_isHeldByOther_0 : decode cX4_isHeldByOther 0 = .ok (.aload_n 0, 1) := by decide +kernel
theorem dX4_isHeldByOther_1 : decode cX4_isHeldByOther 1 = .ok (.getfield 9, 3) := by decide +kernel
theorem dX4_isHeldByOther_4 : decode cX4_isHeldByOther 4 = .ok (.iload_n 1, 1) := by decide +kernel
theorem dX4_isHeldByOther_5 : decode cX4_isHeldByOther 5 = .ok (.iaload, 1) := by decide +kernel
theorem dX4_isHeldByOther_6 : decode cX4_isHeldByOther 6 = .ok (.ifCond .eq 17, 3) := by decide +kernel
theorem dX4_isHeldByOther_9 : decode cX4_isHeldByOther 9 = .ok (.aload_n 0, 1) := by decide +kernel
theorem dX4_isHeldByOther_10 : decode cX4_isHeldByOther 10 = .ok (.getfield 9, 3) := by decide +kernel
theorem dX4_isHeldByOther_13 : decode cX4_isHeldByOther 13 = .ok (.iload_n 1, 1) := by decide +kernel
theorem dX4_isHeldByOther_14 : decode cX4_isHeldByOther 14 = .ok (.iaload, 1) := by decide +kernel
theorem dX4_isHeldByOther_15 : decode cX4_isHeldByOther 15 = .ok (.iload_n 2, 1) := by decide +kernel
theorem dX4_isHeldByOther_16 : decode cX4_isHeldByOther 16 = .ok (.if_icmp .eq 7, 3) := by decide +kernel
theorem dX4_isHeldByOther_19 : decode cX4_isHeldByOther 19 = .ok (.iconst 1, 1) := by decide +kernel
theorem dX4_isHeldByOther_20 : decode cX4_isHeldByOther 20 = .ok (.goto 4, 3) := by decide +kernel
theorem dX4_isHeldByOther_23 : decode cX4_isHeldByOther 23 = .ok (.iconst 0, 1) := by decide +kernel
theorem dX4_isHeldByOther_24 : decode cX4_isHeldByOther 24 = .ok (.ireturn, 1) := by decide +kernel
theorem dX5_init_0 : decode cX5_init 0 = .ok (.aload_n 0, 1) := by decide +kernel
theorem dX5_init_1 : decode cX5_init 1 = .ok (.invokespecial 1, 3) := by decide +kernel
theorem dX5_init_4 : decode cX5_init 4 = .ok (.aload_n 0, 1) := by decide +kernel
theorem dX5_init_5 : decode cX5_init 5 = .ok (.aload_n 1, 1) := by decide +kernel
theorem dX5_init_6 : decode cX5_init 6 = .ok (.putfield 7, 3) := by decide +kernel
theorem dX5_init_9 : decode cX5_init 9 = .ok (.return_, 1) := by decide +kernel
set_option maxRecDepth 20000 in
theorem ggX6_init_Jx4a65c_init_da8c8 : GoodIn wsX6_init wsJx4a65c_init_da8c8 := goodIn_r _ [20, 21, 22, 23, 24, 25, 26, 27, 28, 29, 30, 31, 32, 2, 3, 96, 97, 98] (by decide +kernel) (by decide +kernel)
set_option maxRecDepth 20000 in
theorem gX6_init_Jx4a65c_init_da8c8 : GoodIn wsX6_init (wsJx4a65c_init_da8c8) := ggX6_init_Jx4a65c_init_da8c8
set_option maxRecDepth 20000 in
theorem ggX6_init_X3_init : GoodIn wsX6_init wsX3_init := goodIn_r _ [34, 35, 2, 3, 36, 37, 104, 105, 106, 107, 108, 109, 110, 111, 112] (by decide +kernel) (by decide +kernel)
set_option maxRecDepth 20000 in
theorem gX6_init_X3_init_n24 : GoodIn wsX6_init (wsX3_init) := ggX6_init_X3_init
set_option maxRecDepth 20000 in
theorem ggX6_init_X1_init : GoodIn wsX6_init wsX1_init := goodIn_r _ [39, 40, 2, 3, 41, 42, 113] (by decide +kernel) (by decide +kernel)
set_option maxRecDepth 20000 in
theorem gX6_init_X1_init_n31 : GoodIn wsX6_init (wsX1_init) := ggX6_init_X1_init
set_option maxRecDepth 20000 in
theorem ggX6_init_Jx4a65c_add_9ea2d : GoodIn wsX6_init wsJx4a65c_add_9ea2d := goodIn_r _ [46, 47, 48, 22, 49, 50, 51, 52, 6, 53, 54, 55, 56, 57, 58, 59, 60, 61, 21, 62, 63, 64, 65, 66, 67, 68, 69, 70, 71, 72, 73, 74, 75, 76, 77, 78, 79, 80, 81, 82, 83, 84, 85, 86, 87, 88, 89, 90, 91, 92, 93, 94, 95, 96, 97, 98] (by decide +kernel) (by decide +kernel)
set_option maxRecDepth 20000 in
theorem gX6_init_Jx4a65c_add_9ea2d : GoodIn wsX6_init (wsV RX6 36 RJx4a65c yJx4a65c_add_9ea2d wsJx4a65c_add_9ea2d) := goodIn_app (goodIn_of _ (by decide +kernel)) ggX6_init_Jx4a65c_add_9ea2d
theorem dX6_init_0 : decode cX6_init 0 = .ok (.aload_n 0, 1) := by decide +kernel
theorem dX6_init_1 : decode cX6_init 1 = .ok (.invokespecial 1, 3) := by decide +kernel
theorem dX6_init_4 : decode cX6_init 4 = .ok (.aload_n 0, 1) := by decide +kernel
theorem dX6_init_5 : decode cX6_init 5 = .ok (.new 7, 3) := by decide +kernel
theorem dX6_init_8 : decode cX6_init 8 = .ok (.dup, 1) := by decide +kernel
theorem dX6_init_9 : decode cX6_init 9 = .ok (.invokespecial 9, 3) := by decide +kernel
theorem dX6_init_12 : decode cX6_init 12 = .ok (.putfield 10, 3) := by decide +kernel
theorem dX6_init_15 : decode cX6_init 15 = .ok (.aload_n 0, 1) := by decide +kernel
theorem dX6_init_16 : decode cX6_init 16 = .ok (.new 7, 3) := by decide +kernel
theorem dX6_init_19 : decode cX6_init 19 = .ok (.dup, 1) := by decide +kernel
theorem dX6_init_20 : decode cX6_init 20 = .ok (.invokespecial 9, 3) := by decide +kernel
theorem dX6_init_23 : decode cX6_init 23 = .ok (.putfield 16, 3) := by decide +kernel
theorem dX6_init_26 : decode cX6_init 26 = .ok (.aload_n 0, 1) := by decide +kernel
theorem dX6_init_27 : decode cX6_init 27 = .ok (.new 7, 3) := by decide +kernel
theorem dX6_init_30 : decode cX6_init 30 = .ok (.dup, 1) := by decide +kernel
theorem dX6_init_31 : decode cX6_init 31 = .ok (.invokespecial 9, 3) := by decide +kernel
theorem dX6_init_34 : decode cX6_init 34 = .ok (.putfield 19, 3) := by decide +kernel
theorem dX6_init_37 : decode cX6_init 37 = .ok (.aload_n 0, 1) := by decide +kernel
theorem dX6_init_38 : decode cX6_init 38 = .ok (.new 22, 3) := by decide +kernel
theorem dX6_init_41 : decode cX6_init 41 = .ok (.dup, 1) := by decide +kernel
theorem dX6_init_42 : decode cX6_init 42 = .ok (.invokespecial 24, 3) := by decide +kernel
theorem dX6_init_45 : decode cX6_init 45 = .ok (.putfield 25, 3) := by decide +kernel
theorem dX6_init_48 : decode cX6_init 48 = .ok (.aload_n 0, 1) := by decide +kernel
theorem dX6_init_49 : decode cX6_init 49 = .ok (.new 29, 3) := by decide +kernel
theorem dX6_init_52 : decode cX6_init 52 = .ok (.dup, 1) := by decide +kernel
theorem dX6_init_53 : decode cX6_init 53 = .ok (.invokespecial 31, 3) := by decide +kernel
theorem dX6_init_56 : decode cX6_init 56 = .ok (.putfield 32, 3) := by decide +kernel
theorem dX6_init_59 : decode cX6_init 59 = .ok (.aload_n 0, 1) := by decide +kernel
theorem dX6_init_60 : decode cX6_init 60 = .ok (.getfield 19, 3) := by decide +kernel
theorem dX6_init_63 : decode cX6_init 63 = .ok (.aload_n 0, 1) := by decide +kernel
theorem dX6_init_64 : decode cX6_init 64 = .ok (.getfield 32, 3) := by decide +kernel
theorem dX6_init_67 : decode cX6_init 67 = .ok (.invokevirtual 36, 3) := by decide +kernel
theorem dX6_init_70 : decode cX6_init 70 = .ok (.pop, 1) := by decide +kernel
theorem dX6_init_71 : decode cX6_init 71 = .ok (.return_, 1) := by decide +kernel
set_option maxRecDepth 20000 in
theorem ggX6_client_X6_isArea : GoodIn wsX6_client wsX6_isArea := goodIn_r _ [8] (by decide +kernel) (by decide +kernel)
set_option maxRecDepth 20000 in
theorem gX6_client_X6_isArea : GoodIn wsX6_client (va_wsS RX6 40 yX6_isArea wsX6_isArea) := goodIn_app (goodIn_of _ (by decide +kernel)) ggX6_client_X6_isArea
set_option maxRecDepth 20000 in
theorem ggX6_client_X6_checkArgument : GoodIn wsX6_client wsX6_checkArgument := goodIn_ca (goodIn_r _ [11, 12, 13] (by decide +kernel) (by decide +kernel)) (goodIn_sub (fun _ h => List.mem_cons_of_mem _ (List.mem_append_left _ (List.mem_append_right _ h))) (by decide +kernel))
set_option maxRecDepth 20000 in
theorem gX6_client_X6_checkArgument : GoodIn wsX6_client (va_wsS RX6 44 yX6_checkArgument wsX6_checkArgument) := goodIn_app (goodIn_of _ (by decide +kernel)) ggX6_client_X6_checkArgument
set_option maxRecDepth 20000 in
theorem ggX6_client_Jx4a65c_size_8abf5 : GoodIn wsX6_client wsJx4a65c_size_8abf5 := goodIn_r _ [18, 19, 94, 95, 96] (by decide +kernel) (by decide +kernel)
set_option maxRecDepth 20000 in
theorem gX6_client_Jx4a65c_size_8abf5 : GoodIn wsX6_client (wsV RX6 48 RJx4a65c yJx4a65c_size_8abf5 wsJx4a65c_size_8abf5) := goodIn_app (goodIn_of _ (by decide +kernel)) ggX6_client_Jx4a65c_size_8abf5
set_option maxRecDepth 20000 in
theorem ggX6_client_X6_checkState : GoodIn wsX6_client wsX6_checkState := goodIn_ca (goodIn_r _ [22, 23, 24] (by decide +kernel) (by decide +kernel)) (goodIn_sub (fun _ h => List.mem_cons_of_mem _ (List.mem_append_right _ h)) (by decide +kernel))
set_option maxRecDepth 20000 in
theorem gX6_client_X6_checkState : GoodIn wsX6_client (va_wsS RX6 52 yX6_checkState wsX6_checkState) := goodIn_app (goodIn_of _ (by decide +kernel)) ggX6_client_X6_checkState
set_option maxRecDepth 20000 in
theorem ggX6_client_X0_init : GoodIn wsX6_client wsX0_init := goodIn_r _ [27, 28, 29, 30, 31, 32, 92, 93] (by decide +kernel) (by decide +kernel)
set_option maxRecDepth 20000 in
theorem gX6_client_X0_init : GoodIn wsX6_client (wsX0_init) := ggX6_client_X0_init
set_option maxRecDepth 20000 in
theorem ggX6_client_Jx4a65c_add_9ea2d : GoodIn wsX6_client wsJx4a65c_add_9ea2d := goodIn_r _ [36, 37, 38, 39, 19, 40, 41, 42, 17, 43, 44, 45, 46, 47, 48, 49, 50, 51, 52, 53, 54, 55, 56, 57, 58, 59, 60, 61, 62, 63, 64, 65, 66, 67, 68, 69, 70, 71, 72, 73, 74, 75, 76, 77, 78, 79, 80, 81, 82, 83, 84, 85, 86, 94, 95, 96] (by decide +kernel) (by decide +kernel)
set_option maxRecDepth 20000 in
theorem gX6_client_Jx4a65c_add_9ea2d : GoodIn wsX6_client (wsV RX6 36 RJx4a65c yJx4a65c_add_9ea2d wsJx4a65c_add_9ea2d) := goodIn_app (goodIn_of _ (by decide +kernel)) ggX6_client_Jx4a65c_add_9ea2d
theorem dX6_client_0 : decode cX6_client 0 = .ok (.iload_n 1, 1) := by decide +kernel
theorem dX6_client_1 : decode cX6_client 1 = .ok (.invokestatic 40, 3) := by decide +kernel
theorem dX6_client_4 : decode cX6_client 4 = .ok (.ifCond .eq 14, 3) := by decide +kernel
theorem dX6_client_7 : decode cX6_client 7 = .ok (.iload_n 2, 1) := by decide +kernel
theorem dX6_client_8 : decode cX6_client 8 = .ok (.invokestatic 40, 3) := by decide +kernel
theorem dX6_client_11 : decode cX6_client 11 = .ok (.ifCond .eq 7, 3) := by decide +kernel
theorem dX6_client_14 : decode cX6_client 14 = .ok (.iconst 1, 1) := by decide +kernel
theorem dX6_client_15 : decode cX6_client 15 = .ok (.goto 4, 3) := by decide +kernel
theorem dX6_client_18 : decode cX6_client 18 = .ok (.iconst 0, 1) := by decide +kernel
theorem dX6_client_19 : decode cX6_client 19 = .ok (.invokestatic 44, 3) := by decide +kernel
theorem dX6_client_22 : decode cX6_client 22 = .ok (.aload_n 0, 1) := by decide +kernel
theorem dX6_client_23 : decode cX6_client 23 = .ok (.getfield 10, 3) := by decide +kernel
theorem dX6_client_26 : decode cX6_client 26 = .ok (.invokevirtual 48, 3) := by decide +kernel
theorem dX6_client_29 : decode cX6_client 29 = .ok (.bipush 12, 2) := by decide +kernel
theorem dX6_client_31 : decode cX6_client 31 = .ok (.if_icmp .ge 7, 3) := by decide +kernel
theorem dX6_client_34 : decode cX6_client 34 = .ok (.iconst 1, 1) := by decide +kernel
theorem dX6_client_35 : decode cX6_client 35 = .ok (.goto 4, 3) := by decide +kernel
theorem dX6_client_38 : decode cX6_client 38 = .ok (.iconst 0, 1) := by decide +kernel
theorem dX6_client_39 : decode cX6_client 39 = .ok (.invokestatic 52, 3) := by decide +kernel
theorem dX6_client_42 : decode cX6_client 42 = .ok (.aload_n 0, 1) := by decide +kernel
theorem dX6_client_43 : decode cX6_client 43 = .ok (.getfield 10, 3) := by decide +kernel
theorem dX6_client_46 : decode cX6_client 46 = .ok (.new 55, 3) := by decide +kernel
theorem dX6_client_49 : decode cX6_client 49 = .ok (.dup, 1) := by decide +kernel
theorem dX6_client_50 : decode cX6_client 50 = .ok (.iload_n 1, 1) := by decide +kernel
theorem dX6_client_51 : decode cX6_client 51 = .ok (.iload_n 2, 1) := by decide +kernel
theorem dX6_client_52 : decode cX6_client 52 = .ok (.invokespecial 57, 3) := by decide +kernel
theorem dX6_client_55 : decode cX6_client 55 = .ok (.invokevirtual 36, 3) := by decide +kernel
theorem dX6_client_58 : decode cX6_client 58 = .ok (.pop, 1) := by decide +kernel
theorem dX6_client_59 : decode cX6_client 59 = .ok (.aload_n 0, 1) := by decide +kernel
theorem dX6_client_60 : decode cX6_client 60 = .ok (.getfield 10, 3) := by decide +kernel
theorem dX6_client_63 : decode cX6_client 63 = .ok (.invokevirtual 48, 3) := by decide +kernel
theorem dX6_client_66 : decode cX6_client 66 = .ok (.iconst 1, 1) := by decide +kernel
theorem dX6_client_67 : decode cX6_client 67 = .ok (.isub, 1) := by decide +kernel
theorem dX6_client_68 : decode cX6_client 68 = .ok (.ireturn, 1) := by decide +kernel
set_option maxRecDepth 20000 in
theorem ggX6_move_X6_isClient : GoodIn wsX6_move wsX6_isClient := goodIn_r _ [7, 1, 8, 9, 10, 11, 12, 13, 44, 45, 46, 47, 48, 51, 52, 53] (by decide +kernel) (by decide +kernel)
set_option maxRecDepth 20000 in
theorem gX6_move_X6_isClient : GoodIn wsX6_move (wsV RX6 60 RX6 yX6_isClient wsX6_isClient) := goodIn_app (goodIn_of _ (by decide +kernel)) ggX6_move_X6_isClient
set_option maxRecDepth 20000 in
theorem ggX6_move_X6_checkThere : GoodIn wsX6_move wsX6_checkThere := goodIn_ca (goodIn_r _ [16, 17, 18] (by decide +kernel) (by decide +kernel)) (goodIn_sub (fun _ h => List.mem_cons_of_mem _ (List.mem_append_left _ (List.mem_append_right _ h))) (by decide +kernel))
set_option maxRecDepth 20000 in
theorem gX6_move_X6_checkThere : GoodIn wsX6_move (va_wsS RX6 63 yX6_checkThere wsX6_checkThere) := goodIn_app (goodIn_of _ (by decide +kernel)) ggX6_move_X6_checkThere
set_option maxRecDepth 20000 in
theorem ggX6_move_X6_isArea : GoodIn wsX6_move wsX6_isArea := goodIn_r _ [21] (by decide +kernel) (by decide +kernel)
set_option maxRecDepth 20000 in
theorem gX6_move_X6_isArea : GoodIn wsX6_move (va_wsS RX6 40 yX6_isArea wsX6_isArea) := goodIn_app (goodIn_of _ (by decide +kernel)) ggX6_move_X6_isArea
set_option maxRecDepth 20000 in
theorem ggX6_move_X6_checkArgument : GoodIn wsX6_move wsX6_checkArgument := goodIn_ca (goodIn_r _ [24, 25, 26] (by decide +kernel) (by decide +kernel)) (goodIn_sub (fun _ h => List.mem_cons_of_mem _ (List.mem_append_right _ h)) (by decide +kernel))
set_option maxRecDepth 20000 in
theorem gX6_move_X6_checkArgument : GoodIn wsX6_move (va_wsS RX6 44 yX6_checkArgument wsX6_checkArgument) := goodIn_app (goodIn_of _ (by decide +kernel)) ggX6_move_X6_checkArgument
set_option maxRecDepth 20000 in
theorem ggX6_move_Jx4a65c_get_915e3 : GoodIn wsX6_move wsJx4a65c_get_915e3 := goodIn_r _ [30, 13, 31, 32, 33, 34, 35, 36, 37, 38, 39, 40, 41, 11, 42, 43, 51, 52, 53] (by decide +kernel) (by decide +kernel)
set_option maxRecDepth 20000 in
theorem gX6_move_Jx4a65c_get_915e3 : GoodIn wsX6_move (wsV RX6 66 RJx4a65c yJx4a65c_get_915e3 wsJx4a65c_get_915e3) := goodIn_app (goodIn_of _ (by decide +kernel)) ggX6_move_Jx4a65c_get_915e3
theorem dX6_move_0 : decode cX6_move 0 = .ok (.aload_n 0, 1) := by decide +kernel
theorem dX6_move_1 : decode cX6_move 1 = .ok (.iload_n 1, 1) := by decide +kernel
theorem dX6_move_2 : decode cX6_move 2 = .ok (.invokevirtual 60, 3) := by decide +kernel
theorem dX6_move_5 : decode cX6_move 5 = .ok (.invokestatic 63, 3) := by decide +kernel
theorem dX6_move_8 : decode cX6_move 8 = .ok (.iload_n 2, 1) := by decide +kernel
theorem dX6_move_9 : decode cX6_move 9 = .ok (.invokestatic 40, 3) := by decide +kernel
theorem dX6_move_12 : decode cX6_move 12 = .ok (.ifCond .eq 14, 3) := by decide +kernel
theorem dX6_move_15 : decode cX6_move 15 = .ok (.iload_n 3, 1) := by decide +kernel
theorem dX6_move_16 : decode cX6_move 16 = .ok (.invokestatic 40, 3) := by decide +kernel
theorem dX6_move_19 : decode cX6_move 19 = .ok (.ifCond .eq 7, 3) := by decide +kernel
theorem dX6_move_22 : decode cX6_move 22 = .ok (.iconst 1, 1) := by decide +kernel
theorem dX6_move_23 : decode cX6_move 23 = .ok (.goto 4, 3) := by decide +kernel
theorem dX6_move_26 : decode cX6_move 26 = .ok (.iconst 0, 1) := by decide +kernel
theorem dX6_move_27 : decode cX6_move 27 = .ok (.invokestatic 44, 3) := by decide +kernel
theorem dX6_move_30 : decode cX6_move 30 = .ok (.aload_n 0, 1) := by decide +kernel
theorem dX6_move_31 : decode cX6_move 31 = .ok (.getfield 10, 3) := by decide +kernel
theorem dX6_move_34 : decode cX6_move 34 = .ok (.iload_n 1, 1) := by decide +kernel
theorem dX6_move_35 : decode cX6_move 35 = .ok (.invokevirtual 66, 3) := by decide +kernel
theorem dX6_move_38 : decode cX6_move 38 = .ok (.checkcast 55, 3) := by decide +kernel
theorem dX6_move_41 : decode cX6_move 41 = .ok (.astore 4, 2) := by decide +kernel
theorem dX6_move_43 : decode cX6_move 43 = .ok (.aload 4, 2) := by decide +kernel
theorem dX6_move_45 : decode cX6_move 45 = .ok (.iload_n 2, 1) := by decide +kernel
theorem dX6_move_46 : decode cX6_move 46 = .ok (.putfield 70, 3) := by decide +kernel
theorem dX6_move_49 : decode cX6_move 49 = .ok (.aload 4, 2) := by decide +kernel
theorem dX6_move_51 : decode cX6_move 51 = .ok (.iload_n 3, 1) := by decide +kernel
theorem dX6_move_52 : decode cX6_move 52 = .ok (.putfield 74, 3) := by decide +kernel
theorem dX6_move_55 : decode cX6_move 55 = .ok (.return_, 1) := by decide +kernel
set_option maxRecDepth 20000 in
theorem ggX6_clients_Jx4a65c_size_8abf5 : GoodIn wsX6_clients wsJx4a65c_size_8abf5 := goodIn_r _ [6, 7, 13, 14, 15] (by decide +kernel) (by decide +kernel)
set_option maxRecDepth 20000 in
theorem gX6_clients_Jx4a65c_size_8abf5 : GoodIn wsX6_clients (wsV RX6 48 RJx4a65c yJx4a65c_size_8abf5 wsJx4a65c_size_8abf5) := goodIn_app (goodIn_of _ (by decide +kernel)) ggX6_clients_Jx4a65c_size_8abf5
theorem dX6_clients_0 : decode cX6_clients 0 = .ok (.aload_n 0, 1) := by decide +kernel
theorem dX6_clients_1 : decode cX6_clients 1 = .ok (.getfield 10, 3) := by decide +kernel
theorem dX6_clients_4 : decode cX6_clients 4 = .ok (.invokevirtual 48, 3) := by decide +kernel
theorem dX6_clients_7 : decode cX6_clients 7 = .ok (.ireturn, 1) := by decide +kernel
set_option maxRecDepth 20000 in
theorem ggX6_layer_X6_isPrecedence : GoodIn wsX6_layer wsX6_isPrecedence := goodIn_r _ [8] (by decide +kernel) (by decide +kernel)
set_option maxRecDepth 20000 in
theorem gX6_layer_X6_isPrecedence : GoodIn wsX6_layer (va_wsS RX6 77 yX6_isPrecedence wsX6_isPrecedence) := goodIn_app (goodIn_of _ (by decide +kernel)) ggX6_layer_X6_isPrecedence
set_option maxRecDepth 20000 in
theorem ggX6_layer_X6_canSelect : GoodIn wsX6_layer wsX6_canSelect := goodIn_r _ [11, 12, 13, 7, 14] (by decide +kernel) (by decide +kernel)
set_option maxRecDepth 20000 in
theorem gX6_layer_X6_canSelect : GoodIn wsX6_layer (va_wsS RX6 80 yX6_canSelect wsX6_canSelect) := goodIn_app (goodIn_of _ (by decide +kernel)) ggX6_layer_X6_canSelect
set_option maxRecDepth 20000 in
theorem ggX6_layer_X6_checkArgument : GoodIn wsX6_layer wsX6_checkArgument := goodIn_ca (goodIn_r _ [17, 18, 19] (by decide +kernel) (by decide +kernel)) (goodIn_sub (fun _ h => List.mem_cons_of_mem _ (List.mem_append_left _ (List.mem_append_right _ h))) (by decide +kernel))
set_option maxRecDepth 20000 in
theorem gX6_layer_X6_checkArgument : GoodIn wsX6_layer (va_wsS RX6 44 yX6_checkArgument wsX6_checkArgument) := goodIn_app (goodIn_of _ (by decide +kernel)) ggX6_layer_X6_checkArgument
set_option maxRecDepth 20000 in
theorem ggX6_layer_Jx4a65c_size_8abf5 : GoodIn wsX6_layer wsJx4a65c_size_8abf5 := goodIn_r _ [24, 25, 112, 113, 114] (by decide +kernel) (by decide +kernel)
set_option maxRecDepth 20000 in
theorem gX6_layer_Jx4a65c_size_8abf5 : GoodIn wsX6_layer (wsV RX6 48 RJx4a65c yJx4a65c_size_8abf5 wsJx4a65c_size_8abf5) := goodIn_app (goodIn_of _ (by decide +kernel)) ggX6_layer_Jx4a65c_size_8abf5
set_option maxRecDepth 20000 in
theorem ggX6_layer_X6_checkState : GoodIn wsX6_layer wsX6_checkState := goodIn_ca (goodIn_r _ [28, 29, 30] (by decide +kernel) (by decide +kernel)) (goodIn_sub (fun _ h => List.mem_cons_of_mem _ (List.mem_append_right _ h)) (by decide +kernel))
set_option maxRecDepth 20000 in
theorem gX6_layer_X6_checkState : GoodIn wsX6_layer (va_wsS RX6 52 yX6_checkState wsX6_checkState) := goodIn_app (goodIn_of _ (by decide +kernel)) ggX6_layer_X6_checkState
set_option maxRecDepth 20000 in
theorem ggX6_layer_X4_init : GoodIn wsX6_layer wsX4_init := goodIn_r _ [33, 34, 35, 36, 37, 38, 39, 40, 41, 42, 43, 44, 45, 105, 106, 107, 108, 109, 110, 111] (by decide +kernel) (by decide +kernel)
set_option maxRecDepth 20000 in
theorem gX6_layer_X4_init : GoodIn wsX6_layer (wsX4_init) := ggX6_layer_X4_init
set_option maxRecDepth 20000 in
theorem ggX6_layer_Jx4a65c_add_9ea2d : GoodIn wsX6_layer wsJx4a65c_add_9ea2d := goodIn_r _ [49, 50, 51, 52, 25, 53, 54, 55, 23, 56, 57, 58, 59, 60, 61, 62, 63, 64, 65, 66, 67, 68, 69, 70, 71, 72, 73, 74, 75, 76, 77, 78, 79, 80, 81, 82, 83, 84, 85, 86, 87, 88, 89, 90, 91, 92, 93, 94, 95, 96, 97, 98, 99, 112, 113, 114] (by decide +kernel) (by decide +kernel)
set_option maxRecDepth 20000 in
theorem gX6_layer_Jx4a65c_add_9ea2d : GoodIn wsX6_layer (wsV RX6 36 RJx4a65c yJx4a65c_add_9ea2d wsJx4a65c_add_9ea2d) := goodIn_app (goodIn_of _ (by decide +kernel)) ggX6_layer_Jx4a65c_add_9ea2d
theorem dX6_layer_0 : decode cX6_layer 0 = .ok (.iload_n 1, 1) := by decide +kernel
theorem dX6_layer_1 : decode cX6_layer 1 = .ok (.invokestatic 77, 3) := by decide +kernel
theorem dX6_layer_4 : decode cX6_layer 4 = .ok (.ifCond .eq 15, 3) := by decide +kernel
theorem dX6_layer_7 : decode cX6_layer 7 = .ok (.iload_n 2, 1) := by decide +kernel
theorem dX6_layer_8 : decode cX6_layer 8 = .ok (.iload_n 3, 1) := by decide +kernel
theorem dX6_layer_9 : decode cX6_layer 9 = .ok (.invokestatic 80, 3) := by decide +kernel
theorem dX6_layer_12 : decode cX6_layer 12 = .ok (.ifCond .eq 7, 3) := by decide +kernel
theorem dX6_layer_15 : decode cX6_layer 15 = .ok (.iconst 1, 1) := by decide +kernel
theorem dX6_layer_16 : decode cX6_layer 16 = .ok (.goto 4, 3) := by decide +kernel
theorem dX6_layer_19 : decode cX6_layer 19 = .ok (.iconst 0, 1) := by decide +kernel
theorem dX6_layer_20 : decode cX6_layer 20 = .ok (.invokestatic 44, 3) := by decide +kernel
theorem dX6_layer_23 : decode cX6_layer 23 = .ok (.aload_n 0, 1) := by decide +kernel
theorem dX6_layer_24 : decode cX6_layer 24 = .ok (.getfield 16, 3) := by decide +kernel
theorem dX6_layer_27 : decode cX6_layer 27 = .ok (.invokevirtual 48, 3) := by decide +kernel
theorem dX6_layer_30 : decode cX6_layer 30 = .ok (.bipush 8, 2) := by decide +kernel
theorem dX6_layer_32 : decode cX6_layer 32 = .ok (.if_icmp .ge 7, 3) := by decide +kernel
theorem dX6_layer_35 : decode cX6_layer 35 = .ok (.iconst 1, 1) := by decide +kernel
theorem dX6_layer_36 : decode cX6_layer 36 = .ok (.goto 4, 3) := by decide +kernel
theorem dX6_layer_39 : decode cX6_layer 39 = .ok (.iconst 0, 1) := by decide +kernel
theorem dX6_layer_40 : decode cX6_layer 40 = .ok (.invokestatic 52, 3) := by decide +kernel
theorem dX6_layer_43 : decode cX6_layer 43 = .ok (.aload_n 0, 1) := by decide +kernel
theorem dX6_layer_44 : decode cX6_layer 44 = .ok (.getfield 16, 3) := by decide +kernel
theorem dX6_layer_47 : decode cX6_layer 47 = .ok (.invokevirtual 48, 3) := by decide +kernel
theorem dX6_layer_50 : decode cX6_layer 50 = .ok (.istore 4, 2) := by decide +kernel
theorem dX6_layer_52 : decode cX6_layer 52 = .ok (.aload_n 0, 1) := by decide +kernel
theorem dX6_layer_53 : decode cX6_layer 53 = .ok (.getfield 16, 3) := by decide +kernel
theorem dX6_layer_56 : decode cX6_layer 56 = .ok (.new 84, 3) := by decide +kernel
theorem dX6_layer_59 : decode cX6_layer 59 = .ok (.dup, 1) := by decide +kernel
theorem dX6_layer_60 : decode cX6_layer 60 = .ok (.iload 4, 2) := by decide +kernel
theorem dX6_layer_62 : decode cX6_layer 62 = .ok (.iload_n 1, 1) := by decide +kernel
theorem dX6_layer_63 : decode cX6_layer 63 = .ok (.iload_n 2, 1) := by decide +kernel
theorem dX6_layer_64 : decode cX6_layer 64 = .ok (.iload_n 3, 1) := by decide +kernel
theorem dX6_layer_65 : decode cX6_layer 65 = .ok (.invokespecial 86, 3) := by decide +kernel
theorem dX6_layer_68 : decode cX6_layer 68 = .ok (.invokevirtual 36, 3) := by decide +kernel
theorem dX6_layer_71 : decode cX6_layer 71 = .ok (.pop, 1) := by decide +kernel
theorem dX6_layer_72 : decode cX6_layer 72 = .ok (.iload 4, 2) := by decide +kernel
theorem dX6_layer_74 : decode cX6_layer 74 = .ok (.ireturn, 1) := by decide +kernel
set_option maxRecDepth 20000 in
theorem ggX6_rank_X6_isLayer : GoodIn wsX6_rank wsX6_isLayer := goodIn_r _ [7, 1, 8, 9, 10, 11, 12, 13, 44, 45, 46, 47, 48, 56, 57, 58] (by decide +kernel) (by decide +kernel)
set_option maxRecDepth 20000 in
theorem gX6_rank_X6_isLayer : GoodIn wsX6_rank (wsV RX6 89 RX6 yX6_isLayer wsX6_isLayer) := goodIn_app (goodIn_of _ (by decide +kernel)) ggX6_rank_X6_isLayer
set_option maxRecDepth 20000 in
theorem ggX6_rank_X6_checkThere : GoodIn wsX6_rank wsX6_checkThere := goodIn_ca (goodIn_r _ [16, 17, 18] (by decide +kernel) (by decide +kernel)) (goodIn_sub (fun _ h => List.mem_cons_of_mem _ (List.mem_append_left _ (List.mem_append_right _ h))) (by decide +kernel))
set_option maxRecDepth 20000 in
theorem gX6_rank_X6_checkThere : GoodIn wsX6_rank (va_wsS RX6 63 yX6_checkThere wsX6_checkThere) := goodIn_app (goodIn_of _ (by decide +kernel)) ggX6_rank_X6_checkThere
set_option maxRecDepth 20000 in
theorem ggX6_rank_X6_isPrecedence : GoodIn wsX6_rank wsX6_isPrecedence := goodIn_r _ [21] (by decide +kernel) (by decide +kernel)
set_option maxRecDepth 20000 in
theorem gX6_rank_X6_isPrecedence : GoodIn wsX6_rank (va_wsS RX6 77 yX6_isPrecedence wsX6_isPrecedence) := goodIn_app (goodIn_of _ (by decide +kernel)) ggX6_rank_X6_isPrecedence
set_option maxRecDepth 20000 in
theorem ggX6_rank_X6_checkArgument : GoodIn wsX6_rank wsX6_checkArgument := goodIn_ca (goodIn_r _ [24, 25, 26] (by decide +kernel) (by decide +kernel)) (goodIn_sub (fun _ h => List.mem_cons_of_mem _ (List.mem_append_right _ h)) (by decide +kernel))
set_option maxRecDepth 20000 in
theorem gX6_rank_X6_checkArgument : GoodIn wsX6_rank (va_wsS RX6 44 yX6_checkArgument wsX6_checkArgument) := goodIn_app (goodIn_of _ (by decide +kernel)) ggX6_rank_X6_checkArgument
set_option maxRecDepth 20000 in
theorem ggX6_rank_Jx4a65c_get_915e3 : GoodIn wsX6_rank wsJx4a65c_get_915e3 := goodIn_r _ [30, 13, 31, 32, 33, 34, 35, 36, 37, 38, 39, 40, 41, 11, 42, 43, 56, 57, 58] (by decide +kernel) (by decide +kernel)
set_option maxRecDepth 20000 in
theorem gX6_rank_Jx4a65c_get_915e3 : GoodIn wsX6_rank (wsV RX6 66 RJx4a65c yJx4a65c_get_915e3 wsJx4a65c_get_915e3) := goodIn_app (goodIn_of _ (by decide +kernel)) ggX6_rank_Jx4a65c_get_915e3
theorem dX6_rank_0 : decode cX6_rank 0 = .ok (.aload_n 0, 1) := by decide +kernel
theorem dX6_rank_1 : decode cX6_rank 1 = .ok (.iload_n 1, 1) := by decide +kernel
theorem dX6_rank_2 : decode cX6_rank 2 = .ok (.invokevirtual 89, 3) := by decide +kernel
theorem dX6_rank_5 : decode cX6_rank 5 = .ok (.invokestatic 63, 3) := by decide +kernel
theorem dX6_rank_8 : decode cX6_rank 8 = .ok (.iload_n 2, 1) := by decide +kernel
theorem dX6_rank_9 : decode cX6_rank 9 = .ok (.invokestatic 77, 3) := by decide +kernel
theorem dX6_rank_12 : decode cX6_rank 12 = .ok (.invokestatic 44, 3) := by decide +kernel
theorem dX6_rank_15 : decode cX6_rank 15 = .ok (.aload_n 0, 1) := by decide +kernel
theorem dX6_rank_16 : decode cX6_rank 16 = .ok (.getfield 16, 3) := by decide +kernel
theorem dX6_rank_19 : decode cX6_rank 19 = .ok (.iload_n 1, 1) := by decide +kernel
theorem dX6_rank_20 : decode cX6_rank 20 = .ok (.invokevirtual 66, 3) := by decide +kernel
theorem dX6_rank_23 : decode cX6_rank 23 = .ok (.checkcast 84, 3) := by decide +kernel
theorem dX6_rank_26 : decode cX6_rank 26 = .ok (.astore_n 3, 1) := by decide +kernel
theorem dX6_rank_27 : decode cX6_rank 27 = .ok (.aload_n 3, 1) := by decide +kernel
theorem dX6_rank_28 : decode cX6_rank 28 = .ok (.getfield 92, 3) := by decide +kernel
theorem dX6_rank_31 : decode cX6_rank 31 = .ok (.istore 4, 2) := by decide +kernel
theorem dX6_rank_33 : decode cX6_rank 33 = .ok (.aload_n 3, 1) := by decide +kernel
theorem dX6_rank_34 : decode cX6_rank 34 = .ok (.iload_n 2, 1) := by decide +kernel
theorem dX6_rank_35 : decode cX6_rank 35 = .ok (.putfield 92, 3) := by decide +kernel
theorem dX6_rank_38 : decode cX6_rank 38 = .ok (.iload 4, 2) := by decide +kernel
theorem dX6_rank_40 : decode cX6_rank 40 = .ok (.ireturn, 1) := by decide +kernel
set_option maxRecDepth 20000 in
theorem ggX6_layers_Jx4a65c_size_8abf5 : GoodIn wsX6_layers wsJx4a65c_size_8abf5 := goodIn_r _ [6, 7, 13, 14, 15] (by decide +kernel) (by decide +kernel)
set_option maxRecDepth 20000 in
theorem gX6_layers_Jx4a65c_size_8abf5 : GoodIn wsX6_layers (wsV RX6 48 RJx4a65c yJx4a65c_size_8abf5 wsJx4a65c_size_8abf5) := goodIn_app (goodIn_of _ (by decide +kernel)) ggX6_layers_Jx4a65c_size_8abf5
theorem dX6_layers_0 : decode cX6_layers 0 = .ok (.aload_n 0, 1) := by decide +kernel
theorem dX6_layers_1 : decode cX6_layers 1 = .ok (.getfield 16, 3) := by decide +kernel
theorem dX6_layers_4 : decode cX6_layers 4 = .ok (.invokevirtual 48, 3) := by decide +kernel
theorem dX6_layers_7 : decode cX6_layers 7 = .ok (.ireturn, 1) := by decide +kernel
set_option maxRecDepth 20000 in
theorem ggX6_layerAt_Jx4a65c_size_8abf5 : GoodIn wsX6_layerAt wsJx4a65c_size_8abf5 := goodIn_r _ [8, 9, 42, 43, 44] (by decide +kernel) (by decide +kernel)
set_option maxRecDepth 20000 in
theorem gX6_layerAt_Jx4a65c_size_8abf5 : GoodIn wsX6_layerAt (wsV RX6 48 RJx4a65c yJx4a65c_size_8abf5 wsJx4a65c_size_8abf5) := goodIn_app (goodIn_of _ (by decide +kernel)) ggX6_layerAt_Jx4a65c_size_8abf5
set_option maxRecDepth 20000 in
theorem ggX6_layerAt_X6_placeOf : GoodIn wsX6_layerAt wsX6_placeOf := goodIn_r _ [14, 3, 4, 5, 6, 7, 8, 9, 15, 16, 17, 13, 18, 19, 20, 21, 22, 23, 24, 25, 26, 27, 28, 29, 30, 31, 32, 33, 34, 35, 36, 37, 38, 39, 40, 41, 42, 43, 44, 45, 46, 47, 48, 49, 50, 51] (by decide +kernel) (by decide +kernel)
set_option maxRecDepth 20000 in
theorem gX6_layerAt_X6_placeOf : GoodIn wsX6_layerAt (wsV RX6 95 RX6 yX6_placeOf wsX6_placeOf) := goodIn_app (goodIn_of _ (by decide +kernel)) ggX6_layerAt_X6_placeOf
theorem dX6_layerAt_0 : decode cX6_layerAt 0 = .ok (.iconst 0, 1) := by decide +kernel
theorem dX6_layerAt_1 : decode cX6_layerAt 1 = .ok (.istore_n 2, 1) := by decide +kernel
theorem dX6_layerAt_2 : decode cX6_layerAt 2 = .ok (.iload_n 2, 1) := by decide +kernel
theorem dX6_layerAt_3 : decode cX6_layerAt 3 = .ok (.aload_n 0, 1) := by decide +kernel
theorem dX6_layerAt_4 : decode cX6_layerAt 4 = .ok (.getfield 16, 3) := by decide +kernel
theorem dX6_layerAt_7 : decode cX6_layerAt 7 = .ok (.invokevirtual 48, 3) := by decide +kernel
theorem dX6_layerAt_10 : decode cX6_layerAt 10 = .ok (.if_icmp .ge 20, 3) := by decide +kernel
theorem dX6_layerAt_13 : decode cX6_layerAt 13 = .ok (.aload_n 0, 1) := by decide +kernel
theorem dX6_layerAt_14 : decode cX6_layerAt 14 = .ok (.iload_n 2, 1) := by decide +kernel
theorem dX6_layerAt_15 : decode cX6_layerAt 15 = .ok (.invokevirtual 95, 3) := by decide +kernel
theorem dX6_layerAt_18 : decode cX6_layerAt 18 = .ok (.iload_n 1, 1) := by decide +kernel
theorem dX6_layerAt_19 : decode cX6_layerAt 19 = .ok (.if_icmp .ne 5, 3) := by decide +kernel
theorem dX6_layerAt_22 : decode cX6_layerAt 22 = .ok (.iload_n 2, 1) := by decide +kernel
theorem dX6_layerAt_23 : decode cX6_layerAt 23 = .ok (.ireturn, 1) := by decide +kernel
theorem dX6_layerAt_24 : decode cX6_layerAt 24 = .ok (.iinc 2 1, 3) := by decide +kernel
theorem dX6_layerAt_27 : decode cX6_layerAt 27 = .ok (.goto (-25), 3) := by decide +kernel
theorem dX6_layerAt_30 : decode cX6_layerAt 30 = .ok (.new 99, 3) := by decide +kernel
theorem dX6_layerAt_33 : decode cX6_layerAt 33 = .ok (.dup, 1) := by decide +kernel
theorem dX6_layerAt_34 : decode cX6_layerAt 34 = .ok (.ldc 101, 2) := by decide +kernel
theorem dX6_layerAt_36 : decode cX6_layerAt 36 = .ok (.invokespecial 103, 3) := by decide +kernel
theorem dX6_layerAt_39 : decode cX6_layerAt 39 = .ok (.athrow, 1) := by decide +kernel
set_option maxRecDepth 20000 in
theorem ggX6_applies_X6_isLayer : GoodIn wsX6_applies wsX6_isLayer := goodIn_r _ [5, 6, 7, 8, 9, 10, 11, 12, 53, 54, 55, 56, 57, 58, 59, 60] (by decide +kernel) (by decide +kernel)
set_option maxRecDepth 20000 in
theorem gX6_applies_X6_isLayer : GoodIn wsX6_applies (wsV RX6 89 RX6 yX6_isLayer wsX6_isLayer) := goodIn_app (goodIn_of _ (by decide +kernel)) ggX6_applies_X6_isLayer
set_option maxRecDepth 20000 in
theorem ggX6_applies_X6_isClient : GoodIn wsX6_applies wsX6_isClient := goodIn_r _ [16, 17, 7, 8, 9, 10, 11, 12, 53, 54, 55, 56, 57, 58, 59, 60] (by decide +kernel) (by decide +kernel)
set_option maxRecDepth 20000 in
theorem gX6_applies_X6_isClient : GoodIn wsX6_applies (wsV RX6 60 RX6 yX6_isClient wsX6_isClient) := goodIn_app (goodIn_of _ (by decide +kernel)) ggX6_applies_X6_isClient
set_option maxRecDepth 20000 in
theorem ggX6_applies_X6_checkThere : GoodIn wsX6_applies wsX6_checkThere := goodIn_ca (goodIn_r _ [20, 21, 22] (by decide +kernel) (by decide +kernel)) (goodIn_sub (fun _ h => List.mem_cons_of_mem _ (List.mem_append_right _ h)) (by decide +kernel))
set_option maxRecDepth 20000 in
theorem gX6_applies_X6_checkThere : GoodIn wsX6_applies (va_wsS RX6 63 yX6_checkThere wsX6_checkThere) := goodIn_app (goodIn_of _ (by decide +kernel)) ggX6_applies_X6_checkThere
set_option maxRecDepth 20000 in
theorem ggX6_applies_X6_reaches : GoodIn wsX6_applies wsX6_reaches := goodIn_r _ [26, 6, 27, 17, 28, 29, 30, 31, 10, 32, 12, 33, 34, 35, 36, 37, 38, 39, 40, 41, 42, 43, 44, 45, 46, 47, 48, 49, 50, 51, 52, 53, 54, 55, 56, 57, 58, 59, 60, 61, 62, 63, 64, 65, 66, 67, 68, 69] (by decide +kernel) (by decide +kernel)
set_option maxRecDepth 20000 in
theorem gX6_applies_X6_reaches : GoodIn wsX6_applies (wsV RX6 106 RX6 yX6_reaches wsX6_reaches) := goodIn_app (goodIn_of _ (by decide +kernel)) ggX6_applies_X6_reaches
theorem dX6_applies_0 : decode cX6_applies 0 = .ok (.aload_n 0, 1) := by decide +kernel
theorem dX6_applies_1 : decode cX6_applies 1 = .ok (.iload_n 1, 1) := by decide +kernel
theorem dX6_applies_2 : decode cX6_applies 2 = .ok (.invokevirtual 89, 3) := by decide +kernel
theorem dX6_applies_5 : decode cX6_applies 5 = .ok (.ifCond .eq 15, 3) := by decide +kernel
theorem dX6_applies_8 : decode cX6_applies 8 = .ok (.aload_n 0, 1) := by decide +kernel
theorem dX6_applies_9 : decode cX6_applies 9 = .ok (.iload_n 2, 1) := by decide +kernel
theorem dX6_applies_10 : decode cX6_applies 10 = .ok (.invokevirtual 60, 3) := by decide +kernel
theorem dX6_applies_13 : decode cX6_applies 13 = .ok (.ifCond .eq 7, 3) := by decide +kernel
theorem dX6_applies_16 : decode cX6_applies 16 = .ok (.iconst 1, 1) := by decide +kernel
theorem dX6_applies_17 : decode cX6_applies 17 = .ok (.goto 4, 3) := by decide +kernel
theorem dX6_applies_20 : decode cX6_applies 20 = .ok (.iconst 0, 1) := by decide +kernel
theorem dX6_applies_21 : decode cX6_applies 21 = .ok (.invokestatic 63, 3) := by decide +kernel
theorem dX6_applies_24 : decode cX6_applies 24 = .ok (.aload_n 0, 1) := by decide +kernel
theorem dX6_applies_25 : decode cX6_applies 25 = .ok (.iload_n 1, 1) := by decide +kernel
theorem dX6_applies_26 : decode cX6_applies 26 = .ok (.iload_n 2, 1) := by decide +kernel
theorem dX6_applies_27 : decode cX6_applies 27 = .ok (.invokevirtual 106, 3) := by decide +kernel
theorem dX6_applies_30 : decode cX6_applies 30 = .ok (.ireturn, 1) := by decide +kernel
set_option maxRecDepth 20000 in
theorem ggX6_set_X6_isCell : GoodIn wsX6_set wsX6_isCell := goodIn_r _ [8, 9, 10, 11, 7, 12, 13, 14, 15, 16, 17, 18, 19, 20, 21, 22, 179, 180, 181, 182, 183, 184, 185, 186] (by decide +kernel) (by decide +kernel)
set_option maxRecDepth 20000 in
theorem gX6_set_X6_isCell : GoodIn wsX6_set (wsV RX6 109 RX6 yX6_isCell wsX6_isCell) := goodIn_app (goodIn_of _ (by decide +kernel)) ggX6_set_X6_isCell
set_option maxRecDepth 20000 in
theorem ggX6_set_X6_checkThere : GoodIn wsX6_set wsX6_checkThere := goodIn_ca (goodIn_r _ [25, 26, 27] (by decide +kernel) (by decide +kernel)) (goodIn_sub (fun _ h => List.mem_cons_of_mem _ (List.mem_append_left _ (List.mem_append_left _ (List.mem_append_right _ h)))) (by decide +kernel))
set_option maxRecDepth 20000 in
theorem gX6_set_X6_checkThere : GoodIn wsX6_set (va_wsS RX6 63 yX6_checkThere wsX6_checkThere) := goodIn_app (goodIn_of _ (by decide +kernel)) ggX6_set_X6_checkThere
set_option maxRecDepth 20000 in
theorem ggX6_set_X6_isNumber : GoodIn wsX6_set wsX6_isNumber := goodIn_r _ [30] (by decide +kernel) (by decide +kernel)
set_option maxRecDepth 20000 in
theorem gX6_set_X6_isNumber : GoodIn wsX6_set (va_wsS RX6 112 yX6_isNumber wsX6_isNumber) := goodIn_app (goodIn_of _ (by decide +kernel)) ggX6_set_X6_isNumber
set_option maxRecDepth 20000 in
theorem ggX6_set_X6_isOwner : GoodIn wsX6_set wsX6_isOwner := goodIn_r _ [33] (by decide +kernel) (by decide +kernel)
set_option maxRecDepth 20000 in
theorem gX6_set_X6_isOwner : GoodIn wsX6_set (va_wsS RX6 115 yX6_isOwner wsX6_isOwner) := goodIn_app (goodIn_of _ (by decide +kernel)) ggX6_set_X6_isOwner
set_option maxRecDepth 20000 in
theorem ggX6_set_X6_checkArgument : GoodIn wsX6_set wsX6_checkArgument := goodIn_ca (goodIn_r _ [36, 37, 38] (by decide +kernel) (by decide +kernel)) (goodIn_sub (fun _ h => List.mem_cons_of_mem _ (List.mem_append_left _ (List.mem_append_right _ h))) (by decide +kernel))
set_option maxRecDepth 20000 in
theorem gX6_set_X6_checkArgument : GoodIn wsX6_set (va_wsS RX6 44 yX6_checkArgument wsX6_checkArgument) := goodIn_app (goodIn_of _ (by decide +kernel)) ggX6_set_X6_checkArgument
set_option maxRecDepth 20000 in
theorem ggX6_set_X6_isFreeFor : GoodIn wsX6_set wsX6_isFreeFor := goodIn_r _ [42, 13, 43, 44, 45, 46, 17, 47, 19, 48, 49, 50, 51, 52, 53, 54, 55, 56, 57, 58, 59, 60, 61, 62, 63, 64, 65, 66, 67, 68, 69, 70, 179, 180, 181, 182, 183, 187, 188, 189, 190, 191, 192, 193, 184, 185, 186] (by decide +kernel) (by decide +kernel)
set_option maxRecDepth 20000 in
theorem gX6_set_X6_isFreeFor : GoodIn wsX6_set (wsV RX6 118 RX6 yX6_isFreeFor wsX6_isFreeFor) := goodIn_app (goodIn_of _ (by decide +kernel)) ggX6_set_X6_isFreeFor
set_option maxRecDepth 20000 in
theorem ggX6_set_X6_checkState : GoodIn wsX6_set wsX6_checkState := goodIn_ca (goodIn_r _ [73, 74, 75] (by decide +kernel) (by decide +kernel)) (goodIn_sub (fun _ h => List.mem_cons_of_mem _ (List.mem_append_right _ h)) (by decide +kernel))
set_option maxRecDepth 20000 in
theorem gX6_set_X6_checkState : GoodIn wsX6_set (va_wsS RX6 52 yX6_checkState wsX6_checkState) := goodIn_app (goodIn_of _ (by decide +kernel)) ggX6_set_X6_checkState
set_option maxRecDepth 20000 in
theorem ggX6_set_X2_init : GoodIn wsX6_set wsX2_init := goodIn_r _ [78, 79, 80, 81, 82, 83, 84, 176, 177, 178] (by decide +kernel) (by decide +kernel)
set_option maxRecDepth 20000 in
theorem gX6_set_X2_init : GoodIn wsX6_set (wsX2_init) := ggX6_set_X2_init
set_option maxRecDepth 20000 in
theorem ggX6_set_X6_enter : GoodIn wsX6_set wsX6_enter := goodIn_r _ [88, 89, 90, 91, 92, 93, 94, 95, 96, 97, 98, 99, 100, 101, 80, 81, 102, 103, 104, 105, 7, 106, 13, 43, 107, 14, 15, 16, 17, 18, 19, 108, 109, 110, 111, 112, 113, 114, 115, 116, 117, 3, 118, 82, 83, 84, 44, 45, 46, 47, 48, 49, 50, 51, 52, 53, 54, 55, 56, 57, 58, 59, 60, 119, 120, 121, 122, 123, 124, 125, 126, 127, 128, 129, 130, 131, 132, 133, 134, 135, 136, 137, 138, 139, 140, 141, 142, 143, 144, 145, 146, 147, 148, 149, 150, 151, 152, 153, 154, 155, 156, 157, 158, 159, 160, 161, 162, 163, 164, 165, 166, 167, 168, 169, 170, 171, 179, 180, 181, 182, 183, 194, 187, 188, 189, 190, 191, 192, 193, 184, 185, 186, 176, 177, 178] (by decide +kernel) (by decide +kernel)
set_option maxRecDepth 20000 in
theorem gX6_set_X6_enter : GoodIn wsX6_set (wsV RX6 127 RX6 yX6_enter wsX6_enter) := goodIn_app (goodIn_of _ (by decide +kernel)) ggX6_set_X6_enter
set_option maxRecDepth 20000 in
theorem ggX6_set_X6_version : GoodIn wsX6_set wsX6_version := goodIn_r _ [175, 107, 14, 15, 16, 17, 18, 19, 179, 180, 181, 182, 183, 184, 185, 186] (by decide +kernel) (by decide +kernel)
set_option maxRecDepth 20000 in
theorem gX6_set_X6_version : GoodIn wsX6_set (wsV RX6 131 RX6 yX6_version wsX6_version) := goodIn_app (goodIn_of _ (by decide +kernel)) ggX6_set_X6_version
theorem dX6_set_0 : decode cX6_set 0 = .ok (.aload_n 0, 1) := by decide +kernel
theorem dX6_set_1 : decode cX6_set 1 = .ok (.iload_n 1, 1) := by decide +kernel
theorem dX6_set_2 : decode cX6_set 2 = .ok (.iload_n 2, 1) := by decide +kernel
theorem dX6_set_3 : decode cX6_set 3 = .ok (.invokevirtual 109, 3) := by decide +kernel
theorem dX6_set_6 : decode cX6_set 6 = .ok (.invokestatic 63, 3) := by decide +kernel
theorem dX6_set_9 : decode cX6_set 9 = .ok (.iload_n 3, 1) := by decide +kernel
theorem dX6_set_10 : decode cX6_set 10 = .ok (.invokestatic 112, 3) := by decide +kernel
theorem dX6_set_13 : decode cX6_set 13 = .ok (.ifCond .eq 15, 3) := by decide +kernel
theorem dX6_set_16 : decode cX6_set 16 = .ok (.iload 4, 2) := by decide +kernel
theorem dX6_set_18 : decode cX6_set 18 = .ok (.invokestatic 115, 3) := by decide +kernel
theorem dX6_set_21 : decode cX6_set 21 = .ok (.ifCond .eq 7, 3) := by decide +kernel
theorem dX6_set_24 : decode cX6_set 24 = .ok (.iconst 1, 1) := by decide +kernel
theorem dX6_set_25 : decode cX6_set 25 = .ok (.goto 4, 3) := by decide +kernel
theorem dX6_set_28 : decode cX6_set 28 = .ok (.iconst 0, 1) := by decide +kernel
theorem dX6_set_29 : decode cX6_set 29 = .ok (.invokestatic 44, 3) := by decide +kernel
theorem dX6_set_32 : decode cX6_set 32 = .ok (.aload_n 0, 1) := by decide +kernel
theorem dX6_set_33 : decode cX6_set 33 = .ok (.iload_n 1, 1) := by decide +kernel
theorem dX6_set_34 : decode cX6_set 34 = .ok (.iload_n 2, 1) := by decide +kernel
theorem dX6_set_35 : decode cX6_set 35 = .ok (.iload 4, 2) := by decide +kernel
theorem dX6_set_37 : decode cX6_set 37 = .ok (.invokevirtual 118, 3) := by decide +kernel
theorem dX6_set_40 : decode cX6_set 40 = .ok (.invokestatic 52, 3) := by decide +kernel
theorem dX6_set_43 : decode cX6_set 43 = .ok (.aload_n 0, 1) := by decide +kernel
theorem dX6_set_44 : decode cX6_set 44 = .ok (.iload_n 1, 1) := by decide +kernel
theorem dX6_set_45 : decode cX6_set 45 = .ok (.iload_n 2, 1) := by decide +kernel
theorem dX6_set_46 : decode cX6_set 46 = .ok (.new 122, 3) := by decide +kernel
theorem dX6_set_49 : decode cX6_set 49 = .ok (.dup, 1) := by decide +kernel
theorem dX6_set_50 : decode cX6_set 50 = .ok (.iload_n 3, 1) := by decide +kernel
theorem dX6_set_51 : decode cX6_set 51 = .ok (.iconst (-1), 1) := by decide +kernel
theorem dX6_set_52 : decode cX6_set 52 = .ok (.iconst (-1), 1) := by decide +kernel
theorem dX6_set_53 : decode cX6_set 53 = .ok (.invokespecial 124, 3) := by decide +kernel
theorem dX6_set_56 : decode cX6_set 56 = .ok (.invokevirtual 127, 3) := by decide +kernel
theorem dX6_set_59 : decode cX6_set 59 = .ok (.aload_n 0, 1) := by decide +kernel
theorem dX6_set_60 : decode cX6_set 60 = .ok (.invokevirtual 131, 3) := by decide +kernel
theorem dX6_set_63 : decode cX6_set 63 = .ok (.ireturn, 1) := by decide +kernel
set_option maxRecDepth 20000 in
theorem ggX6_template_X6_isCell : GoodIn wsX6_template wsX6_isCell := goodIn_r _ [8, 9, 10, 11, 7, 12, 13, 14, 15, 16, 17, 18, 19, 20, 21, 22, 182, 183, 184, 185, 186, 187, 188, 189] (by decide +kernel) (by decide +kernel)
set_option maxRecDepth 20000 in
theorem gX6_template_X6_isCell : GoodIn wsX6_template (wsV RX6 109 RX6 yX6_isCell wsX6_isCell) := goodIn_app (goodIn_of _ (by decide +kernel)) ggX6_template_X6_isCell
set_option maxRecDepth 20000 in
theorem ggX6_template_X6_checkThere : GoodIn wsX6_template wsX6_checkThere := goodIn_ca (goodIn_r _ [25, 26, 27] (by decide +kernel) (by decide +kernel)) (goodIn_sub (fun _ h => List.mem_cons_of_mem _ (List.mem_append_left _ (List.mem_append_left _ (List.mem_append_right _ h)))) (by decide +kernel))
set_option maxRecDepth 20000 in
theorem gX6_template_X6_checkThere : GoodIn wsX6_template (va_wsS RX6 63 yX6_checkThere wsX6_checkThere) := goodIn_app (goodIn_of _ (by decide +kernel)) ggX6_template_X6_checkThere
set_option maxRecDepth 20000 in
theorem ggX6_template_X6_isTemplate : GoodIn wsX6_template wsX6_isTemplate := goodIn_r _ [30, 31, 32, 7, 33, 20, 21, 22] (by decide +kernel) (by decide +kernel)
set_option maxRecDepth 20000 in
theorem gX6_template_X6_isTemplate : GoodIn wsX6_template (va_wsS RX6 134 yX6_isTemplate wsX6_isTemplate) := goodIn_app (goodIn_of _ (by decide +kernel)) ggX6_template_X6_isTemplate
set_option maxRecDepth 20000 in
theorem ggX6_template_X6_isOwner : GoodIn wsX6_template wsX6_isOwner := goodIn_r _ [36] (by decide +kernel) (by decide +kernel)
set_option maxRecDepth 20000 in
theorem gX6_template_X6_isOwner : GoodIn wsX6_template (va_wsS RX6 115 yX6_isOwner wsX6_isOwner) := goodIn_app (goodIn_of _ (by decide +kernel)) ggX6_template_X6_isOwner
set_option maxRecDepth 20000 in
theorem ggX6_template_X6_checkArgument : GoodIn wsX6_template wsX6_checkArgument := goodIn_ca (goodIn_r _ [39, 40, 41] (by decide +kernel) (by decide +kernel)) (goodIn_sub (fun _ h => List.mem_cons_of_mem _ (List.mem_append_left _ (List.mem_append_right _ h))) (by decide +kernel))
set_option maxRecDepth 20000 in
theorem gX6_template_X6_checkArgument : GoodIn wsX6_template (va_wsS RX6 44 yX6_checkArgument wsX6_checkArgument) := goodIn_app (goodIn_of _ (by decide +kernel)) ggX6_template_X6_checkArgument
set_option maxRecDepth 20000 in
theorem ggX6_template_X6_isFreeFor : GoodIn wsX6_template wsX6_isFreeFor := goodIn_r _ [45, 13, 46, 47, 48, 49, 17, 50, 19, 51, 52, 53, 54, 55, 56, 57, 58, 59, 60, 61, 62, 63, 64, 65, 66, 67, 68, 69, 70, 71, 72, 73, 182, 183, 184, 185, 186, 190, 191, 192, 193, 194, 195, 196, 187, 188, 189] (by decide +kernel) (by decide +kernel)
set_option maxRecDepth 20000 in
theorem gX6_template_X6_isFreeFor : GoodIn wsX6_template (wsV RX6 118 RX6 yX6_isFreeFor wsX6_isFreeFor) := goodIn_app (goodIn_of _ (by decide +kernel)) ggX6_template_X6_isFreeFor
set_option maxRecDepth 20000 in
theorem ggX6_template_X6_checkState : GoodIn wsX6_template wsX6_checkState := goodIn_ca (goodIn_r _ [76, 77, 78] (by decide +kernel) (by decide +kernel)) (goodIn_sub (fun _ h => List.mem_cons_of_mem _ (List.mem_append_right _ h)) (by decide +kernel))
set_option maxRecDepth 20000 in
theorem gX6_template_X6_checkState : GoodIn wsX6_template (va_wsS RX6 52 yX6_checkState wsX6_checkState) := goodIn_app (goodIn_of _ (by decide +kernel)) ggX6_template_X6_checkState
set_option maxRecDepth 20000 in
theorem ggX6_template_X2_init : GoodIn wsX6_template wsX2_init := goodIn_r _ [81, 82, 83, 84, 85, 86, 87, 179, 180, 181] (by decide +kernel) (by decide +kernel)
set_option maxRecDepth 20000 in
theorem gX6_template_X2_init : GoodIn wsX6_template (wsX2_init) := ggX6_template_X2_init
set_option maxRecDepth 20000 in
theorem ggX6_template_X6_enter : GoodIn wsX6_template wsX6_enter := goodIn_r _ [91, 92, 93, 94, 95, 96, 97, 98, 99, 100, 101, 102, 103, 104, 83, 84, 105, 106, 107, 108, 7, 109, 13, 46, 110, 14, 15, 16, 17, 18, 19, 111, 112, 113, 114, 115, 116, 117, 118, 119, 120, 3, 121, 85, 86, 87, 47, 48, 49, 50, 51, 52, 53, 54, 55, 56, 57, 58, 59, 60, 61, 62, 63, 122, 123, 124, 125, 126, 127, 128, 129, 130, 131, 132, 133, 134, 135, 136, 137, 138, 139, 140, 141, 142, 143, 144, 145, 146, 147, 148, 149, 150, 151, 152, 153, 154, 155, 156, 157, 158, 159, 160, 161, 162, 163, 164, 165, 166, 167, 168, 169, 170, 171, 172, 173, 174, 182, 183, 184, 185, 186, 197, 190, 191, 192, 193, 194, 195, 196, 187, 188, 189, 179, 180, 181] (by decide +kernel) (by decide +kernel)
set_option maxRecDepth 20000 in
theorem gX6_template_X6_enter : GoodIn wsX6_template (wsV RX6 127 RX6 yX6_enter wsX6_enter) := goodIn_app (goodIn_of _ (by decide +kernel)) ggX6_template_X6_enter
set_option maxRecDepth 20000 in
theorem ggX6_template_X6_version : GoodIn wsX6_template wsX6_version := goodIn_r _ [178, 110, 14, 15, 16, 17, 18, 19, 182, 183, 184, 185, 186, 187, 188, 189] (by decide +kernel) (by decide +kernel)
set_option maxRecDepth 20000 in
theorem gX6_template_X6_version : GoodIn wsX6_template (wsV RX6 131 RX6 yX6_version wsX6_version) := goodIn_app (goodIn_of _ (by decide +kernel)) ggX6_template_X6_version
theorem dX6_template_0 : decode cX6_template 0 = .ok (.aload_n 0, 1) := by decide +kernel
theorem dX6_template_1 : decode cX6_template 1 = .ok (.iload_n 1, 1) := by decide +kernel
theorem dX6_template_2 : decode cX6_template 2 = .ok (.iload_n 2, 1) := by decide +kernel
theorem dX6_template_3 : decode cX6_template 3 = .ok (.invokevirtual 109, 3) := by decide +kernel
theorem dX6_template_6 : decode cX6_template 6 = .ok (.invokestatic 63, 3) := by decide +kernel
theorem dX6_template_9 : decode cX6_template 9 = .ok (.iload_n 3, 1) := by decide +kernel
theorem dX6_template_10 : decode cX6_template 10 = .ok (.iload 4, 2) := by decide +kernel
theorem dX6_template_12 : decode cX6_template 12 = .ok (.iload 5, 2) := by decide +kernel
theorem dX6_template_14 : decode cX6_template 14 = .ok (.invokestatic 134, 3) := by decide +kernel
theorem dX6_template_17 : decode cX6_template 17 = .ok (.ifCond .eq 15, 3) := by decide +kernel
theorem dX6_template_20 : decode cX6_template 20 = .ok (.iload 6, 2) := by decide +kernel
theorem dX6_template_22 : decode cX6_template 22 = .ok (.invokestatic 115, 3) := by decide +kernel
theorem dX6_template_25 : decode cX6_template 25 = .ok (.ifCond .eq 7, 3) := by decide +kernel
theorem dX6_template_28 : decode cX6_template 28 = .ok (.iconst 1, 1) := by decide +kernel
theorem dX6_template_29 : decode cX6_template 29 = .ok (.goto 4, 3) := by decide +kernel
theorem dX6_template_32 : decode cX6_template 32 = .ok (.iconst 0, 1) := by decide +kernel
theorem dX6_template_33 : decode cX6_template 33 = .ok (.invokestatic 44, 3) := by decide +kernel
theorem dX6_template_36 : decode cX6_template 36 = .ok (.aload_n 0, 1) := by decide +kernel
theorem dX6_template_37 : decode cX6_template 37 = .ok (.iload_n 1, 1) := by decide +kernel
theorem dX6_template_38 : decode cX6_template 38 = .ok (.iload_n 2, 1) := by decide +kernel
theorem dX6_template_39 : decode cX6_template 39 = .ok (.iload 6, 2) := by decide +kernel
theorem dX6_template_41 : decode cX6_template 41 = .ok (.invokevirtual 118, 3) := by decide +kernel
theorem dX6_template_44 : decode cX6_template 44 = .ok (.invokestatic 52, 3) := by decide +kernel
theorem dX6_template_47 : decode cX6_template 47 = .ok (.aload_n 0, 1) := by decide +kernel
theorem dX6_template_48 : decode cX6_template 48 = .ok (.iload_n 1, 1) := by decide +kernel
theorem dX6_template_49 : decode cX6_template 49 = .ok (.iload_n 2, 1) := by decide +kernel
theorem dX6_template_50 : decode cX6_template 50 = .ok (.new 122, 3) := by decide +kernel
theorem dX6_template_53 : decode cX6_template 53 = .ok (.dup, 1) := by decide +kernel
theorem dX6_template_54 : decode cX6_template 54 = .ok (.iload_n 3, 1) := by decide +kernel
theorem dX6_template_55 : decode cX6_template 55 = .ok (.iload 4, 2) := by decide +kernel
theorem dX6_template_57 : decode cX6_template 57 = .ok (.iload 5, 2) := by decide +kernel
theorem dX6_template_59 : decode cX6_template 59 = .ok (.invokespecial 124, 3) := by decide +kernel
theorem dX6_template_62 : decode cX6_template 62 = .ok (.invokevirtual 127, 3) := by decide +kernel
theorem dX6_template_65 : decode cX6_template 65 = .ok (.aload_n 0, 1) := by decide +kernel
theorem dX6_template_66 : decode cX6_template 66 = .ok (.invokevirtual 131, 3) := by decide +kernel
theorem dX6_template_69 : decode cX6_template 69 = .ok (.ireturn, 1) := by decide +kernel
set_option maxRecDepth 20000 in
theorem ggX6_remove_X6_isCell : GoodIn wsX6_remove wsX6_isCell := goodIn_r _ [6, 7, 8, 9, 5, 10, 11, 12, 13, 14, 15, 16, 17, 18, 19, 20, 167, 168, 169, 170, 171, 172, 173, 174] (by decide +kernel) (by decide +kernel)
set_option maxRecDepth 20000 in
theorem gX6_remove_X6_isCell : GoodIn wsX6_remove (wsV RX6 109 RX6 yX6_isCell wsX6_isCell) := goodIn_app (goodIn_of _ (by decide +kernel)) ggX6_remove_X6_isCell
set_option maxRecDepth 20000 in
theorem ggX6_remove_X6_checkThere : GoodIn wsX6_remove wsX6_checkThere := goodIn_ca (goodIn_r _ [23, 24, 25] (by decide +kernel) (by decide +kernel)) (goodIn_sub (fun _ h => List.mem_cons_of_mem _ (List.mem_append_left _ (List.mem_append_left _ (List.mem_append_right _ h)))) (by decide +kernel))
set_option maxRecDepth 20000 in
theorem gX6_remove_X6_checkThere : GoodIn wsX6_remove (va_wsS RX6 63 yX6_checkThere wsX6_checkThere) := goodIn_app (goodIn_of _ (by decide +kernel)) ggX6_remove_X6_checkThere
set_option maxRecDepth 20000 in
theorem ggX6_remove_X6_isOwner : GoodIn wsX6_remove wsX6_isOwner := goodIn_r _ [28] (by decide +kernel) (by decide +kernel)
set_option maxRecDepth 20000 in
theorem gX6_remove_X6_isOwner : GoodIn wsX6_remove (va_wsS RX6 115 yX6_isOwner wsX6_isOwner) := goodIn_app (goodIn_of _ (by decide +kernel)) ggX6_remove_X6_isOwner
set_option maxRecDepth 20000 in
theorem ggX6_remove_X6_checkArgument : GoodIn wsX6_remove wsX6_checkArgument := goodIn_ca (goodIn_r _ [31, 32, 33] (by decide +kernel) (by decide +kernel)) (goodIn_sub (fun _ h => List.mem_cons_of_mem _ (List.mem_append_left _ (List.mem_append_right _ h))) (by decide +kernel))
set_option maxRecDepth 20000 in
theorem gX6_remove_X6_checkArgument : GoodIn wsX6_remove (va_wsS RX6 44 yX6_checkArgument wsX6_checkArgument) := goodIn_app (goodIn_of _ (by decide +kernel)) ggX6_remove_X6_checkArgument
set_option maxRecDepth 20000 in
theorem ggX6_remove_X6_isFreeFor : GoodIn wsX6_remove wsX6_isFreeFor := goodIn_r _ [37, 11, 38, 39, 40, 41, 15, 42, 17, 43, 44, 45, 46, 47, 48, 49, 50, 51, 52, 53, 54, 55, 56, 57, 58, 59, 60, 61, 62, 63, 64, 65, 167, 168, 169, 170, 171, 175, 176, 177, 178, 179, 180, 181, 172, 173, 174] (by decide +kernel) (by decide +kernel)
set_option maxRecDepth 20000 in
theorem gX6_remove_X6_isFreeFor : GoodIn wsX6_remove (wsV RX6 118 RX6 yX6_isFreeFor wsX6_isFreeFor) := goodIn_app (goodIn_of _ (by decide +kernel)) ggX6_remove_X6_isFreeFor
set_option maxRecDepth 20000 in
theorem ggX6_remove_X1_entryOf : GoodIn wsX6_remove wsX1_entryOf := goodIn_r _ [70, 71, 182] (by decide +kernel) (by decide +kernel)
set_option maxRecDepth 20000 in
theorem gX6_remove_X1_entryOf : GoodIn wsX6_remove (wsV RX6 137 RX1 yX1_entryOf wsX1_entryOf) := goodIn_app (goodIn_of _ (by decide +kernel)) ggX6_remove_X1_entryOf
set_option maxRecDepth 20000 in
theorem ggX6_remove_X6_checkState : GoodIn wsX6_remove wsX6_checkState := goodIn_ca (goodIn_r _ [74, 75, 76] (by decide +kernel) (by decide +kernel)) (goodIn_sub (fun _ h => List.mem_cons_of_mem _ (List.mem_append_right _ h)) (by decide +kernel))
set_option maxRecDepth 20000 in
theorem gX6_remove_X6_checkState : GoodIn wsX6_remove (va_wsS RX6 52 yX6_checkState wsX6_checkState) := goodIn_app (goodIn_of _ (by decide +kernel)) ggX6_remove_X6_checkState
set_option maxRecDepth 20000 in
theorem ggX6_remove_X6_enter : GoodIn wsX6_remove wsX6_enter := goodIn_r _ [80, 1, 81, 82, 83, 69, 84, 85, 86, 71, 87, 88, 89, 90, 91, 92, 93, 94, 95, 96, 5, 97, 11, 38, 98, 12, 13, 14, 15, 16, 17, 99, 100, 101, 102, 66, 67, 68, 70, 103, 104, 105, 106, 107, 108, 109, 39, 40, 41, 42, 43, 44, 45, 46, 47, 48, 49, 50, 51, 52, 53, 54, 55, 110, 111, 112, 113, 114, 115, 116, 117, 118, 119, 120, 121, 122, 123, 124, 125, 126, 127, 128, 129, 130, 131, 132, 133, 134, 135, 136, 137, 138, 139, 140, 141, 142, 143, 144, 145, 146, 147, 148, 149, 150, 151, 152, 153, 154, 155, 156, 157, 158, 159, 160, 161, 162, 167, 168, 169, 170, 171, 182, 175, 176, 177, 178, 179, 180, 181, 172, 173, 174, 183, 184, 185] (by decide +kernel) (by decide +kernel)
set_option maxRecDepth 20000 in
theorem gX6_remove_X6_enter : GoodIn wsX6_remove (wsV RX6 127 RX6 yX6_enter wsX6_enter) := goodIn_app (goodIn_of _ (by decide +kernel)) ggX6_remove_X6_enter
set_option maxRecDepth 20000 in
theorem ggX6_remove_X6_version : GoodIn wsX6_remove wsX6_version := goodIn_r _ [166, 98, 12, 13, 14, 15, 16, 17, 167, 168, 169, 170, 171, 172, 173, 174] (by decide +kernel) (by decide +kernel)
set_option maxRecDepth 20000 in
theorem gX6_remove_X6_version : GoodIn wsX6_remove (wsV RX6 131 RX6 yX6_version wsX6_version) := goodIn_app (goodIn_of _ (by decide +kernel)) ggX6_remove_X6_version
theorem dX6_remove_0 : decode cX6_remove 0 = .ok (.aload_n 0, 1) := by decide +kernel
theorem dX6_remove_1 : decode cX6_remove 1 = .ok (.iload_n 1, 1) := by decide +kernel
theorem dX6_remove_2 : decode cX6_remove 2 = .ok (.iload_n 2, 1) := by decide +kernel
theorem dX6_remove_3 : decode cX6_remove 3 = .ok (.invokevirtual 109, 3) := by decide +kernel
theorem dX6_remove_6 : decode cX6_remove 6 = .ok (.invokestatic 63, 3) := by decide +kernel
theorem dX6_remove_9 : decode cX6_remove 9 = .ok (.iload_n 3, 1) := by decide +kernel
theorem dX6_remove_10 : decode cX6_remove 10 = .ok (.invokestatic 115, 3) := by decide +kernel
theorem dX6_remove_13 : decode cX6_remove 13 = .ok (.invokestatic 44, 3) := by decide +kernel
theorem dX6_remove_16 : decode cX6_remove 16 = .ok (.aload_n 0, 1) := by decide +kernel
theorem dX6_remove_17 : decode cX6_remove 17 = .ok (.iload_n 1, 1) := by decide +kernel
theorem dX6_remove_18 : decode cX6_remove 18 = .ok (.iload_n 2, 1) := by decide +kernel
theorem dX6_remove_19 : decode cX6_remove 19 = .ok (.iload_n 3, 1) := by decide +kernel
theorem dX6_remove_20 : decode cX6_remove 20 = .ok (.invokevirtual 118, 3) := by decide +kernel
theorem dX6_remove_23 : decode cX6_remove 23 = .ok (.ifCond .eq 19, 3) := by decide +kernel
theorem dX6_remove_26 : decode cX6_remove 26 = .ok (.aload_n 0, 1) := by decide +kernel
theorem dX6_remove_27 : decode cX6_remove 27 = .ok (.getfield 32, 3) := by decide +kernel
theorem dX6_remove_30 : decode cX6_remove 30 = .ok (.iload_n 1, 1) := by decide +kernel
theorem dX6_remove_31 : decode cX6_remove 31 = .ok (.iload_n 2, 1) := by decide +kernel
theorem dX6_remove_32 : decode cX6_remove 32 = .ok (.invokevirtual 137, 3) := by decide +kernel
theorem dX6_remove_35 : decode cX6_remove 35 = .ok (.ifnull 7, 3) := by decide +kernel
theorem dX6_remove_38 : decode cX6_remove 38 = .ok (.iconst 1, 1) := by decide +kernel
theorem dX6_remove_39 : decode cX6_remove 39 = .ok (.goto 4, 3) := by decide +kernel
theorem dX6_remove_42 : decode cX6_remove 42 = .ok (.iconst 0, 1) := by decide +kernel
theorem dX6_remove_43 : decode cX6_remove 43 = .ok (.invokestatic 52, 3) := by decide +kernel
theorem dX6_remove_46 : decode cX6_remove 46 = .ok (.aload_n 0, 1) := by decide +kernel
theorem dX6_remove_47 : decode cX6_remove 47 = .ok (.iload_n 1, 1) := by decide +kernel
theorem dX6_remove_48 : decode cX6_remove 48 = .ok (.iload_n 2, 1) := by decide +kernel
theorem dX6_remove_49 : decode cX6_remove 49 = .ok (.aconst_null, 1) := by decide +kernel
theorem dX6_remove_50 : decode cX6_remove 50 = .ok (.invokevirtual 127, 3) := by decide +kernel
theorem dX6_remove_53 : decode cX6_remove 53 = .ok (.aload_n 0, 1) := by decide +kernel
theorem dX6_remove_54 : decode cX6_remove 54 = .ok (.invokevirtual 131, 3) := by decide +kernel
theorem dX6_remove_57 : decode cX6_remove 57 = .ok (.ireturn, 1) := by decide +kernel
set_option maxRecDepth 20000 in
theorem ggX6_has_X6_isCell : GoodIn wsX6_has wsX6_isCell := goodIn_r _ [6, 7, 8, 9, 5, 10, 11, 12, 13, 14, 15, 16, 17, 18, 19, 20, 32, 33, 34, 35, 36, 37, 38, 39] (by decide +kernel) (by decide +kernel)
set_option maxRecDepth 20000 in
theorem gX6_has_X6_isCell : GoodIn wsX6_has (wsV RX6 109 RX6 yX6_isCell wsX6_isCell) := goodIn_app (goodIn_of _ (by decide +kernel)) ggX6_has_X6_isCell
set_option maxRecDepth 20000 in
theorem ggX6_has_X6_checkThere : GoodIn wsX6_has wsX6_checkThere := goodIn_ca (goodIn_r _ [23, 24, 25] (by decide +kernel) (by decide +kernel)) (goodIn_sub (fun _ h => List.mem_cons_of_mem _ (List.mem_append_right _ h)) (by decide +kernel))
set_option maxRecDepth 20000 in
theorem gX6_has_X6_checkThere : GoodIn wsX6_has (va_wsS RX6 63 yX6_checkThere wsX6_checkThere) := goodIn_app (goodIn_of _ (by decide +kernel)) ggX6_has_X6_checkThere
set_option maxRecDepth 20000 in
theorem ggX6_has_X1_entryOf : GoodIn wsX6_has wsX1_entryOf := goodIn_r _ [30, 31, 40] (by decide +kernel) (by decide +kernel)
set_option maxRecDepth 20000 in
theorem gX6_has_X1_entryOf : GoodIn wsX6_has (wsV RX6 137 RX1 yX1_entryOf wsX1_entryOf) := goodIn_app (goodIn_of _ (by decide +kernel)) ggX6_has_X1_entryOf
theorem dX6_has_0 : decode cX6_has 0 = .ok (.aload_n 0, 1) := by decide +kernel
theorem dX6_has_1 : decode cX6_has 1 = .ok (.iload_n 1, 1) := by decide +kernel
theorem dX6_has_2 : decode cX6_has 2 = .ok (.iload_n 2, 1) := by decide +kernel
theorem dX6_has_3 : decode cX6_has 3 = .ok (.invokevirtual 109, 3) := by decide +kernel
theorem dX6_has_6 : decode cX6_has 6 = .ok (.invokestatic 63, 3) := by decide +kernel
theorem dX6_has_9 : decode cX6_has 9 = .ok (.aload_n 0, 1) := by decide +kernel
theorem dX6_has_10 : decode cX6_has 10 = .ok (.getfield 32, 3) := by decide +kernel
theorem dX6_has_13 : decode cX6_has 13 = .ok (.iload_n 1, 1) := by decide +kernel
theorem dX6_has_14 : decode cX6_has 14 = .ok (.iload_n 2, 1) := by decide +kernel
theorem dX6_has_15 : decode cX6_has 15 = .ok (.invokevirtual 137, 3) := by decide +kernel
theorem dX6_has_18 : decode cX6_has 18 = .ok (.ifnull 7, 3) := by decide +kernel
theorem dX6_has_21 : decode cX6_has 21 = .ok (.iconst 1, 1) := by decide +kernel
theorem dX6_has_22 : decode cX6_has 22 = .ok (.goto 4, 3) := by decide +kernel
theorem dX6_has_25 : decode cX6_has 25 = .ok (.iconst 0, 1) := by decide +kernel
theorem dX6_has_26 : decode cX6_has 26 = .ok (.ireturn, 1) := by decide +kernel
set_option maxRecDepth 20000 in
theorem ggX6_roll_X6_isCell : GoodIn wsX6_roll wsX6_isCell := goodIn_r _ [13, 14, 15, 16, 12, 17, 1, 18, 19, 20, 21, 22, 23, 24, 25, 26, 93, 94, 95, 96, 97, 110, 111, 112] (by decide +kernel) (by decide +kernel)
set_option maxRecDepth 20000 in
theorem gX6_roll_X6_isCell : GoodIn wsX6_roll (wsV RX6 109 RX6 yX6_isCell wsX6_isCell) := goodIn_app (goodIn_of _ (by decide +kernel)) ggX6_roll_X6_isCell
set_option maxRecDepth 20000 in
theorem ggX6_roll_X6_checkThere : GoodIn wsX6_roll wsX6_checkThere := goodIn_ca (goodIn_r _ [29, 30, 31] (by decide +kernel) (by decide +kernel)) (goodIn_sub (fun _ h => List.mem_cons_of_mem _ (List.mem_append_left _ (List.mem_append_left _ (List.mem_append_right _ h)))) (by decide +kernel))
set_option maxRecDepth 20000 in
theorem gX6_roll_X6_checkThere : GoodIn wsX6_roll (va_wsS RX6 63 yX6_checkThere wsX6_checkThere) := goodIn_app (goodIn_of _ (by decide +kernel)) ggX6_roll_X6_checkThere
set_option maxRecDepth 20000 in
theorem ggX6_roll_X6_isNumber : GoodIn wsX6_roll wsX6_isNumber := goodIn_r _ [34] (by decide +kernel) (by decide +kernel)
set_option maxRecDepth 20000 in
theorem gX6_roll_X6_isNumber : GoodIn wsX6_roll (va_wsS RX6 112 yX6_isNumber wsX6_isNumber) := goodIn_app (goodIn_of _ (by decide +kernel)) ggX6_roll_X6_isNumber
set_option maxRecDepth 20000 in
theorem ggX6_roll_X6_isOwner : GoodIn wsX6_roll wsX6_isOwner := goodIn_r _ [37] (by decide +kernel) (by decide +kernel)
set_option maxRecDepth 20000 in
theorem gX6_roll_X6_isOwner : GoodIn wsX6_roll (va_wsS RX6 115 yX6_isOwner wsX6_isOwner) := goodIn_app (goodIn_of _ (by decide +kernel)) ggX6_roll_X6_isOwner
set_option maxRecDepth 20000 in
theorem ggX6_roll_X6_checkArgument : GoodIn wsX6_roll wsX6_checkArgument := goodIn_ca (goodIn_r _ [40, 41, 42] (by decide +kernel) (by decide +kernel)) (goodIn_sub (fun _ h => List.mem_cons_of_mem _ (List.mem_append_left _ (List.mem_append_right _ h))) (by decide +kernel))
set_option maxRecDepth 20000 in
theorem gX6_roll_X6_checkArgument : GoodIn wsX6_roll (va_wsS RX6 44 yX6_checkArgument wsX6_checkArgument) := goodIn_app (goodIn_of _ (by decide +kernel)) ggX6_roll_X6_checkArgument
set_option maxRecDepth 20000 in
theorem ggX6_roll_X6_isFreeFor : GoodIn wsX6_roll wsX6_isFreeFor := goodIn_r _ [46, 1, 2, 47, 48, 49, 21, 50, 23, 51, 52, 53, 54, 55, 56, 57, 58, 59, 60, 61, 62, 63, 64, 65, 66, 67, 68, 69, 70, 71, 72, 73, 93, 94, 95, 96, 97, 98, 99, 100, 101, 102, 103, 104, 110, 111, 112] (by decide +kernel) (by decide +kernel)
set_option maxRecDepth 20000 in
theorem gX6_roll_X6_isFreeFor : GoodIn wsX6_roll (wsV RX6 118 RX6 yX6_isFreeFor wsX6_isFreeFor) := goodIn_app (goodIn_of _ (by decide +kernel)) ggX6_roll_X6_isFreeFor
set_option maxRecDepth 20000 in
theorem ggX6_roll_X6_checkState : GoodIn wsX6_roll wsX6_checkState := goodIn_ca (goodIn_r _ [76, 77, 78] (by decide +kernel) (by decide +kernel)) (goodIn_sub (fun _ h => List.mem_cons_of_mem _ (List.mem_append_right _ h)) (by decide +kernel))
set_option maxRecDepth 20000 in
theorem gX6_roll_X6_checkState : GoodIn wsX6_roll (va_wsS RX6 52 yX6_checkState wsX6_checkState) := goodIn_app (goodIn_of _ (by decide +kernel)) ggX6_roll_X6_checkState
set_option maxRecDepth 20000 in
theorem ggX6_roll_Jx4a65c_get_915e3 : GoodIn wsX6_roll wsJx4a65c_get_915e3 := goodIn_r _ [50, 23, 51, 52, 53, 54, 55, 56, 57, 58, 59, 60, 61, 21, 62, 63, 110, 111, 112] (by decide +kernel) (by decide +kernel)
set_option maxRecDepth 20000 in
theorem gX6_roll_Jx4a65c_get_915e3 : GoodIn wsX6_roll (wsV RX6 66 RJx4a65c yJx4a65c_get_915e3 wsJx4a65c_get_915e3) := goodIn_app (goodIn_of _ (by decide +kernel)) ggX6_roll_Jx4a65c_get_915e3
set_option maxRecDepth 20000 in
theorem ggX6_roll_X2_init : GoodIn wsX6_roll wsX2_init := goodIn_r _ [81, 82, 83, 84, 85, 86, 87, 107, 108, 109] (by decide +kernel) (by decide +kernel)
set_option maxRecDepth 20000 in
theorem gX6_roll_X2_init : GoodIn wsX6_roll (wsX2_init) := ggX6_roll_X2_init
set_option maxRecDepth 20000 in
theorem ggX6_roll_X5_init : GoodIn wsX6_roll wsX5_init := goodIn_r _ [90, 91, 83, 84, 92, 105, 106] (by decide +kernel) (by decide +kernel)
set_option maxRecDepth 20000 in
theorem gX6_roll_X5_init : GoodIn wsX6_roll (wsX5_init) := ggX6_roll_X5_init
theorem dX6_roll_0 : decode cX6_roll 0 = .ok (.aload_n 0, 1) := by decide +kernel
theorem dX6_roll_1 : decode cX6_roll 1 = .ok (.iload_n 1, 1) := by decide +kernel
theorem dX6_roll_2 : decode cX6_roll 2 = .ok (.iload_n 2, 1) := by decide +kernel
theorem dX6_roll_3 : decode cX6_roll 3 = .ok (.invokevirtual 109, 3) := by decide +kernel
theorem dX6_roll_6 : decode cX6_roll 6 = .ok (.invokestatic 63, 3) := by decide +kernel
theorem dX6_roll_9 : decode cX6_roll 9 = .ok (.iload_n 3, 1) := by decide +kernel
theorem dX6_roll_10 : decode cX6_roll 10 = .ok (.invokestatic 112, 3) := by decide +kernel
theorem dX6_roll_13 : decode cX6_roll 13 = .ok (.ifCond .eq 15, 3) := by decide +kernel
theorem dX6_roll_16 : decode cX6_roll 16 = .ok (.iload 4, 2) := by decide +kernel
theorem dX6_roll_18 : decode cX6_roll 18 = .ok (.invokestatic 115, 3) := by decide +kernel
theorem dX6_roll_21 : decode cX6_roll 21 = .ok (.ifCond .eq 7, 3) := by decide +kernel
theorem dX6_roll_24 : decode cX6_roll 24 = .ok (.iconst 1, 1) := by decide +kernel
theorem dX6_roll_25 : decode cX6_roll 25 = .ok (.goto 4, 3) := by decide +kernel
theorem dX6_roll_28 : decode cX6_roll 28 = .ok (.iconst 0, 1) := by decide +kernel
theorem dX6_roll_29 : decode cX6_roll 29 = .ok (.invokestatic 44, 3) := by decide +kernel
theorem dX6_roll_32 : decode cX6_roll 32 = .ok (.aload_n 0, 1) := by decide +kernel
theorem dX6_roll_33 : decode cX6_roll 33 = .ok (.iload_n 1, 1) := by decide +kernel
theorem dX6_roll_34 : decode cX6_roll 34 = .ok (.iload_n 2, 1) := by decide +kernel
theorem dX6_roll_35 : decode cX6_roll 35 = .ok (.iload 4, 2) := by decide +kernel
theorem dX6_roll_37 : decode cX6_roll 37 = .ok (.invokevirtual 118, 3) := by decide +kernel
theorem dX6_roll_40 : decode cX6_roll 40 = .ok (.invokestatic 52, 3) := by decide +kernel
theorem dX6_roll_43 : decode cX6_roll 43 = .ok (.aload_n 0, 1) := by decide +kernel
theorem dX6_roll_44 : decode cX6_roll 44 = .ok (.getfield 16, 3) := by decide +kernel
theorem dX6_roll_47 : decode cX6_roll 47 = .ok (.iload_n 1, 1) := by decide +kernel
theorem dX6_roll_48 : decode cX6_roll 48 = .ok (.invokevirtual 66, 3) := by decide +kernel
theorem dX6_roll_51 : decode cX6_roll 51 = .ok (.checkcast 84, 3) := by decide +kernel
theorem dX6_roll_54 : decode cX6_roll 54 = .ok (.getfield 141, 3) := by decide +kernel
theorem dX6_roll_57 : decode cX6_roll 57 = .ok (.iload_n 2, 1) := by decide +kernel
theorem dX6_roll_58 : decode cX6_roll 58 = .ok (.new 145, 3) := by decide +kernel
theorem dX6_roll_61 : decode cX6_roll 61 = .ok (.dup, 1) := by decide +kernel
theorem dX6_roll_62 : decode cX6_roll 62 = .ok (.new 122, 3) := by decide +kernel
theorem dX6_roll_65 : decode cX6_roll 65 = .ok (.dup, 1) := by decide +kernel
theorem dX6_roll_66 : decode cX6_roll 66 = .ok (.iload_n 3, 1) := by decide +kernel
theorem dX6_roll_67 : decode cX6_roll 67 = .ok (.iconst (-1), 1) := by decide +kernel
theorem dX6_roll_68 : decode cX6_roll 68 = .ok (.iconst (-1), 1) := by decide +kernel
theorem dX6_roll_69 : decode cX6_roll 69 = .ok (.invokespecial 124, 3) := by decide +kernel
theorem dX6_roll_72 : decode cX6_roll 72 = .ok (.invokespecial 147, 3) := by decide +kernel
theorem dX6_roll_75 : decode cX6_roll 75 = .ok (.aastore, 1) := by decide +kernel
theorem dX6_roll_76 : decode cX6_roll 76 = .ok (.return_, 1) := by decide +kernel
set_option maxRecDepth 20000 in
theorem ggX6_rollTemplate_X6_isCell : GoodIn wsX6_rollTemplate wsX6_isCell := goodIn_r _ [13, 14, 15, 16, 12, 17, 1, 18, 19, 20, 21, 22, 23, 24, 25, 26, 96, 97, 98, 99, 100, 113, 114, 115] (by decide +kernel) (by decide +kernel)
set_option maxRecDepth 20000 in
theorem gX6_rollTemplate_X6_isCell : GoodIn wsX6_rollTemplate (wsV RX6 109 RX6 yX6_isCell wsX6_isCell) := goodIn_app (goodIn_of _ (by decide +kernel)) ggX6_rollTemplate_X6_isCell
set_option maxRecDepth 20000 in
theorem ggX6_rollTemplate_X6_checkThere : GoodIn wsX6_rollTemplate wsX6_checkThere := goodIn_ca (goodIn_r _ [29, 30, 31] (by decide +kernel) (by decide +kernel)) (goodIn_sub (fun _ h => List.mem_cons_of_mem _ (List.mem_append_left _ (List.mem_append_left _ (List.mem_append_right _ h)))) (by decide +kernel))
set_option maxRecDepth 20000 in
theorem gX6_rollTemplate_X6_checkThere : GoodIn wsX6_rollTemplate (va_wsS RX6 63 yX6_checkThere wsX6_checkThere) := goodIn_app (goodIn_of _ (by decide +kernel)) ggX6_rollTemplate_X6_checkThere
set_option maxRecDepth 20000 in
theorem ggX6_rollTemplate_X6_isTemplate : GoodIn wsX6_rollTemplate wsX6_isTemplate := goodIn_r _ [34, 35, 36, 12, 37, 24, 25, 26] (by decide +kernel) (by decide +kernel)
set_option maxRecDepth 20000 in
theorem gX6_rollTemplate_X6_isTemplate : GoodIn wsX6_rollTemplate (va_wsS RX6 134 yX6_isTemplate wsX6_isTemplate) := goodIn_app (goodIn_of _ (by decide +kernel)) ggX6_rollTemplate_X6_isTemplate
set_option maxRecDepth 20000 in
theorem ggX6_rollTemplate_X6_isOwner : GoodIn wsX6_rollTemplate wsX6_isOwner := goodIn_r _ [40] (by decide +kernel) (by decide +kernel)
set_option maxRecDepth 20000 in
theorem gX6_rollTemplate_X6_isOwner : GoodIn wsX6_rollTemplate (va_wsS RX6 115 yX6_isOwner wsX6_isOwner) := goodIn_app (goodIn_of _ (by decide +kernel)) ggX6_rollTemplate_X6_isOwner
set_option maxRecDepth 20000 in
theorem ggX6_rollTemplate_X6_checkArgument : GoodIn wsX6_rollTemplate wsX6_checkArgument := goodIn_ca (goodIn_r _ [43, 44, 45] (by decide +kernel) (by decide +kernel)) (goodIn_sub (fun _ h => List.mem_cons_of_mem _ (List.mem_append_left _ (List.mem_append_right _ h))) (by decide +kernel))
set_option maxRecDepth 20000 in
theorem gX6_rollTemplate_X6_checkArgument : GoodIn wsX6_rollTemplate (va_wsS RX6 44 yX6_checkArgument wsX6_checkArgument) := goodIn_app (goodIn_of _ (by decide +kernel)) ggX6_rollTemplate_X6_checkArgument
set_option maxRecDepth 20000 in
theorem ggX6_rollTemplate_X6_isFreeFor : GoodIn wsX6_rollTemplate wsX6_isFreeFor := goodIn_r _ [49, 1, 2, 50, 51, 52, 21, 53, 23, 54, 55, 56, 57, 58, 59, 60, 61, 62, 63, 64, 65, 66, 67, 68, 69, 70, 71, 72, 73, 74, 75, 76, 96, 97, 98, 99, 100, 101, 102, 103, 104, 105, 106, 107, 113, 114, 115] (by decide +kernel) (by decide +kernel)
set_option maxRecDepth 20000 in
theorem gX6_rollTemplate_X6_isFreeFor : GoodIn wsX6_rollTemplate (wsV RX6 118 RX6 yX6_isFreeFor wsX6_isFreeFor) := goodIn_app (goodIn_of _ (by decide +kernel)) ggX6_rollTemplate_X6_isFreeFor
set_option maxRecDepth 20000 in
theorem ggX6_rollTemplate_X6_checkState : GoodIn wsX6_rollTemplate wsX6_checkState := goodIn_ca (goodIn_r _ [79, 80, 81] (by decide +kernel) (by decide +kernel)) (goodIn_sub (fun _ h => List.mem_cons_of_mem _ (List.mem_append_right _ h)) (by decide +kernel))
set_option maxRecDepth 20000 in
theorem gX6_rollTemplate_X6_checkState : GoodIn wsX6_rollTemplate (va_wsS RX6 52 yX6_checkState wsX6_checkState) := goodIn_app (goodIn_of _ (by decide +kernel)) ggX6_rollTemplate_X6_checkState
set_option maxRecDepth 20000 in
theorem ggX6_rollTemplate_Jx4a65c_get_915e3 : GoodIn wsX6_rollTemplate wsJx4a65c_get_915e3 := goodIn_r _ [53, 23, 54, 55, 56, 57, 58, 59, 60, 61, 62, 63, 64, 21, 65, 66, 113, 114, 115] (by decide +kernel) (by decide +kernel)
set_option maxRecDepth 20000 in
theorem gX6_rollTemplate_Jx4a65c_get_915e3 : GoodIn wsX6_rollTemplate (wsV RX6 66 RJx4a65c yJx4a65c_get_915e3 wsJx4a65c_get_915e3) := goodIn_app (goodIn_of _ (by decide +kernel)) ggX6_rollTemplate_Jx4a65c_get_915e3
set_option maxRecDepth 20000 in
theorem ggX6_rollTemplate_X2_init : GoodIn wsX6_rollTemplate wsX2_init := goodIn_r _ [84, 85, 86, 87, 88, 89, 90, 110, 111, 112] (by decide +kernel) (by decide +kernel)
set_option maxRecDepth 20000 in
theorem gX6_rollTemplate_X2_init : GoodIn wsX6_rollTemplate (wsX2_init) := ggX6_rollTemplate_X2_init
set_option maxRecDepth 20000 in
theorem ggX6_rollTemplate_X5_init : GoodIn wsX6_rollTemplate wsX5_init := goodIn_r _ [93, 94, 86, 87, 95, 108, 109] (by decide +kernel) (by decide +kernel)
set_option maxRecDepth 20000 in
theorem gX6_rollTemplate_X5_init : GoodIn wsX6_rollTemplate (wsX5_init) := ggX6_rollTemplate_X5_init
theorem dX6_rollTemplate_0 : decode cX6_rollTemplate 0 = .ok (.aload_n 0, 1) := by decide +kernel
theorem dX6_rollTemplate_1 : decode cX6_rollTemplate 1 = .ok (.iload_n 1, 1) := by decide +kernel
theorem dX6_rollTemplate_2 : decode cX6_rollTemplate 2 = .ok (.iload_n 2, 1) := by decide +kernel
theorem dX6_rollTemplate_3 : decode cX6_rollTemplate 3 = .ok (.invokevirtual 109, 3) := by decide +kernel
theorem dX6_rollTemplate_6 : decode cX6_rollTemplate 6 = .ok (.invokestatic 63, 3) := by decide +kernel
theorem dX6_rollTemplate_9 : decode cX6_rollTemplate 9 = .ok (.iload_n 3, 1) := by decide +kernel
theorem dX6_rollTemplate_10 : decode cX6_rollTemplate 10 = .ok (.iload 4, 2) := by decide +kernel
theorem dX6_rollTemplate_12 : decode cX6_rollTemplate 12 = .ok (.iload 5, 2) := by decide +kernel
theorem dX6_rollTemplate_14 : decode cX6_rollTemplate 14 = .ok (.invokestatic 134, 3) := by decide +kernel
theorem dX6_rollTemplate_17 : decode cX6_rollTemplate 17 = .ok (.ifCond .eq 15, 3) := by decide +kernel
theorem dX6_rollTemplate_20 : decode cX6_rollTemplate 20 = .ok (.iload 6, 2) := by decide +kernel
theorem dX6_rollTemplate_22 : decode cX6_rollTemplate 22 = .ok (.invokestatic 115, 3) := by decide +kernel
theorem dX6_rollTemplate_25 : decode cX6_rollTemplate 25 = .ok (.ifCond .eq 7, 3) := by decide +kernel
theorem dX6_rollTemplate_28 : decode cX6_rollTemplate 28 = .ok (.iconst 1, 1) := by decide +kernel
theorem dX6_rollTemplate_29 : decode cX6_rollTemplate 29 = .ok (.goto 4, 3) := by decide +kernel
theorem dX6_rollTemplate_32 : decode cX6_rollTemplate 32 = .ok (.iconst 0, 1) := by decide +kernel
theorem dX6_rollTemplate_33 : decode cX6_rollTemplate 33 = .ok (.invokestatic 44, 3) := by decide +kernel
theorem dX6_rollTemplate_36 : decode cX6_rollTemplate 36 = .ok (.aload_n 0, 1) := by decide +kernel
theorem dX6_rollTemplate_37 : decode cX6_rollTemplate 37 = .ok (.iload_n 1, 1) := by decide +kernel
theorem dX6_rollTemplate_38 : decode cX6_rollTemplate 38 = .ok (.iload_n 2, 1) := by decide +kernel
theorem dX6_rollTemplate_39 : decode cX6_rollTemplate 39 = .ok (.iload 6, 2) := by decide +kernel
theorem dX6_rollTemplate_41 : decode cX6_rollTemplate 41 = .ok (.invokevirtual 118, 3) := by decide +kernel
theorem dX6_rollTemplate_44 : decode cX6_rollTemplate 44 = .ok (.invokestatic 52, 3) := by decide +kernel
theorem dX6_rollTemplate_47 : decode cX6_rollTemplate 47 = .ok (.aload_n 0, 1) := by decide +kernel
theorem dX6_rollTemplate_48 : decode cX6_rollTemplate 48 = .ok (.getfield 16, 3) := by decide +kernel
theorem dX6_rollTemplate_51 : decode cX6_rollTemplate 51 = .ok (.iload_n 1, 1) := by decide +kernel
theorem dX6_rollTemplate_52 : decode cX6_rollTemplate 52 = .ok (.invokevirtual 66, 3) := by decide +kernel
theorem dX6_rollTemplate_55 : decode cX6_rollTemplate 55 = .ok (.checkcast 84, 3) := by decide +kernel
theorem dX6_rollTemplate_58 : decode cX6_rollTemplate 58 = .ok (.getfield 141, 3) := by decide +kernel
theorem dX6_rollTemplate_61 : decode cX6_rollTemplate 61 = .ok (.iload_n 2, 1) := by decide +kernel
theorem dX6_rollTemplate_62 : decode cX6_rollTemplate 62 = .ok (.new 145, 3) := by decide +kernel
theorem dX6_rollTemplate_65 : decode cX6_rollTemplate 65 = .ok (.dup, 1) := by decide +kernel
theorem dX6_rollTemplate_66 : decode cX6_rollTemplate 66 = .ok (.new 122, 3) := by decide +kernel
theorem dX6_rollTemplate_69 : decode cX6_rollTemplate 69 = .ok (.dup, 1) := by decide +kernel
theorem dX6_rollTemplate_70 : decode cX6_rollTemplate 70 = .ok (.iload_n 3, 1) := by decide +kernel
theorem dX6_rollTemplate_71 : decode cX6_rollTemplate 71 = .ok (.iload 4, 2) := by decide +kernel
theorem dX6_rollTemplate_73 : decode cX6_rollTemplate 73 = .ok (.iload 5, 2) := by decide +kernel
theorem dX6_rollTemplate_75 : decode cX6_rollTemplate 75 = .ok (.invokespecial 124, 3) := by decide +kernel
theorem dX6_rollTemplate_78 : decode cX6_rollTemplate 78 = .ok (.invokespecial 147, 3) := by decide +kernel
theorem dX6_rollTemplate_81 : decode cX6_rollTemplate 81 = .ok (.aastore, 1) := by decide +kernel
theorem dX6_rollTemplate_82 : decode cX6_rollTemplate 82 = .ok (.return_, 1) := by decide +kernel
set_option maxRecDepth 20000 in
theorem ggX6_advance_X6_isCell : GoodIn wsX6_advance wsX6_isCell := goodIn_r _ [9, 10, 11, 12, 8, 13, 3, 14, 15, 16, 17, 18, 19, 20, 21, 22, 180, 181, 182, 183, 184, 194, 195, 196] (by decide +kernel) (by decide +kernel)
set_option maxRecDepth 20000 in
theorem gX6_advance_X6_isCell : GoodIn wsX6_advance (wsV RX6 109 RX6 yX6_isCell wsX6_isCell) := goodIn_app (goodIn_of _ (by decide +kernel)) ggX6_advance_X6_isCell
set_option maxRecDepth 20000 in
theorem ggX6_advance_X6_checkThere : GoodIn wsX6_advance wsX6_checkThere := goodIn_ca (goodIn_r _ [25, 26, 27] (by decide +kernel) (by decide +kernel)) (goodIn_sub (fun _ h => List.mem_cons_of_mem _ (List.mem_append_left _ (List.mem_append_right _ h))) (by decide +kernel))
set_option maxRecDepth 20000 in
theorem gX6_advance_X6_checkThere : GoodIn wsX6_advance (va_wsS RX6 63 yX6_checkThere wsX6_checkThere) := goodIn_app (goodIn_of _ (by decide +kernel)) ggX6_advance_X6_checkThere
set_option maxRecDepth 20000 in
theorem ggX6_advance_X6_isNewShare : GoodIn wsX6_advance wsX6_isNewShare := goodIn_r _ [30] (by decide +kernel) (by decide +kernel)
set_option maxRecDepth 20000 in
theorem gX6_advance_X6_isNewShare : GoodIn wsX6_advance (va_wsS RX6 150 yX6_isNewShare wsX6_isNewShare) := goodIn_app (goodIn_of _ (by decide +kernel)) ggX6_advance_X6_isNewShare
set_option maxRecDepth 20000 in
theorem ggX6_advance_X6_isOwner : GoodIn wsX6_advance wsX6_isOwner := goodIn_r _ [33] (by decide +kernel) (by decide +kernel)
set_option maxRecDepth 20000 in
theorem gX6_advance_X6_isOwner : GoodIn wsX6_advance (va_wsS RX6 115 yX6_isOwner wsX6_isOwner) := goodIn_app (goodIn_of _ (by decide +kernel)) ggX6_advance_X6_isOwner
set_option maxRecDepth 20000 in
theorem ggX6_advance_X6_checkArgument : GoodIn wsX6_advance wsX6_checkArgument := goodIn_ca (goodIn_r _ [36, 37, 38] (by decide +kernel) (by decide +kernel)) (goodIn_sub (fun _ h => List.mem_cons_of_mem _ (List.mem_append_right _ h)) (by decide +kernel))
set_option maxRecDepth 20000 in
theorem gX6_advance_X6_checkArgument : GoodIn wsX6_advance (va_wsS RX6 44 yX6_checkArgument wsX6_checkArgument) := goodIn_app (goodIn_of _ (by decide +kernel)) ggX6_advance_X6_checkArgument
set_option maxRecDepth 20000 in
theorem ggX6_advance_Jx4a65c_get_915e3 : GoodIn wsX6_advance wsJx4a65c_get_915e3 := goodIn_r _ [42, 19, 43, 44, 45, 46, 47, 48, 49, 50, 51, 52, 53, 17, 54, 55, 194, 195, 196] (by decide +kernel) (by decide +kernel)
set_option maxRecDepth 20000 in
theorem gX6_advance_Jx4a65c_get_915e3 : GoodIn wsX6_advance (wsV RX6 66 RJx4a65c yJx4a65c_get_915e3 wsJx4a65c_get_915e3) := goodIn_app (goodIn_of _ (by decide +kernel)) ggX6_advance_Jx4a65c_get_915e3
set_option maxRecDepth 20000 in
theorem ggX6_advance_X4_isHeldAgainst : GoodIn wsX6_advance wsX4_isHeldAgainst := goodIn_r _ [60, 61, 62, 63, 59, 64, 65, 185, 186, 187, 188, 189, 190, 191] (by decide +kernel) (by decide +kernel)
set_option maxRecDepth 20000 in
theorem gX6_advance_X4_isHeldAgainst : GoodIn wsX6_advance (wsV RX6 153 RX4 yX4_isHeldAgainst wsX4_isHeldAgainst) := goodIn_app (goodIn_of _ (by decide +kernel)) ggX6_advance_X4_isHeldAgainst
set_option maxRecDepth 20000 in
theorem ggX6_advance_X6_countShown : GoodIn wsX6_advance wsX6_countShown := goodIn_r _ [69, 70, 3, 4, 14, 15, 16, 17, 18, 19, 71, 72, 73, 8, 74, 75, 39, 40, 41, 42, 43, 44, 45, 46, 47, 48, 49, 50, 51, 52, 53, 54, 55, 76, 77, 78, 59, 79, 80, 81, 82, 83, 84, 85, 86, 180, 181, 182, 183, 184, 194, 195, 196, 185, 186, 187, 188, 189, 190, 191, 197, 198] (by decide +kernel) (by decide +kernel)
set_option maxRecDepth 20000 in
theorem gX6_advance_X6_countShown : GoodIn wsX6_advance (wsV RX6 164 RX6 yX6_countShown wsX6_countShown) := goodIn_app (goodIn_of _ (by decide +kernel)) ggX6_advance_X6_countShown
set_option maxRecDepth 20000 in
theorem ggX6_advance_X6_enter : GoodIn wsX6_advance wsX6_enter := goodIn_r _ [90, 91, 92, 93, 94, 95, 96, 97, 98, 99, 100, 101, 102, 103, 104, 105, 106, 107, 108, 109, 8, 110, 3, 4, 111, 14, 15, 16, 17, 18, 19, 112, 113, 114, 115, 116, 117, 118, 119, 120, 121, 122, 123, 124, 125, 126, 39, 40, 41, 42, 43, 44, 45, 46, 47, 48, 49, 50, 51, 52, 53, 54, 55, 127, 128, 129, 130, 131, 132, 133, 134, 135, 136, 137, 138, 139, 140, 141, 142, 143, 144, 145, 146, 147, 148, 149, 150, 151, 152, 153, 154, 155, 156, 157, 158, 159, 160, 161, 162, 163, 164, 165, 166, 167, 168, 169, 170, 171, 172, 173, 174, 175, 176, 177, 178, 179, 180, 181, 182, 183, 184, 199, 185, 186, 187, 188, 189, 190, 191, 194, 195, 196, 200, 201, 202] (by decide +kernel) (by decide +kernel)
set_option maxRecDepth 20000 in
theorem gX6_advance_X6_enter : GoodIn wsX6_advance (wsV RX6 127 RX6 yX6_enter wsX6_enter) := goodIn_app (goodIn_of _ (by decide +kernel)) ggX6_advance_X6_enter
theorem dX6_advance_0 : decode cX6_advance 0 = .ok (.aload_n 0, 1) := by decide +kernel
theorem dX6_advance_1 : decode cX6_advance 1 = .ok (.iload_n 1, 1) := by decide +kernel
theorem dX6_advance_2 : decode cX6_advance 2 = .ok (.iload_n 2, 1) := by decide +kernel
theorem dX6_advance_3 : decode cX6_advance 3 = .ok (.invokevirtual 109, 3) := by decide +kernel
theorem dX6_advance_6 : decode cX6_advance 6 = .ok (.invokestatic 63, 3) := by decide +kernel
theorem dX6_advance_9 : decode cX6_advance 9 = .ok (.iload_n 3, 1) := by decide +kernel
theorem dX6_advance_10 : decode cX6_advance 10 = .ok (.invokestatic 150, 3) := by decide +kernel
theorem dX6_advance_13 : decode cX6_advance 13 = .ok (.ifCond .eq 15, 3) := by decide +kernel
theorem dX6_advance_16 : decode cX6_advance 16 = .ok (.iload 4, 2) := by decide +kernel
theorem dX6_advance_18 : decode cX6_advance 18 = .ok (.invokestatic 115, 3) := by decide +kernel
theorem dX6_advance_21 : decode cX6_advance 21 = .ok (.ifCond .eq 7, 3) := by decide +kernel
theorem dX6_advance_24 : decode cX6_advance 24 = .ok (.iconst 1, 1) := by decide +kernel
theorem dX6_advance_25 : decode cX6_advance 25 = .ok (.goto 4, 3) := by decide +kernel
theorem dX6_advance_28 : decode cX6_advance 28 = .ok (.iconst 0, 1) := by decide +kernel
theorem dX6_advance_29 : decode cX6_advance 29 = .ok (.invokestatic 44, 3) := by decide +kernel
theorem dX6_advance_32 : decode cX6_advance 32 = .ok (.aload_n 0, 1) := by decide +kernel
theorem dX6_advance_33 : decode cX6_advance 33 = .ok (.getfield 16, 3) := by decide +kernel
theorem dX6_advance_36 : decode cX6_advance 36 = .ok (.iload_n 1, 1) := by decide +kernel
theorem dX6_advance_37 : decode cX6_advance 37 = .ok (.invokevirtual 66, 3) := by decide +kernel
theorem dX6_advance_40 : decode cX6_advance 40 = .ok (.checkcast 84, 3) := by decide +kernel
theorem dX6_advance_43 : decode cX6_advance 43 = .ok (.astore 5, 2) := by decide +kernel
theorem dX6_advance_45 : decode cX6_advance 45 = .ok (.aload 5, 2) := by decide +kernel
theorem dX6_advance_47 : decode cX6_advance 47 = .ok (.getfield 141, 3) := by decide +kernel
theorem dX6_advance_50 : decode cX6_advance 50 = .ok (.iload_n 2, 1) := by decide +kernel
theorem dX6_advance_51 : decode cX6_advance 51 = .ok (.aaload, 1) := by decide +kernel
theorem dX6_advance_52 : decode cX6_advance 52 = .ok (.astore 6, 2) := by decide +kernel
theorem dX6_advance_54 : decode cX6_advance 54 = .ok (.aload 5, 2) := by decide +kernel
theorem dX6_advance_56 : decode cX6_advance 56 = .ok (.iload_n 2, 1) := by decide +kernel
theorem dX6_advance_57 : decode cX6_advance 57 = .ok (.iload 4, 2) := by decide +kernel
theorem dX6_advance_59 : decode cX6_advance 59 = .ok (.invokevirtual 153, 3) := by decide +kernel
theorem dX6_advance_62 : decode cX6_advance 62 = .ok (.ifCond .ne 17, 3) := by decide +kernel
theorem dX6_advance_65 : decode cX6_advance 65 = .ok (.aload 6, 2) := by decide +kernel
theorem dX6_advance_67 : decode cX6_advance 67 = .ok (.ifnull 12, 3) := by decide +kernel
theorem dX6_advance_70 : decode cX6_advance 70 = .ok (.iload_n 3, 1) := by decide +kernel
theorem dX6_advance_71 : decode cX6_advance 71 = .ok (.aload 6, 2) := by decide +kernel
theorem dX6_advance_73 : decode cX6_advance 73 = .ok (.getfield 156, 3) := by decide +kernel
theorem dX6_advance_76 : decode cX6_advance 76 = .ok (.if_icmp .gt 13, 3) := by decide +kernel
theorem dX6_advance_79 : decode cX6_advance 79 = .ok (.new 159, 3) := by decide +kernel
theorem dX6_advance_82 : decode cX6_advance 82 = .ok (.dup, 1) := by decide +kernel
theorem dX6_advance_83 : decode cX6_advance 83 = .ok (.ldc 161, 2) := by decide +kernel
theorem dX6_advance_85 : decode cX6_advance 85 = .ok (.invokespecial 163, 3) := by decide +kernel
theorem dX6_advance_88 : decode cX6_advance 88 = .ok (.athrow, 1) := by decide +kernel
theorem dX6_advance_89 : decode cX6_advance 89 = .ok (.aload 6, 2) := by decide +kernel
theorem dX6_advance_91 : decode cX6_advance 91 = .ok (.iload_n 3, 1) := by decide +kernel
theorem dX6_advance_92 : decode cX6_advance 92 = .ok (.putfield 156, 3) := by decide +kernel
theorem dX6_advance_95 : decode cX6_advance 95 = .ok (.aload_n 0, 1) := by decide +kernel
theorem dX6_advance_96 : decode cX6_advance 96 = .ok (.iload_n 1, 1) := by decide +kernel
theorem dX6_advance_97 : decode cX6_advance 97 = .ok (.iload_n 2, 1) := by decide +kernel
theorem dX6_advance_98 : decode cX6_advance 98 = .ok (.iload_n 3, 1) := by decide +kernel
theorem dX6_advance_99 : decode cX6_advance 99 = .ok (.invokevirtual 164, 3) := by decide +kernel
theorem dX6_advance_102 : decode cX6_advance 102 = .ok (.istore 7, 2) := by decide +kernel
theorem dX6_advance_104 : decode cX6_advance 104 = .ok (.iload_n 3, 1) := by decide +kernel
theorem dX6_advance_105 : decode cX6_advance 105 = .ok (.bipush 100, 2) := by decide +kernel
theorem dX6_advance_107 : decode cX6_advance 107 = .ok (.if_icmp .ne 22, 3) := by decide +kernel
theorem dX6_advance_110 : decode cX6_advance 110 = .ok (.aload 5, 2) := by decide +kernel
theorem dX6_advance_112 : decode cX6_advance 112 = .ok (.getfield 141, 3) := by decide +kernel
theorem dX6_advance_115 : decode cX6_advance 115 = .ok (.iload_n 2, 1) := by decide +kernel
theorem dX6_advance_116 : decode cX6_advance 116 = .ok (.aconst_null, 1) := by decide +kernel
theorem dX6_advance_117 : decode cX6_advance 117 = .ok (.aastore, 1) := by decide +kernel
theorem dX6_advance_118 : decode cX6_advance 118 = .ok (.aload_n 0, 1) := by decide +kernel
theorem dX6_advance_119 : decode cX6_advance 119 = .ok (.iload_n 1, 1) := by decide +kernel
theorem dX6_advance_120 : decode cX6_advance 120 = .ok (.iload_n 2, 1) := by decide +kernel
theorem dX6_advance_121 : decode cX6_advance 121 = .ok (.aload 6, 2) := by decide +kernel
theorem dX6_advance_123 : decode cX6_advance 123 = .ok (.getfield 168, 3) := by decide +kernel
theorem dX6_advance_126 : decode cX6_advance 126 = .ok (.invokevirtual 127, 3) := by decide +kernel
theorem dX6_advance_129 : decode cX6_advance 129 = .ok (.iload 7, 2) := by decide +kernel
theorem dX6_advance_131 : decode cX6_advance 131 = .ok (.ireturn, 1) := by decide +kernel
set_option maxRecDepth 20000 in
theorem ggX6_abort_X6_isCell : GoodIn wsX6_abort wsX6_isCell := goodIn_r _ [9, 10, 11, 12, 8, 13, 3, 14, 15, 16, 17, 18, 19, 20, 21, 22, 63, 64, 65, 66, 67, 77, 78, 79] (by decide +kernel) (by decide +kernel)
set_option maxRecDepth 20000 in
theorem gX6_abort_X6_isCell : GoodIn wsX6_abort (wsV RX6 109 RX6 yX6_isCell wsX6_isCell) := goodIn_app (goodIn_of _ (by decide +kernel)) ggX6_abort_X6_isCell
set_option maxRecDepth 20000 in
theorem ggX6_abort_X6_checkThere : GoodIn wsX6_abort wsX6_checkThere := goodIn_ca (goodIn_r _ [25, 26, 27] (by decide +kernel) (by decide +kernel)) (goodIn_sub (fun _ h => List.mem_cons_of_mem _ (List.mem_append_left _ (List.mem_append_right _ h))) (by decide +kernel))
set_option maxRecDepth 20000 in
theorem gX6_abort_X6_checkThere : GoodIn wsX6_abort (va_wsS RX6 63 yX6_checkThere wsX6_checkThere) := goodIn_app (goodIn_of _ (by decide +kernel)) ggX6_abort_X6_checkThere
set_option maxRecDepth 20000 in
theorem ggX6_abort_X6_isOwner : GoodIn wsX6_abort wsX6_isOwner := goodIn_r _ [30] (by decide +kernel) (by decide +kernel)
set_option maxRecDepth 20000 in
theorem gX6_abort_X6_isOwner : GoodIn wsX6_abort (va_wsS RX6 115 yX6_isOwner wsX6_isOwner) := goodIn_app (goodIn_of _ (by decide +kernel)) ggX6_abort_X6_isOwner
set_option maxRecDepth 20000 in
theorem ggX6_abort_X6_checkArgument : GoodIn wsX6_abort wsX6_checkArgument := goodIn_ca (goodIn_r _ [33, 34, 35] (by decide +kernel) (by decide +kernel)) (goodIn_sub (fun _ h => List.mem_cons_of_mem _ (List.mem_append_right _ h)) (by decide +kernel))
set_option maxRecDepth 20000 in
theorem gX6_abort_X6_checkArgument : GoodIn wsX6_abort (va_wsS RX6 44 yX6_checkArgument wsX6_checkArgument) := goodIn_app (goodIn_of _ (by decide +kernel)) ggX6_abort_X6_checkArgument
set_option maxRecDepth 20000 in
theorem ggX6_abort_Jx4a65c_get_915e3 : GoodIn wsX6_abort wsJx4a65c_get_915e3 := goodIn_r _ [39, 19, 40, 41, 42, 43, 44, 45, 46, 47, 48, 49, 50, 17, 51, 52, 77, 78, 79] (by decide +kernel) (by decide +kernel)
set_option maxRecDepth 20000 in
theorem gX6_abort_Jx4a65c_get_915e3 : GoodIn wsX6_abort (wsV RX6 66 RJx4a65c yJx4a65c_get_915e3 wsJx4a65c_get_915e3) := goodIn_app (goodIn_of _ (by decide +kernel)) ggX6_abort_Jx4a65c_get_915e3
set_option maxRecDepth 20000 in
theorem ggX6_abort_X4_isHeldAgainst : GoodIn wsX6_abort wsX4_isHeldAgainst := goodIn_r _ [57, 58, 59, 60, 56, 61, 62, 68, 69, 70, 71, 72, 73, 74] (by decide +kernel) (by decide +kernel)
set_option maxRecDepth 20000 in
theorem gX6_abort_X4_isHeldAgainst : GoodIn wsX6_abort (wsV RX6 153 RX4 yX4_isHeldAgainst wsX4_isHeldAgainst) := goodIn_app (goodIn_of _ (by decide +kernel)) ggX6_abort_X4_isHeldAgainst
theorem dX6_abort_0 : decode cX6_abort 0 = .ok (.aload_n 0, 1) := by decide +kernel
theorem dX6_abort_1 : decode cX6_abort 1 = .ok (.iload_n 1, 1) := by decide +kernel
theorem dX6_abort_2 : decode cX6_abort 2 = .ok (.iload_n 2, 1) := by decide +kernel
theorem dX6_abort_3 : decode cX6_abort 3 = .ok (.invokevirtual 109, 3) := by decide +kernel
theorem dX6_abort_6 : decode cX6_abort 6 = .ok (.invokestatic 63, 3) := by decide +kernel
theorem dX6_abort_9 : decode cX6_abort 9 = .ok (.iload_n 3, 1) := by decide +kernel
theorem dX6_abort_10 : decode cX6_abort 10 = .ok (.invokestatic 115, 3) := by decide +kernel
theorem dX6_abort_13 : decode cX6_abort 13 = .ok (.invokestatic 44, 3) := by decide +kernel
theorem dX6_abort_16 : decode cX6_abort 16 = .ok (.aload_n 0, 1) := by decide +kernel
theorem dX6_abort_17 : decode cX6_abort 17 = .ok (.getfield 16, 3) := by decide +kernel
theorem dX6_abort_20 : decode cX6_abort 20 = .ok (.iload_n 1, 1) := by decide +kernel
theorem dX6_abort_21 : decode cX6_abort 21 = .ok (.invokevirtual 66, 3) := by decide +kernel
theorem dX6_abort_24 : decode cX6_abort 24 = .ok (.checkcast 84, 3) := by decide +kernel
theorem dX6_abort_27 : decode cX6_abort 27 = .ok (.astore 4, 2) := by decide +kernel
theorem dX6_abort_29 : decode cX6_abort 29 = .ok (.aload 4, 2) := by decide +kernel
theorem dX6_abort_31 : decode cX6_abort 31 = .ok (.getfield 141, 3) := by decide +kernel
theorem dX6_abort_34 : decode cX6_abort 34 = .ok (.iload_n 2, 1) := by decide +kernel
theorem dX6_abort_35 : decode cX6_abort 35 = .ok (.aaload, 1) := by decide +kernel
theorem dX6_abort_36 : decode cX6_abort 36 = .ok (.astore 5, 2) := by decide +kernel
theorem dX6_abort_38 : decode cX6_abort 38 = .ok (.aload 4, 2) := by decide +kernel
theorem dX6_abort_40 : decode cX6_abort 40 = .ok (.iload_n 2, 1) := by decide +kernel
theorem dX6_abort_41 : decode cX6_abort 41 = .ok (.iload_n 3, 1) := by decide +kernel
theorem dX6_abort_42 : decode cX6_abort 42 = .ok (.invokevirtual 153, 3) := by decide +kernel
theorem dX6_abort_45 : decode cX6_abort 45 = .ok (.ifCond .ne 8, 3) := by decide +kernel
theorem dX6_abort_48 : decode cX6_abort 48 = .ok (.aload 5, 2) := by decide +kernel
theorem dX6_abort_50 : decode cX6_abort 50 = .ok (.ifnonnull 13, 3) := by decide +kernel
theorem dX6_abort_53 : decode cX6_abort 53 = .ok (.new 159, 3) := by decide +kernel
theorem dX6_abort_56 : decode cX6_abort 56 = .ok (.dup, 1) := by decide +kernel
theorem dX6_abort_57 : decode cX6_abort 57 = .ok (.ldc 172, 2) := by decide +kernel
theorem dX6_abort_59 : decode cX6_abort 59 = .ok (.invokespecial 163, 3) := by decide +kernel
theorem dX6_abort_62 : decode cX6_abort 62 = .ok (.athrow, 1) := by decide +kernel
theorem dX6_abort_63 : decode cX6_abort 63 = .ok (.aload 4, 2) := by decide +kernel
theorem dX6_abort_65 : decode cX6_abort 65 = .ok (.getfield 141, 3) := by decide +kernel
theorem dX6_abort_68 : decode cX6_abort 68 = .ok (.iload_n 2, 1) := by decide +kernel
theorem dX6_abort_69 : decode cX6_abort 69 = .ok (.aconst_null, 1) := by decide +kernel
theorem dX6_abort_70 : decode cX6_abort 70 = .ok (.aastore, 1) := by decide +kernel
theorem dX6_abort_71 : decode cX6_abort 71 = .ok (.aload 5, 2) := by decide +kernel
theorem dX6_abort_73 : decode cX6_abort 73 = .ok (.getfield 156, 3) := by decide +kernel
theorem dX6_abort_76 : decode cX6_abort 76 = .ok (.ireturn, 1) := by decide +kernel
set_option maxRecDepth 20000 in
theorem ggX6_shareOf_X6_isCell : GoodIn wsX6_shareOf wsX6_isCell := goodIn_r _ [7, 8, 9, 10, 6, 11, 1, 12, 13, 14, 15, 16, 17, 18, 19, 20, 43, 44, 45, 46, 47, 57, 58, 59] (by decide +kernel) (by decide +kernel)
set_option maxRecDepth 20000 in
theorem gX6_shareOf_X6_isCell : GoodIn wsX6_shareOf (wsV RX6 109 RX6 yX6_isCell wsX6_isCell) := goodIn_app (goodIn_of _ (by decide +kernel)) ggX6_shareOf_X6_isCell
set_option maxRecDepth 20000 in
theorem ggX6_shareOf_X6_checkThere : GoodIn wsX6_shareOf wsX6_checkThere := goodIn_ca (goodIn_r _ [23, 24, 25] (by decide +kernel) (by decide +kernel)) (goodIn_sub (fun _ h => List.mem_cons_of_mem _ (List.mem_append_right _ h)) (by decide +kernel))
set_option maxRecDepth 20000 in
theorem gX6_shareOf_X6_checkThere : GoodIn wsX6_shareOf (va_wsS RX6 63 yX6_checkThere wsX6_checkThere) := goodIn_app (goodIn_of _ (by decide +kernel)) ggX6_shareOf_X6_checkThere
set_option maxRecDepth 20000 in
theorem ggX6_shareOf_Jx4a65c_get_915e3 : GoodIn wsX6_shareOf wsJx4a65c_get_915e3 := goodIn_r _ [29, 17, 30, 31, 32, 33, 34, 35, 36, 37, 38, 39, 40, 15, 41, 42, 57, 58, 59] (by decide +kernel) (by decide +kernel)
set_option maxRecDepth 20000 in
theorem gX6_shareOf_Jx4a65c_get_915e3 : GoodIn wsX6_shareOf (wsV RX6 66 RJx4a65c yJx4a65c_get_915e3 wsJx4a65c_get_915e3) := goodIn_app (goodIn_of _ (by decide +kernel)) ggX6_shareOf_Jx4a65c_get_915e3
theorem dX6_shareOf_0 : decode cX6_shareOf 0 = .ok (.aload_n 0, 1) := by decide +kernel
theorem dX6_shareOf_1 : decode cX6_shareOf 1 = .ok (.iload_n 1, 1) := by decide +kernel
theorem dX6_shareOf_2 : decode cX6_shareOf 2 = .ok (.iload_n 2, 1) := by decide +kernel
theorem dX6_shareOf_3 : decode cX6_shareOf 3 = .ok (.invokevirtual 109, 3) := by decide +kernel
theorem dX6_shareOf_6 : decode cX6_shareOf 6 = .ok (.invokestatic 63, 3) := by decide +kernel
theorem dX6_shareOf_9 : decode cX6_shareOf 9 = .ok (.aload_n 0, 1) := by decide +kernel
theorem dX6_shareOf_10 : decode cX6_shareOf 10 = .ok (.getfield 16, 3) := by decide +kernel
theorem dX6_shareOf_13 : decode cX6_shareOf 13 = .ok (.iload_n 1, 1) := by decide +kernel
theorem dX6_shareOf_14 : decode cX6_shareOf 14 = .ok (.invokevirtual 66, 3) := by decide +kernel
theorem dX6_shareOf_17 : decode cX6_shareOf 17 = .ok (.checkcast 84, 3) := by decide +kernel
theorem dX6_shareOf_20 : decode cX6_shareOf 20 = .ok (.getfield 141, 3) := by decide +kernel
theorem dX6_shareOf_23 : decode cX6_shareOf 23 = .ok (.iload_n 2, 1) := by decide +kernel
theorem dX6_shareOf_24 : decode cX6_shareOf 24 = .ok (.aaload, 1) := by decide +kernel
theorem dX6_shareOf_25 : decode cX6_shareOf 25 = .ok (.astore_n 3, 1) := by decide +kernel
theorem dX6_shareOf_26 : decode cX6_shareOf 26 = .ok (.aload_n 3, 1) := by decide +kernel
theorem dX6_shareOf_27 : decode cX6_shareOf 27 = .ok (.ifnonnull 7, 3) := by decide +kernel
theorem dX6_shareOf_30 : decode cX6_shareOf 30 = .ok (.iconst (-1), 1) := by decide +kernel
theorem dX6_shareOf_31 : decode cX6_shareOf 31 = .ok (.goto 7, 3) := by decide +kernel
theorem dX6_shareOf_34 : decode cX6_shareOf 34 = .ok (.aload_n 3, 1) := by decide +kernel
theorem dX6_shareOf_35 : decode cX6_shareOf 35 = .ok (.getfield 156, 3) := by decide +kernel
theorem dX6_shareOf_38 : decode cX6_shareOf 38 = .ok (.ireturn, 1) := by decide +kernel
set_option maxRecDepth 20000 in
theorem ggX6_lock_X6_isLayer : GoodIn wsX6_lock wsX6_isLayer := goodIn_r _ [7, 1, 8, 9, 10, 11, 12, 13, 80, 81, 82, 83, 84, 92, 93, 94] (by decide +kernel) (by decide +kernel)
set_option maxRecDepth 20000 in
theorem gX6_lock_X6_isLayer : GoodIn wsX6_lock (wsV RX6 89 RX6 yX6_isLayer wsX6_isLayer) := goodIn_app (goodIn_of _ (by decide +kernel)) ggX6_lock_X6_isLayer
set_option maxRecDepth 20000 in
theorem ggX6_lock_X6_isLockable : GoodIn wsX6_lock wsX6_isLockable := goodIn_r _ [16, 17, 18, 6, 19] (by decide +kernel) (by decide +kernel)
set_option maxRecDepth 20000 in
theorem gX6_lock_X6_isLockable : GoodIn wsX6_lock (va_wsS RX6 174 yX6_isLockable wsX6_isLockable) := goodIn_app (goodIn_of _ (by decide +kernel)) ggX6_lock_X6_isLockable
set_option maxRecDepth 20000 in
theorem ggX6_lock_X6_checkThere : GoodIn wsX6_lock wsX6_checkThere := goodIn_ca (goodIn_r _ [22, 23, 24] (by decide +kernel) (by decide +kernel)) (goodIn_sub (fun _ h => List.mem_cons_of_mem _ (List.mem_append_left _ (List.mem_append_left _ (List.mem_append_right _ h)))) (by decide +kernel))
set_option maxRecDepth 20000 in
theorem gX6_lock_X6_checkThere : GoodIn wsX6_lock (va_wsS RX6 63 yX6_checkThere wsX6_checkThere) := goodIn_app (goodIn_of _ (by decide +kernel)) ggX6_lock_X6_checkThere
set_option maxRecDepth 20000 in
theorem ggX6_lock_X6_isOwner : GoodIn wsX6_lock wsX6_isOwner := goodIn_r _ [27] (by decide +kernel) (by decide +kernel)
set_option maxRecDepth 20000 in
theorem gX6_lock_X6_isOwner : GoodIn wsX6_lock (va_wsS RX6 115 yX6_isOwner wsX6_isOwner) := goodIn_app (goodIn_of _ (by decide +kernel)) ggX6_lock_X6_isOwner
set_option maxRecDepth 20000 in
theorem ggX6_lock_X6_checkArgument : GoodIn wsX6_lock wsX6_checkArgument := goodIn_ca (goodIn_r _ [30, 31, 32] (by decide +kernel) (by decide +kernel)) (goodIn_sub (fun _ h => List.mem_cons_of_mem _ (List.mem_append_left _ (List.mem_append_right _ h))) (by decide +kernel))
set_option maxRecDepth 20000 in
theorem gX6_lock_X6_checkArgument : GoodIn wsX6_lock (va_wsS RX6 44 yX6_checkArgument wsX6_checkArgument) := goodIn_app (goodIn_of _ (by decide +kernel)) ggX6_lock_X6_checkArgument
set_option maxRecDepth 20000 in
theorem ggX6_lock_Jx4a65c_get_915e3 : GoodIn wsX6_lock wsJx4a65c_get_915e3 := goodIn_r _ [36, 13, 37, 38, 39, 40, 41, 42, 43, 44, 45, 46, 47, 11, 48, 49, 92, 93, 94] (by decide +kernel) (by decide +kernel)
set_option maxRecDepth 20000 in
theorem gX6_lock_Jx4a65c_get_915e3 : GoodIn wsX6_lock (wsV RX6 66 RJx4a65c yJx4a65c_get_915e3 wsJx4a65c_get_915e3) := goodIn_app (goodIn_of _ (by decide +kernel)) ggX6_lock_Jx4a65c_get_915e3
set_option maxRecDepth 20000 in
theorem ggX6_lock_X4_canBeHeld : GoodIn wsX6_lock wsX4_canBeHeld := goodIn_r _ [54, 55, 56, 57, 53, 58, 59, 60, 61, 62, 63, 85, 86, 87, 88, 89, 90, 91] (by decide +kernel) (by decide +kernel)
set_option maxRecDepth 20000 in
theorem gX6_lock_X4_canBeHeld : GoodIn wsX6_lock (wsV RX6 177 RX4 yX4_canBeHeld wsX4_canBeHeld) := goodIn_app (goodIn_of _ (by decide +kernel)) ggX6_lock_X4_canBeHeld
set_option maxRecDepth 20000 in
theorem ggX6_lock_X6_checkState : GoodIn wsX6_lock wsX6_checkState := goodIn_ca (goodIn_r _ [66, 67, 68] (by decide +kernel) (by decide +kernel)) (goodIn_sub (fun _ h => List.mem_cons_of_mem _ (List.mem_append_right _ h)) (by decide +kernel))
set_option maxRecDepth 20000 in
theorem gX6_lock_X6_checkState : GoodIn wsX6_lock (va_wsS RX6 52 yX6_checkState wsX6_checkState) := goodIn_app (goodIn_of _ (by decide +kernel)) ggX6_lock_X6_checkState
set_option maxRecDepth 20000 in
theorem ggX6_lock_X4_lockOf : GoodIn wsX6_lock wsX4_lockOf := goodIn_r _ [71] (by decide +kernel) (by decide +kernel)
set_option maxRecDepth 20000 in
theorem gX6_lock_X4_lockOf : GoodIn wsX6_lock (va_wsS RX6 184 yX4_lockOf wsX4_lockOf) := goodIn_app (goodIn_of _ (by decide +kernel)) ggX6_lock_X4_lockOf
set_option maxRecDepth 20000 in
theorem ggX6_lock_X6_countLocks : GoodIn wsX6_lock wsX6_countLocks := goodIn_r _ [75, 1, 2, 8, 9, 10, 11, 12, 13, 33, 34, 35, 36, 37, 38, 39, 40, 41, 42, 43, 44, 45, 46, 47, 48, 49, 76, 77, 78, 53, 79, 63, 80, 81, 82, 83, 84, 92, 93, 94, 85, 86, 87, 88, 89, 90, 91] (by decide +kernel) (by decide +kernel)
set_option maxRecDepth 20000 in
theorem gX6_lock_X6_countLocks : GoodIn wsX6_lock (wsV RX6 187 RX6 yX6_countLocks wsX6_countLocks) := goodIn_app (goodIn_of _ (by decide +kernel)) ggX6_lock_X6_countLocks
theorem dX6_lock_0 : decode cX6_lock 0 = .ok (.aload_n 0, 1) := by decide +kernel
theorem dX6_lock_1 : decode cX6_lock 1 = .ok (.iload_n 1, 1) := by decide +kernel
theorem dX6_lock_2 : decode cX6_lock 2 = .ok (.invokevirtual 89, 3) := by decide +kernel
theorem dX6_lock_5 : decode cX6_lock 5 = .ok (.ifCond .eq 14, 3) := by decide +kernel
theorem dX6_lock_8 : decode cX6_lock 8 = .ok (.iload_n 2, 1) := by decide +kernel
theorem dX6_lock_9 : decode cX6_lock 9 = .ok (.invokestatic 174, 3) := by decide +kernel
theorem dX6_lock_12 : decode cX6_lock 12 = .ok (.ifCond .eq 7, 3) := by decide +kernel
theorem dX6_lock_15 : decode cX6_lock 15 = .ok (.iconst 1, 1) := by decide +kernel
theorem dX6_lock_16 : decode cX6_lock 16 = .ok (.goto 4, 3) := by decide +kernel
theorem dX6_lock_19 : decode cX6_lock 19 = .ok (.iconst 0, 1) := by decide +kernel
theorem dX6_lock_20 : decode cX6_lock 20 = .ok (.invokestatic 63, 3) := by decide +kernel
theorem dX6_lock_23 : decode cX6_lock 23 = .ok (.iload_n 3, 1) := by decide +kernel
theorem dX6_lock_24 : decode cX6_lock 24 = .ok (.invokestatic 115, 3) := by decide +kernel
theorem dX6_lock_27 : decode cX6_lock 27 = .ok (.invokestatic 44, 3) := by decide +kernel
theorem dX6_lock_30 : decode cX6_lock 30 = .ok (.aload_n 0, 1) := by decide +kernel
theorem dX6_lock_31 : decode cX6_lock 31 = .ok (.getfield 16, 3) := by decide +kernel
theorem dX6_lock_34 : decode cX6_lock 34 = .ok (.iload_n 1, 1) := by decide +kernel
theorem dX6_lock_35 : decode cX6_lock 35 = .ok (.invokevirtual 66, 3) := by decide +kernel
theorem dX6_lock_38 : decode cX6_lock 38 = .ok (.checkcast 84, 3) := by decide +kernel
theorem dX6_lock_41 : decode cX6_lock 41 = .ok (.astore 4, 2) := by decide +kernel
theorem dX6_lock_43 : decode cX6_lock 43 = .ok (.aload 4, 2) := by decide +kernel
theorem dX6_lock_45 : decode cX6_lock 45 = .ok (.iload_n 2, 1) := by decide +kernel
theorem dX6_lock_46 : decode cX6_lock 46 = .ok (.iload_n 3, 1) := by decide +kernel
theorem dX6_lock_47 : decode cX6_lock 47 = .ok (.invokevirtual 177, 3) := by decide +kernel
theorem dX6_lock_50 : decode cX6_lock 50 = .ok (.invokestatic 52, 3) := by decide +kernel
theorem dX6_lock_53 : decode cX6_lock 53 = .ok (.aload 4, 2) := by decide +kernel
theorem dX6_lock_55 : decode cX6_lock 55 = .ok (.getfield 180, 3) := by decide +kernel
theorem dX6_lock_58 : decode cX6_lock 58 = .ok (.iload_n 2, 1) := by decide +kernel
theorem dX6_lock_59 : decode cX6_lock 59 = .ok (.invokestatic 184, 3) := by decide +kernel
theorem dX6_lock_62 : decode cX6_lock 62 = .ok (.iload_n 3, 1) := by decide +kernel
theorem dX6_lock_63 : decode cX6_lock 63 = .ok (.iastore, 1) := by decide +kernel
theorem dX6_lock_64 : decode cX6_lock 64 = .ok (.aload_n 0, 1) := by decide +kernel
theorem dX6_lock_65 : decode cX6_lock 65 = .ok (.iload_n 3, 1) := by decide +kernel
theorem dX6_lock_66 : decode cX6_lock 66 = .ok (.invokevirtual 187, 3) := by decide +kernel
theorem dX6_lock_69 : decode cX6_lock 69 = .ok (.ireturn, 1) := by decide +kernel
set_option maxRecDepth 20000 in
theorem ggX6_unlock_X6_isLayer : GoodIn wsX6_unlock wsX6_isLayer := goodIn_r _ [7, 1, 8, 9, 10, 11, 12, 13, 68, 69, 70, 71, 72, 80, 81, 82] (by decide +kernel) (by decide +kernel)
set_option maxRecDepth 20000 in
theorem gX6_unlock_X6_isLayer : GoodIn wsX6_unlock (wsV RX6 89 RX6 yX6_isLayer wsX6_isLayer) := goodIn_app (goodIn_of _ (by decide +kernel)) ggX6_unlock_X6_isLayer
set_option maxRecDepth 20000 in
theorem ggX6_unlock_X6_isLockable : GoodIn wsX6_unlock wsX6_isLockable := goodIn_r _ [16, 17, 18, 6, 19] (by decide +kernel) (by decide +kernel)
set_option maxRecDepth 20000 in
theorem gX6_unlock_X6_isLockable : GoodIn wsX6_unlock (va_wsS RX6 174 yX6_isLockable wsX6_isLockable) := goodIn_app (goodIn_of _ (by decide +kernel)) ggX6_unlock_X6_isLockable
set_option maxRecDepth 20000 in
theorem ggX6_unlock_X6_checkThere : GoodIn wsX6_unlock wsX6_checkThere := goodIn_ca (goodIn_r _ [22, 23, 24] (by decide +kernel) (by decide +kernel)) (goodIn_sub (fun _ h => List.mem_cons_of_mem _ (List.mem_append_left _ (List.mem_append_left _ (List.mem_append_right _ h)))) (by decide +kernel))
set_option maxRecDepth 20000 in
theorem gX6_unlock_X6_checkThere : GoodIn wsX6_unlock (va_wsS RX6 63 yX6_checkThere wsX6_checkThere) := goodIn_app (goodIn_of _ (by decide +kernel)) ggX6_unlock_X6_checkThere
set_option maxRecDepth 20000 in
theorem ggX6_unlock_X6_isOwner : GoodIn wsX6_unlock wsX6_isOwner := goodIn_r _ [27] (by decide +kernel) (by decide +kernel)
set_option maxRecDepth 20000 in
theorem gX6_unlock_X6_isOwner : GoodIn wsX6_unlock (va_wsS RX6 115 yX6_isOwner wsX6_isOwner) := goodIn_app (goodIn_of _ (by decide +kernel)) ggX6_unlock_X6_isOwner
set_option maxRecDepth 20000 in
theorem ggX6_unlock_X6_checkArgument : GoodIn wsX6_unlock wsX6_checkArgument := goodIn_ca (goodIn_r _ [30, 31, 32] (by decide +kernel) (by decide +kernel)) (goodIn_sub (fun _ h => List.mem_cons_of_mem _ (List.mem_append_left _ (List.mem_append_right _ h))) (by decide +kernel))
set_option maxRecDepth 20000 in
theorem gX6_unlock_X6_checkArgument : GoodIn wsX6_unlock (va_wsS RX6 44 yX6_checkArgument wsX6_checkArgument) := goodIn_app (goodIn_of _ (by decide +kernel)) ggX6_unlock_X6_checkArgument
set_option maxRecDepth 20000 in
theorem ggX6_unlock_Jx4a65c_get_915e3 : GoodIn wsX6_unlock wsJx4a65c_get_915e3 := goodIn_r _ [36, 13, 37, 38, 39, 40, 41, 42, 43, 44, 45, 46, 47, 11, 48, 49, 80, 81, 82] (by decide +kernel) (by decide +kernel)
set_option maxRecDepth 20000 in
theorem gX6_unlock_Jx4a65c_get_915e3 : GoodIn wsX6_unlock (wsV RX6 66 RJx4a65c yJx4a65c_get_915e3 wsJx4a65c_get_915e3) := goodIn_app (goodIn_of _ (by decide +kernel)) ggX6_unlock_Jx4a65c_get_915e3
set_option maxRecDepth 20000 in
theorem ggX6_unlock_X4_lockOf : GoodIn wsX6_unlock wsX4_lockOf := goodIn_r _ [53] (by decide +kernel) (by decide +kernel)
set_option maxRecDepth 20000 in
theorem gX6_unlock_X4_lockOf : GoodIn wsX6_unlock (va_wsS RX6 184 yX4_lockOf wsX4_lockOf) := goodIn_app (goodIn_of _ (by decide +kernel)) ggX6_unlock_X4_lockOf
set_option maxRecDepth 20000 in
theorem ggX6_unlock_X6_checkState : GoodIn wsX6_unlock wsX6_checkState := goodIn_ca (goodIn_r _ [56, 57, 58] (by decide +kernel) (by decide +kernel)) (goodIn_sub (fun _ h => List.mem_cons_of_mem _ (List.mem_append_right _ h)) (by decide +kernel))
set_option maxRecDepth 20000 in
theorem gX6_unlock_X6_checkState : GoodIn wsX6_unlock (va_wsS RX6 52 yX6_checkState wsX6_checkState) := goodIn_app (goodIn_of _ (by decide +kernel)) ggX6_unlock_X6_checkState
set_option maxRecDepth 20000 in
theorem ggX6_unlock_X6_countLocks : GoodIn wsX6_unlock wsX6_countLocks := goodIn_r _ [62, 1, 2, 8, 9, 10, 11, 12, 13, 33, 34, 35, 36, 37, 38, 39, 40, 41, 42, 43, 44, 45, 46, 47, 48, 49, 63, 64, 65, 52, 66, 67, 68, 69, 70, 71, 72, 80, 81, 82, 73, 74, 75, 76, 77, 78, 79] (by decide +kernel) (by decide +kernel)
set_option maxRecDepth 20000 in
theorem gX6_unlock_X6_countLocks : GoodIn wsX6_unlock (wsV RX6 187 RX6 yX6_countLocks wsX6_countLocks) := goodIn_app (goodIn_of _ (by decide +kernel)) ggX6_unlock_X6_countLocks
theorem dX6_unlock_0 : decode cX6_unlock 0 = .ok (.aload_n 0, 1) := by decide +kernel
theorem dX6_unlock_1 : decode cX6_unlock 1 = .ok (.iload_n 1, 1) := by decide +kernel
theorem dX6_unlock_2 : decode cX6_unlock 2 = .ok (.invokevirtual 89, 3) := by decide +kernel
theorem dX6_unlock_5 : decode cX6_unlock 5 = .ok (.ifCond .eq 14, 3) := by decide +kernel
theorem dX6_unlock_8 : decode cX6_unlock 8 = .ok (.iload_n 2, 1) := by decide +kernel
theorem dX6_unlock_9 : decode cX6_unlock 9 = .ok (.invokestatic 174, 3) := by decide +kernel
theorem dX6_unlock_12 : decode cX6_unlock 12 = .ok (.ifCond .eq 7, 3) := by decide +kernel
theorem dX6_unlock_15 : decode cX6_unlock 15 = .ok (.iconst 1, 1) := by decide +kernel
theorem dX6_unlock_16 : decode cX6_unlock 16 = .ok (.goto 4, 3) := by decide +kernel
theorem dX6_unlock_19 : decode cX6_unlock 19 = .ok (.iconst 0, 1) := by decide +kernel
theorem dX6_unlock_20 : decode cX6_unlock 20 = .ok (.invokestatic 63, 3) := by decide +kernel
theorem dX6_unlock_23 : decode cX6_unlock 23 = .ok (.iload_n 3, 1) := by decide +kernel
theorem dX6_unlock_24 : decode cX6_unlock 24 = .ok (.invokestatic 115, 3) := by decide +kernel
theorem dX6_unlock_27 : decode cX6_unlock 27 = .ok (.invokestatic 44, 3) := by decide +kernel
theorem dX6_unlock_30 : decode cX6_unlock 30 = .ok (.aload_n 0, 1) := by decide +kernel
theorem dX6_unlock_31 : decode cX6_unlock 31 = .ok (.getfield 16, 3) := by decide +kernel
theorem dX6_unlock_34 : decode cX6_unlock 34 = .ok (.iload_n 1, 1) := by decide +kernel
theorem dX6_unlock_35 : decode cX6_unlock 35 = .ok (.invokevirtual 66, 3) := by decide +kernel
theorem dX6_unlock_38 : decode cX6_unlock 38 = .ok (.checkcast 84, 3) := by decide +kernel
theorem dX6_unlock_41 : decode cX6_unlock 41 = .ok (.astore 4, 2) := by decide +kernel
theorem dX6_unlock_43 : decode cX6_unlock 43 = .ok (.iload_n 2, 1) := by decide +kernel
theorem dX6_unlock_44 : decode cX6_unlock 44 = .ok (.invokestatic 184, 3) := by decide +kernel
theorem dX6_unlock_47 : decode cX6_unlock 47 = .ok (.istore 5, 2) := by decide +kernel
theorem dX6_unlock_49 : decode cX6_unlock 49 = .ok (.aload 4, 2) := by decide +kernel
theorem dX6_unlock_51 : decode cX6_unlock 51 = .ok (.getfield 180, 3) := by decide +kernel
theorem dX6_unlock_54 : decode cX6_unlock 54 = .ok (.iload 5, 2) := by decide +kernel
theorem dX6_unlock_56 : decode cX6_unlock 56 = .ok (.iaload, 1) := by decide +kernel
theorem dX6_unlock_57 : decode cX6_unlock 57 = .ok (.iload_n 3, 1) := by decide +kernel
theorem dX6_unlock_58 : decode cX6_unlock 58 = .ok (.if_icmp .ne 7, 3) := by decide +kernel
theorem dX6_unlock_61 : decode cX6_unlock 61 = .ok (.iconst 1, 1) := by decide +kernel
theorem dX6_unlock_62 : decode cX6_unlock 62 = .ok (.goto 4, 3) := by decide +kernel
theorem dX6_unlock_65 : decode cX6_unlock 65 = .ok (.iconst 0, 1) := by decide +kernel
theorem dX6_unlock_66 : decode cX6_unlock 66 = .ok (.invokestatic 52, 3) := by decide +kernel
theorem dX6_unlock_69 : decode cX6_unlock 69 = .ok (.aload 4, 2) := by decide +kernel
theorem dX6_unlock_71 : decode cX6_unlock 71 = .ok (.getfield 180, 3) := by decide +kernel
theorem dX6_unlock_74 : decode cX6_unlock 74 = .ok (.iload 5, 2) := by decide +kernel
theorem dX6_unlock_76 : decode cX6_unlock 76 = .ok (.iconst 0, 1) := by decide +kernel
theorem dX6_unlock_77 : decode cX6_unlock 77 = .ok (.iastore, 1) := by decide +kernel
theorem dX6_unlock_78 : decode cX6_unlock 78 = .ok (.aload_n 0, 1) := by decide +kernel
theorem dX6_unlock_79 : decode cX6_unlock 79 = .ok (.iload_n 3, 1) := by decide +kernel
theorem dX6_unlock_80 : decode cX6_unlock 80 = .ok (.invokevirtual 187, 3) := by decide +kernel
theorem dX6_unlock_83 : decode cX6_unlock 83 = .ok (.ireturn, 1) := by decide +kernel
set_option maxRecDepth 20000 in
theorem ggX6_isLocked_X6_isCell : GoodIn wsX6_isLocked wsX6_isCell := goodIn_r _ [7, 8, 9, 10, 6, 11, 1, 12, 13, 14, 15, 16, 17, 18, 19, 20, 61, 62, 63, 64, 65, 66, 67, 68] (by decide +kernel) (by decide +kernel)
set_option maxRecDepth 20000 in
theorem gX6_isLocked_X6_isCell : GoodIn wsX6_isLocked (wsV RX6 109 RX6 yX6_isCell wsX6_isCell) := goodIn_app (goodIn_of _ (by decide +kernel)) ggX6_isLocked_X6_isCell
set_option maxRecDepth 20000 in
theorem ggX6_isLocked_X6_checkThere : GoodIn wsX6_isLocked wsX6_checkThere := goodIn_ca (goodIn_r _ [23, 24, 25] (by decide +kernel) (by decide +kernel)) (goodIn_sub (fun _ h => List.mem_cons_of_mem _ (List.mem_append_left _ (List.mem_append_right _ h))) (by decide +kernel))
set_option maxRecDepth 20000 in
theorem gX6_isLocked_X6_checkThere : GoodIn wsX6_isLocked (va_wsS RX6 63 yX6_checkThere wsX6_checkThere) := goodIn_app (goodIn_of _ (by decide +kernel)) ggX6_isLocked_X6_checkThere
set_option maxRecDepth 20000 in
theorem ggX6_isLocked_X6_isOwner : GoodIn wsX6_isLocked wsX6_isOwner := goodIn_r _ [28] (by decide +kernel) (by decide +kernel)
set_option maxRecDepth 20000 in
theorem gX6_isLocked_X6_isOwner : GoodIn wsX6_isLocked (va_wsS RX6 115 yX6_isOwner wsX6_isOwner) := goodIn_app (goodIn_of _ (by decide +kernel)) ggX6_isLocked_X6_isOwner
set_option maxRecDepth 20000 in
theorem ggX6_isLocked_X6_checkArgument : GoodIn wsX6_isLocked wsX6_checkArgument := goodIn_ca (goodIn_r _ [31, 32, 33] (by decide +kernel) (by decide +kernel)) (goodIn_sub (fun _ h => List.mem_cons_of_mem _ (List.mem_append_right _ h)) (by decide +kernel))
set_option maxRecDepth 20000 in
theorem gX6_isLocked_X6_checkArgument : GoodIn wsX6_isLocked (va_wsS RX6 44 yX6_checkArgument wsX6_checkArgument) := goodIn_app (goodIn_of _ (by decide +kernel)) ggX6_isLocked_X6_checkArgument
set_option maxRecDepth 20000 in
theorem ggX6_isLocked_Jx4a65c_get_915e3 : GoodIn wsX6_isLocked wsJx4a65c_get_915e3 := goodIn_r _ [37, 17, 38, 39, 40, 41, 42, 43, 44, 45, 46, 47, 48, 15, 49, 50, 66, 67, 68] (by decide +kernel) (by decide +kernel)
set_option maxRecDepth 20000 in
theorem gX6_isLocked_Jx4a65c_get_915e3 : GoodIn wsX6_isLocked (wsV RX6 66 RJx4a65c yJx4a65c_get_915e3 wsJx4a65c_get_915e3) := goodIn_app (goodIn_of _ (by decide +kernel)) ggX6_isLocked_Jx4a65c_get_915e3
set_option maxRecDepth 20000 in
theorem ggX6_isLocked_X4_isHeldAgainst : GoodIn wsX6_isLocked wsX4_isHeldAgainst := goodIn_r _ [55, 56, 57, 58, 54, 59, 60, 69, 70, 71, 72, 73, 74, 75] (by decide +kernel) (by decide +kernel)
set_option maxRecDepth 20000 in
theorem gX6_isLocked_X4_isHeldAgainst : GoodIn wsX6_isLocked (wsV RX6 153 RX4 yX4_isHeldAgainst wsX4_isHeldAgainst) := goodIn_app (goodIn_of _ (by decide +kernel)) ggX6_isLocked_X4_isHeldAgainst
theorem dX6_isLocked_0 : decode cX6_isLocked 0 = .ok (.aload_n 0, 1) := by decide +kernel
theorem dX6_isLocked_1 : decode cX6_isLocked 1 = .ok (.iload_n 1, 1) := by decide +kernel
theorem dX6_isLocked_2 : decode cX6_isLocked 2 = .ok (.iload_n 2, 1) := by decide +kernel
theorem dX6_isLocked_3 : decode cX6_isLocked 3 = .ok (.invokevirtual 109, 3) := by decide +kernel
theorem dX6_isLocked_6 : decode cX6_isLocked 6 = .ok (.invokestatic 63, 3) := by decide +kernel
theorem dX6_isLocked_9 : decode cX6_isLocked 9 = .ok (.iload_n 3, 1) := by decide +kernel
theorem dX6_isLocked_10 : decode cX6_isLocked 10 = .ok (.invokestatic 115, 3) := by decide +kernel
theorem dX6_isLocked_13 : decode cX6_isLocked 13 = .ok (.invokestatic 44, 3) := by decide +kernel
theorem dX6_isLocked_16 : decode cX6_isLocked 16 = .ok (.aload_n 0, 1) := by decide +kernel
theorem dX6_isLocked_17 : decode cX6_isLocked 17 = .ok (.getfield 16, 3) := by decide +kernel
theorem dX6_isLocked_20 : decode cX6_isLocked 20 = .ok (.iload_n 1, 1) := by decide +kernel
theorem dX6_isLocked_21 : decode cX6_isLocked 21 = .ok (.invokevirtual 66, 3) := by decide +kernel
theorem dX6_isLocked_24 : decode cX6_isLocked 24 = .ok (.checkcast 84, 3) := by decide +kernel
theorem dX6_isLocked_27 : decode cX6_isLocked 27 = .ok (.iload_n 2, 1) := by decide +kernel
theorem dX6_isLocked_28 : decode cX6_isLocked 28 = .ok (.iload_n 3, 1) := by decide +kernel
theorem dX6_isLocked_29 : decode cX6_isLocked 29 = .ok (.invokevirtual 153, 3) := by decide +kernel
theorem dX6_isLocked_32 : decode cX6_isLocked 32 = .ok (.ireturn, 1) := by decide +kernel
set_option maxRecDepth 20000 in
theorem ggX6_version_Jx4a65c_size_8abf5 : GoodIn wsX6_version wsJx4a65c_size_8abf5 := goodIn_r _ [6, 7, 13, 14, 15] (by decide +kernel) (by decide +kernel)
set_option maxRecDepth 20000 in
theorem gX6_version_Jx4a65c_size_8abf5 : GoodIn wsX6_version (wsV RX6 48 RJx4a65c yJx4a65c_size_8abf5 wsJx4a65c_size_8abf5) := goodIn_app (goodIn_of _ (by decide +kernel)) ggX6_version_Jx4a65c_size_8abf5
theorem dX6_version_0 : decode cX6_version 0 = .ok (.aload_n 0, 1) := by decide +kernel
theorem dX6_version_1 : decode cX6_version 1 = .ok (.getfield 19, 3) := by decide +kernel
theorem dX6_version_4 : decode cX6_version 4 = .ok (.invokevirtual 48, 3) := by decide +kernel
theorem dX6_version_7 : decode cX6_version 7 = .ok (.iconst 1, 1) := by decide +kernel
theorem dX6_version_8 : decode cX6_version 8 = .ok (.isub, 1) := by decide +kernel
theorem dX6_version_9 : decode cX6_version 9 = .ok (.ireturn, 1) := by decide +kernel
set_option maxRecDepth 20000 in
theorem ggX6_changedAt_X6_isCell : GoodIn wsX6_changedAt wsX6_isCell := goodIn_r _ [7, 8, 9, 10, 6, 11, 1, 12, 13, 14, 15, 16, 17, 18, 19, 20, 43, 44, 45, 46, 47, 55, 56, 57] (by decide +kernel) (by decide +kernel)
set_option maxRecDepth 20000 in
theorem gX6_changedAt_X6_isCell : GoodIn wsX6_changedAt (wsV RX6 109 RX6 yX6_isCell wsX6_isCell) := goodIn_app (goodIn_of _ (by decide +kernel)) ggX6_changedAt_X6_isCell
set_option maxRecDepth 20000 in
theorem ggX6_changedAt_X6_checkThere : GoodIn wsX6_changedAt wsX6_checkThere := goodIn_ca (goodIn_r _ [23, 24, 25] (by decide +kernel) (by decide +kernel)) (goodIn_sub (fun _ h => List.mem_cons_of_mem _ (List.mem_append_right _ h)) (by decide +kernel))
set_option maxRecDepth 20000 in
theorem gX6_changedAt_X6_checkThere : GoodIn wsX6_changedAt (va_wsS RX6 63 yX6_checkThere wsX6_checkThere) := goodIn_app (goodIn_of _ (by decide +kernel)) ggX6_changedAt_X6_checkThere
set_option maxRecDepth 20000 in
theorem ggX6_changedAt_Jx4a65c_get_915e3 : GoodIn wsX6_changedAt wsJx4a65c_get_915e3 := goodIn_r _ [29, 17, 30, 31, 32, 33, 34, 35, 36, 37, 38, 39, 40, 15, 41, 42, 55, 56, 57] (by decide +kernel) (by decide +kernel)
set_option maxRecDepth 20000 in
theorem gX6_changedAt_Jx4a65c_get_915e3 : GoodIn wsX6_changedAt (wsV RX6 66 RJx4a65c yJx4a65c_get_915e3 wsJx4a65c_get_915e3) := goodIn_app (goodIn_of _ (by decide +kernel)) ggX6_changedAt_Jx4a65c_get_915e3
theorem dX6_changedAt_0 : decode cX6_changedAt 0 = .ok (.aload_n 0, 1) := by decide +kernel
theorem dX6_changedAt_1 : decode cX6_changedAt 1 = .ok (.iload_n 1, 1) := by decide +kernel
theorem dX6_changedAt_2 : decode cX6_changedAt 2 = .ok (.iload_n 2, 1) := by decide +kernel
theorem dX6_changedAt_3 : decode cX6_changedAt 3 = .ok (.invokevirtual 109, 3) := by decide +kernel
theorem dX6_changedAt_6 : decode cX6_changedAt 6 = .ok (.invokestatic 63, 3) := by decide +kernel
theorem dX6_changedAt_9 : decode cX6_changedAt 9 = .ok (.aload_n 0, 1) := by decide +kernel
theorem dX6_changedAt_10 : decode cX6_changedAt 10 = .ok (.getfield 16, 3) := by decide +kernel
theorem dX6_changedAt_13 : decode cX6_changedAt 13 = .ok (.iload_n 1, 1) := by decide +kernel
theorem dX6_changedAt_14 : decode cX6_changedAt 14 = .ok (.invokevirtual 66, 3) := by decide +kernel
theorem dX6_changedAt_17 : decode cX6_changedAt 17 = .ok (.checkcast 84, 3) := by decide +kernel
theorem dX6_changedAt_20 : decode cX6_changedAt 20 = .ok (.getfield 190, 3) := by decide +kernel
theorem dX6_changedAt_23 : decode cX6_changedAt 23 = .ok (.iload_n 2, 1) := by decide +kernel
theorem dX6_changedAt_24 : decode cX6_changedAt 24 = .ok (.iaload, 1) := by decide +kernel
theorem dX6_changedAt_25 : decode cX6_changedAt 25 = .ok (.ireturn, 1) := by decide +kernel
set_option maxRecDepth 20000 in
theorem ggX6_rollback_X6_isVersion : GoodIn wsX6_rollback wsX6_isVersion := goodIn_r _ [7, 1, 8, 9, 10, 11, 12, 13, 144, 145, 146, 147, 148, 149, 150, 151] (by decide +kernel) (by decide +kernel)
set_option maxRecDepth 20000 in
theorem gX6_rollback_X6_isVersion : GoodIn wsX6_rollback (wsV RX6 193 RX6 yX6_isVersion wsX6_isVersion) := goodIn_app (goodIn_of _ (by decide +kernel)) ggX6_rollback_X6_isVersion
set_option maxRecDepth 20000 in
theorem ggX6_rollback_X6_checkThere : GoodIn wsX6_rollback wsX6_checkThere := goodIn_ca (goodIn_r _ [16, 17, 18] (by decide +kernel) (by decide +kernel)) (goodIn_sub (fun _ h => List.mem_cons_of_mem _ (List.mem_append_left _ (List.mem_append_left _ (List.mem_append_right _ h)))) (by decide +kernel))
set_option maxRecDepth 20000 in
theorem gX6_rollback_X6_checkThere : GoodIn wsX6_rollback (va_wsS RX6 63 yX6_checkThere wsX6_checkThere) := goodIn_app (goodIn_of _ (by decide +kernel)) ggX6_rollback_X6_checkThere
set_option maxRecDepth 20000 in
theorem ggX6_rollback_X6_isOwner : GoodIn wsX6_rollback wsX6_isOwner := goodIn_r _ [21] (by decide +kernel) (by decide +kernel)
set_option maxRecDepth 20000 in
theorem gX6_rollback_X6_isOwner : GoodIn wsX6_rollback (va_wsS RX6 115 yX6_isOwner wsX6_isOwner) := goodIn_app (goodIn_of _ (by decide +kernel)) ggX6_rollback_X6_isOwner
set_option maxRecDepth 20000 in
theorem ggX6_rollback_X6_checkArgument : GoodIn wsX6_rollback wsX6_checkArgument := goodIn_ca (goodIn_r _ [24, 25, 26] (by decide +kernel) (by decide +kernel)) (goodIn_sub (fun _ h => List.mem_cons_of_mem _ (List.mem_append_left _ (List.mem_append_right _ h))) (by decide +kernel))
set_option maxRecDepth 20000 in
theorem gX6_rollback_X6_checkArgument : GoodIn wsX6_rollback (va_wsS RX6 44 yX6_checkArgument wsX6_checkArgument) := goodIn_app (goodIn_of _ (by decide +kernel)) ggX6_rollback_X6_checkArgument
set_option maxRecDepth 20000 in
theorem ggX6_rollback_Jx4a65c_get_915e3 : GoodIn wsX6_rollback wsJx4a65c_get_915e3 := goodIn_r _ [30, 13, 31, 32, 33, 34, 35, 36, 37, 38, 39, 40, 41, 11, 42, 43, 149, 150, 151] (by decide +kernel) (by decide +kernel)
set_option maxRecDepth 20000 in
theorem gX6_rollback_Jx4a65c_get_915e3 : GoodIn wsX6_rollback (wsV RX6 66 RJx4a65c yJx4a65c_get_915e3 wsJx4a65c_get_915e3) := goodIn_app (goodIn_of _ (by decide +kernel)) ggX6_rollback_Jx4a65c_get_915e3
set_option maxRecDepth 20000 in
theorem ggX6_rollback_X6_canTurnInto : GoodIn wsX6_rollback wsX6_canTurnInto := goodIn_r _ [47, 48, 8, 9, 10, 11, 12, 13, 49, 50, 51, 6, 52, 53, 54, 55, 56, 57, 58, 59, 60, 61, 62, 63, 64, 65, 66, 67, 68, 69, 70, 71, 27, 28, 29, 30, 31, 32, 33, 34, 35, 36, 37, 38, 39, 40, 41, 42, 43, 72, 73, 74, 75, 76, 77, 78, 79, 80, 81, 144, 145, 146, 147, 148, 149, 150, 151, 152, 153, 154, 155, 156, 157, 158, 159, 160, 161, 162] (by decide +kernel) (by decide +kernel)
set_option maxRecDepth 20000 in
theorem gX6_rollback_X6_canTurnInto : GoodIn wsX6_rollback (wsV RX6 196 RX6 yX6_canTurnInto wsX6_canTurnInto) := goodIn_app (goodIn_of _ (by decide +kernel)) ggX6_rollback_X6_canTurnInto
set_option maxRecDepth 20000 in
theorem ggX6_rollback_X6_checkState : GoodIn wsX6_rollback wsX6_checkState := goodIn_ca (goodIn_r _ [84, 85, 86] (by decide +kernel) (by decide +kernel)) (goodIn_sub (fun _ h => List.mem_cons_of_mem _ (List.mem_append_right _ h)) (by decide +kernel))
set_option maxRecDepth 20000 in
theorem gX6_rollback_X6_checkState : GoodIn wsX6_rollback (va_wsS RX6 52 yX6_checkState wsX6_checkState) := goodIn_app (goodIn_of _ (by decide +kernel)) ggX6_rollback_X6_checkState
set_option maxRecDepth 20000 in
theorem ggX6_rollback_X6_turnInto : GoodIn wsX6_rollback wsX6_turnInto := goodIn_r _ [90, 48, 71, 1, 53, 8, 9, 10, 11, 12, 13, 49, 50, 51, 6, 52, 54, 55, 56, 57, 58, 59, 60, 61, 62, 63, 64, 65, 66, 27, 28, 29, 30, 31, 32, 33, 34, 35, 36, 37, 38, 39, 40, 41, 42, 43, 91, 92, 93, 94, 95, 96, 97, 98, 99, 100, 101, 102, 103, 104, 105, 106, 107, 108, 109, 110, 111, 112, 113, 114, 115, 116, 117, 118, 119, 120, 121, 122, 123, 124, 125, 126, 127, 128, 129, 130, 131, 132, 133, 134, 135, 136, 137, 138, 139, 140, 141, 142, 143, 144, 145, 146, 147, 148, 156, 157, 158, 159, 160, 161, 162, 149, 150, 151, 152, 153, 154, 155] (by decide +kernel) (by decide +kernel)
set_option maxRecDepth 20000 in
theorem gX6_rollback_X6_turnInto : GoodIn wsX6_rollback (wsV RX6 200 RX6 yX6_turnInto wsX6_turnInto) := goodIn_app (goodIn_of _ (by decide +kernel)) ggX6_rollback_X6_turnInto
theorem dX6_rollback_0 : decode cX6_rollback 0 = .ok (.aload_n 0, 1) := by decide +kernel
theorem dX6_rollback_1 : decode cX6_rollback 1 = .ok (.iload_n 1, 1) := by decide +kernel
theorem dX6_rollback_2 : decode cX6_rollback 2 = .ok (.invokevirtual 193, 3) := by decide +kernel
theorem dX6_rollback_5 : decode cX6_rollback 5 = .ok (.invokestatic 63, 3) := by decide +kernel
theorem dX6_rollback_8 : decode cX6_rollback 8 = .ok (.iload_n 2, 1) := by decide +kernel
theorem dX6_rollback_9 : decode cX6_rollback 9 = .ok (.invokestatic 115, 3) := by decide +kernel
theorem dX6_rollback_12 : decode cX6_rollback 12 = .ok (.invokestatic 44, 3) := by decide +kernel
theorem dX6_rollback_15 : decode cX6_rollback 15 = .ok (.aload_n 0, 1) := by decide +kernel
theorem dX6_rollback_16 : decode cX6_rollback 16 = .ok (.getfield 19, 3) := by decide +kernel
theorem dX6_rollback_19 : decode cX6_rollback 19 = .ok (.iload_n 1, 1) := by decide +kernel
theorem dX6_rollback_20 : decode cX6_rollback 20 = .ok (.invokevirtual 66, 3) := by decide +kernel
theorem dX6_rollback_23 : decode cX6_rollback 23 = .ok (.checkcast 29, 3) := by decide +kernel
theorem dX6_rollback_26 : decode cX6_rollback 26 = .ok (.astore_n 3, 1) := by decide +kernel
theorem dX6_rollback_27 : decode cX6_rollback 27 = .ok (.aload_n 0, 1) := by decide +kernel
theorem dX6_rollback_28 : decode cX6_rollback 28 = .ok (.aload_n 3, 1) := by decide +kernel
theorem dX6_rollback_29 : decode cX6_rollback 29 = .ok (.iload_n 2, 1) := by decide +kernel
theorem dX6_rollback_30 : decode cX6_rollback 30 = .ok (.invokevirtual 196, 3) := by decide +kernel
theorem dX6_rollback_33 : decode cX6_rollback 33 = .ok (.invokestatic 52, 3) := by decide +kernel
theorem dX6_rollback_36 : decode cX6_rollback 36 = .ok (.aload_n 0, 1) := by decide +kernel
theorem dX6_rollback_37 : decode cX6_rollback 37 = .ok (.aload_n 3, 1) := by decide +kernel
theorem dX6_rollback_38 : decode cX6_rollback 38 = .ok (.invokevirtual 200, 3) := by decide +kernel
theorem dX6_rollback_41 : decode cX6_rollback 41 = .ok (.ireturn, 1) := by decide +kernel
set_option maxRecDepth 20000 in
theorem ggX6_value_X6_isClient : GoodIn wsX6_value wsX6_isClient := goodIn_r _ [6, 7, 8, 9, 10, 11, 12, 13, 136, 137, 138, 139, 140, 150, 151, 152] (by decide +kernel) (by decide +kernel)
set_option maxRecDepth 20000 in
theorem gX6_value_X6_isClient : GoodIn wsX6_value (wsV RX6 60 RX6 yX6_isClient wsX6_isClient) := goodIn_app (goodIn_of _ (by decide +kernel)) ggX6_value_X6_isClient
set_option maxRecDepth 20000 in
theorem ggX6_value_X6_isSetting : GoodIn wsX6_value wsX6_isSetting := goodIn_r _ [16] (by decide +kernel) (by decide +kernel)
set_option maxRecDepth 20000 in
theorem gX6_value_X6_isSetting : GoodIn wsX6_value (va_wsS RX6 204 yX6_isSetting wsX6_isSetting) := goodIn_app (goodIn_of _ (by decide +kernel)) ggX6_value_X6_isSetting
set_option maxRecDepth 20000 in
theorem ggX6_value_X6_checkThere : GoodIn wsX6_value wsX6_checkThere := goodIn_ca (goodIn_r _ [19, 20, 21] (by decide +kernel) (by decide +kernel)) (goodIn_sub (fun _ h => List.mem_cons_of_mem _ (List.mem_append_left _ (List.mem_append_right _ h))) (by decide +kernel))
set_option maxRecDepth 20000 in
theorem gX6_value_X6_checkThere : GoodIn wsX6_value (va_wsS RX6 63 yX6_checkThere wsX6_checkThere) := goodIn_app (goodIn_of _ (by decide +kernel)) ggX6_value_X6_checkThere
set_option maxRecDepth 20000 in
theorem ggX6_value_X6_ask : GoodIn wsX6_value wsX6_ask := goodIn_r _ [25, 1, 26, 27, 28, 29, 30, 31, 32, 33, 34, 35, 36, 37, 38, 39, 40, 41, 42, 5, 43, 44, 45, 46, 47, 48, 49, 50, 51, 52, 53, 54, 55, 56, 57, 58, 59, 60, 61, 62, 63, 8, 9, 10, 11, 12, 13, 64, 65, 66, 67, 68, 7, 69, 70, 71, 72, 73, 74, 75, 76, 77, 78, 79, 80, 81, 82, 83, 84, 85, 86, 87, 88, 89, 90, 91, 92, 93, 94, 95, 96, 97, 98, 99, 100, 101, 102, 103, 104, 105, 106, 107, 108, 109, 110, 111, 112, 113, 114, 115, 116, 117, 118, 119, 120, 121, 122, 123, 124, 125, 126, 127, 128, 129, 130, 136, 137, 138, 139, 140, 141, 142, 143, 144, 145, 146, 147, 148, 149, 153, 154, 155, 150, 151, 152, 156, 157, 158, 159, 160, 161, 162, 163, 164, 165, 166, 167] (by decide +kernel) (by decide +kernel)
set_option maxRecDepth 20000 in
theorem gX6_value_X6_ask : GoodIn wsX6_value (wsV RX6 207 RX6 yX6_ask wsX6_ask) := goodIn_app (goodIn_of _ (by decide +kernel)) ggX6_value_X6_ask
set_option maxRecDepth 20000 in
theorem ggX6_value_X6_checkState : GoodIn wsX6_value wsX6_checkState := goodIn_ca (goodIn_r _ [133, 134, 135] (by decide +kernel) (by decide +kernel)) (goodIn_sub (fun _ h => List.mem_cons_of_mem _ (List.mem_append_right _ h)) (by decide +kernel))
set_option maxRecDepth 20000 in
theorem gX6_value_X6_checkState : GoodIn wsX6_value (va_wsS RX6 52 yX6_checkState wsX6_checkState) := goodIn_app (goodIn_of _ (by decide +kernel)) ggX6_value_X6_checkState
theorem dX6_value_0 : decode cX6_value 0 = .ok (.aload_n 0, 1) := by decide +kernel
theorem dX6_value_1 : decode cX6_value 1 = .ok (.iload_n 1, 1) := by decide +kernel
theorem dX6_value_2 : decode cX6_value 2 = .ok (.invokevirtual 60, 3) := by decide +kernel
theorem dX6_value_5 : decode cX6_value 5 = .ok (.ifCond .eq 14, 3) := by decide +kernel
theorem dX6_value_8 : decode cX6_value 8 = .ok (.iload_n 2, 1) := by decide +kernel
theorem dX6_value_9 : decode cX6_value 9 = .ok (.invokestatic 204, 3) := by decide +kernel
theorem dX6_value_12 : decode cX6_value 12 = .ok (.ifCond .eq 7, 3) := by decide +kernel
theorem dX6_value_15 : decode cX6_value 15 = .ok (.iconst 1, 1) := by decide +kernel
theorem dX6_value_16 : decode cX6_value 16 = .ok (.goto 4, 3) := by decide +kernel
theorem dX6_value_19 : decode cX6_value 19 = .ok (.iconst 0, 1) := by decide +kernel
theorem dX6_value_20 : decode cX6_value 20 = .ok (.invokestatic 63, 3) := by decide +kernel
theorem dX6_value_23 : decode cX6_value 23 = .ok (.aload_n 0, 1) := by decide +kernel
theorem dX6_value_24 : decode cX6_value 24 = .ok (.iload_n 1, 1) := by decide +kernel
theorem dX6_value_25 : decode cX6_value 25 = .ok (.iload_n 2, 1) := by decide +kernel
theorem dX6_value_26 : decode cX6_value 26 = .ok (.invokevirtual 207, 3) := by decide +kernel
theorem dX6_value_29 : decode cX6_value 29 = .ok (.aload_n 0, 1) := by decide +kernel
theorem dX6_value_30 : decode cX6_value 30 = .ok (.getfield 25, 3) := by decide +kernel
theorem dX6_value_33 : decode cX6_value 33 = .ok (.getfield 210, 3) := by decide +kernel
theorem dX6_value_36 : decode cX6_value 36 = .ok (.ifCond .ne 7, 3) := by decide +kernel
theorem dX6_value_39 : decode cX6_value 39 = .ok (.iconst 1, 1) := by decide +kernel
theorem dX6_value_40 : decode cX6_value 40 = .ok (.goto 4, 3) := by decide +kernel
theorem dX6_value_43 : decode cX6_value 43 = .ok (.iconst 0, 1) := by decide +kernel
theorem dX6_value_44 : decode cX6_value 44 = .ok (.invokestatic 52, 3) := by decide +kernel
theorem dX6_value_47 : decode cX6_value 47 = .ok (.aload_n 0, 1) := by decide +kernel
theorem dX6_value_48 : decode cX6_value 48 = .ok (.getfield 25, 3) := by decide +kernel
theorem dX6_value_51 : decode cX6_value 51 = .ok (.getfield 213, 3) := by decide +kernel
theorem dX6_value_54 : decode cX6_value 54 = .ok (.iload_n 2, 1) := by decide +kernel
theorem dX6_value_55 : decode cX6_value 55 = .ok (.laload, 1) := by decide +kernel
theorem dX6_value_56 : decode cX6_value 56 = .ok (.lreturn, 1) := by decide +kernel
set_option maxRecDepth 20000 in
theorem ggX6_status_X6_isClient : GoodIn wsX6_status wsX6_isClient := goodIn_r _ [6, 7, 8, 9, 10, 11, 12, 13, 131, 132, 133, 134, 135, 145, 146, 147] (by decide +kernel) (by decide +kernel)
set_option maxRecDepth 20000 in
theorem gX6_status_X6_isClient : GoodIn wsX6_status (wsV RX6 60 RX6 yX6_isClient wsX6_isClient) := goodIn_app (goodIn_of _ (by decide +kernel)) ggX6_status_X6_isClient
set_option maxRecDepth 20000 in
theorem ggX6_status_X6_isSetting : GoodIn wsX6_status wsX6_isSetting := goodIn_r _ [16] (by decide +kernel) (by decide +kernel)
set_option maxRecDepth 20000 in
theorem gX6_status_X6_isSetting : GoodIn wsX6_status (va_wsS RX6 204 yX6_isSetting wsX6_isSetting) := goodIn_app (goodIn_of _ (by decide +kernel)) ggX6_status_X6_isSetting
set_option maxRecDepth 20000 in
theorem ggX6_status_X6_checkThere : GoodIn wsX6_status wsX6_checkThere := goodIn_ca (goodIn_r _ [19, 20, 21] (by decide +kernel) (by decide +kernel)) (goodIn_sub (fun _ h => List.mem_cons_of_mem _ (List.mem_append_right _ h)) (by decide +kernel))
set_option maxRecDepth 20000 in
theorem gX6_status_X6_checkThere : GoodIn wsX6_status (va_wsS RX6 63 yX6_checkThere wsX6_checkThere) := goodIn_app (goodIn_of _ (by decide +kernel)) ggX6_status_X6_checkThere
set_option maxRecDepth 20000 in
theorem ggX6_status_X6_ask : GoodIn wsX6_status wsX6_ask := goodIn_r _ [25, 1, 26, 27, 28, 29, 30, 31, 32, 33, 34, 35, 36, 37, 38, 39, 40, 41, 42, 5, 43, 44, 45, 46, 47, 48, 49, 50, 51, 52, 53, 54, 55, 56, 57, 58, 59, 60, 61, 62, 63, 8, 9, 10, 11, 12, 13, 64, 65, 66, 67, 68, 7, 69, 70, 71, 72, 73, 74, 75, 76, 77, 78, 79, 80, 81, 82, 83, 84, 85, 86, 87, 88, 89, 90, 91, 92, 93, 94, 95, 96, 97, 98, 99, 100, 101, 102, 103, 104, 105, 106, 107, 108, 109, 110, 111, 112, 113, 114, 115, 116, 117, 118, 119, 120, 121, 122, 123, 124, 125, 126, 127, 128, 129, 130, 131, 132, 133, 134, 135, 136, 137, 138, 139, 140, 141, 142, 143, 144, 148, 149, 150, 145, 146, 147, 151, 152, 153, 154, 155, 156, 157, 158, 159, 160, 161, 162] (by decide +kernel) (by decide +kernel)
set_option maxRecDepth 20000 in
theorem gX6_status_X6_ask : GoodIn wsX6_status (wsV RX6 207 RX6 yX6_ask wsX6_ask) := goodIn_app (goodIn_of _ (by decide +kernel)) ggX6_status_X6_ask
theorem dX6_status_0 : decode cX6_status 0 = .ok (.aload_n 0, 1) := by decide +kernel
theorem dX6_status_1 : decode cX6_status 1 = .ok (.iload_n 1, 1) := by decide +kernel
theorem dX6_status_2 : decode cX6_status 2 = .ok (.invokevirtual 60, 3) := by decide +kernel
theorem dX6_status_5 : decode cX6_status 5 = .ok (.ifCond .eq 14, 3) := by decide +kernel
theorem dX6_status_8 : decode cX6_status 8 = .ok (.iload_n 2, 1) := by decide +kernel
theorem dX6_status_9 : decode cX6_status 9 = .ok (.invokestatic 204, 3) := by decide +kernel
theorem dX6_status_12 : decode cX6_status 12 = .ok (.ifCond .eq 7, 3) := by decide +kernel
theorem dX6_status_15 : decode cX6_status 15 = .ok (.iconst 1, 1) := by decide +kernel
theorem dX6_status_16 : decode cX6_status 16 = .ok (.goto 4, 3) := by decide +kernel
theorem dX6_status_19 : decode cX6_status 19 = .ok (.iconst 0, 1) := by decide +kernel
theorem dX6_status_20 : decode cX6_status 20 = .ok (.invokestatic 63, 3) := by decide +kernel
theorem dX6_status_23 : decode cX6_status 23 = .ok (.aload_n 0, 1) := by decide +kernel
theorem dX6_status_24 : decode cX6_status 24 = .ok (.iload_n 1, 1) := by decide +kernel
theorem dX6_status_25 : decode cX6_status 25 = .ok (.iload_n 2, 1) := by decide +kernel
theorem dX6_status_26 : decode cX6_status 26 = .ok (.invokevirtual 207, 3) := by decide +kernel
theorem dX6_status_29 : decode cX6_status 29 = .ok (.aload_n 0, 1) := by decide +kernel
theorem dX6_status_30 : decode cX6_status 30 = .ok (.getfield 25, 3) := by decide +kernel
theorem dX6_status_33 : decode cX6_status 33 = .ok (.getfield 210, 3) := by decide +kernel
theorem dX6_status_36 : decode cX6_status 36 = .ok (.ireturn, 1) := by decide +kernel
set_option maxRecDepth 20000 in
theorem ggX6_culprit_X6_isClient : GoodIn wsX6_culprit wsX6_isClient := goodIn_r _ [6, 7, 8, 9, 10, 11, 12, 13, 131, 132, 133, 134, 135, 145, 146, 147] (by decide +kernel) (by decide +kernel)
set_option maxRecDepth 20000 in
theorem gX6_culprit_X6_isClient : GoodIn wsX6_culprit (wsV RX6 60 RX6 yX6_isClient wsX6_isClient) := goodIn_app (goodIn_of _ (by decide +kernel)) ggX6_culprit_X6_isClient
set_option maxRecDepth 20000 in
theorem ggX6_culprit_X6_isSetting : GoodIn wsX6_culprit wsX6_isSetting := goodIn_r _ [16] (by decide +kernel) (by decide +kernel)
set_option maxRecDepth 20000 in
theorem gX6_culprit_X6_isSetting : GoodIn wsX6_culprit (va_wsS RX6 204 yX6_isSetting wsX6_isSetting) := goodIn_app (goodIn_of _ (by decide +kernel)) ggX6_culprit_X6_isSetting
set_option maxRecDepth 20000 in
theorem ggX6_culprit_X6_checkThere : GoodIn wsX6_culprit wsX6_checkThere := goodIn_ca (goodIn_r _ [19, 20, 21] (by decide +kernel) (by decide +kernel)) (goodIn_sub (fun _ h => List.mem_cons_of_mem _ (List.mem_append_right _ h)) (by decide +kernel))
set_option maxRecDepth 20000 in
theorem gX6_culprit_X6_checkThere : GoodIn wsX6_culprit (va_wsS RX6 63 yX6_checkThere wsX6_checkThere) := goodIn_app (goodIn_of _ (by decide +kernel)) ggX6_culprit_X6_checkThere
set_option maxRecDepth 20000 in
theorem ggX6_culprit_X6_ask : GoodIn wsX6_culprit wsX6_ask := goodIn_r _ [25, 1, 26, 27, 28, 29, 30, 31, 32, 33, 34, 35, 36, 37, 38, 39, 40, 41, 42, 5, 43, 44, 45, 46, 47, 48, 49, 50, 51, 52, 53, 54, 55, 56, 57, 58, 59, 60, 61, 62, 63, 8, 9, 10, 11, 12, 13, 64, 65, 66, 67, 68, 7, 69, 70, 71, 72, 73, 74, 75, 76, 77, 78, 79, 80, 81, 82, 83, 84, 85, 86, 87, 88, 89, 90, 91, 92, 93, 94, 95, 96, 97, 98, 99, 100, 101, 102, 103, 104, 105, 106, 107, 108, 109, 110, 111, 112, 113, 114, 115, 116, 117, 118, 119, 120, 121, 122, 123, 124, 125, 126, 127, 128, 129, 130, 131, 132, 133, 134, 135, 136, 137, 138, 139, 140, 141, 142, 143, 144, 148, 149, 150, 145, 146, 147, 151, 152, 153, 154, 155, 156, 157, 158, 159, 160, 161, 162] (by decide +kernel) (by decide +kernel)
set_option maxRecDepth 20000 in
theorem gX6_culprit_X6_ask : GoodIn wsX6_culprit (wsV RX6 207 RX6 yX6_ask wsX6_ask) := goodIn_app (goodIn_of _ (by decide +kernel)) ggX6_culprit_X6_ask
theorem dX6_culprit_0 : decode cX6_culprit 0 = .ok (.aload_n 0, 1) := by decide +kernel
theorem dX6_culprit_1 : decode cX6_culprit 1 = .ok (.iload_n 1, 1) := by decide +kernel
theorem dX6_culprit_2 : decode cX6_culprit 2 = .ok (.invokevirtual 60, 3) := by decide +kernel
theorem dX6_culprit_5 : decode cX6_culprit 5 = .ok (.ifCond .eq 14, 3) := by decide +kernel
theorem dX6_culprit_8 : decode cX6_culprit 8 = .ok (.iload_n 2, 1) := by decide +kernel
theorem dX6_culprit_9 : decode cX6_culprit 9 = .ok (.invokestatic 204, 3) := by decide +kernel
theorem dX6_culprit_12 : decode cX6_culprit 12 = .ok (.ifCond .eq 7, 3) := by decide +kernel
theorem dX6_culprit_15 : decode cX6_culprit 15 = .ok (.iconst 1, 1) := by decide +kernel
theorem dX6_culprit_16 : decode cX6_culprit 16 = .ok (.goto 4, 3) := by decide +kernel
theorem dX6_culprit_19 : decode cX6_culprit 19 = .ok (.iconst 0, 1) := by decide +kernel
theorem dX6_culprit_20 : decode cX6_culprit 20 = .ok (.invokestatic 63, 3) := by decide +kernel
theorem dX6_culprit_23 : decode cX6_culprit 23 = .ok (.aload_n 0, 1) := by decide +kernel
theorem dX6_culprit_24 : decode cX6_culprit 24 = .ok (.iload_n 1, 1) := by decide +kernel
theorem dX6_culprit_25 : decode cX6_culprit 25 = .ok (.iload_n 2, 1) := by decide +kernel
theorem dX6_culprit_26 : decode cX6_culprit 26 = .ok (.invokevirtual 207, 3) := by decide +kernel
theorem dX6_culprit_29 : decode cX6_culprit 29 = .ok (.aload_n 0, 1) := by decide +kernel
theorem dX6_culprit_30 : decode cX6_culprit 30 = .ok (.getfield 25, 3) := by decide +kernel
theorem dX6_culprit_33 : decode cX6_culprit 33 = .ok (.getfield 217, 3) := by decide +kernel
theorem dX6_culprit_36 : decode cX6_culprit 36 = .ok (.ireturn, 1) := by decide +kernel
set_option maxRecDepth 20000 in
theorem ggX6_layerOf_X6_isClient : GoodIn wsX6_layerOf wsX6_isClient := goodIn_r _ [7, 8, 9, 10, 11, 12, 13, 14, 95, 96, 97, 98, 99, 100, 101, 102] (by decide +kernel) (by decide +kernel)
set_option maxRecDepth 20000 in
theorem gX6_layerOf_X6_isClient : GoodIn wsX6_layerOf (wsV RX6 60 RX6 yX6_isClient wsX6_isClient) := goodIn_app (goodIn_of _ (by decide +kernel)) ggX6_layerOf_X6_isClient
set_option maxRecDepth 20000 in
theorem ggX6_layerOf_X6_isSetting : GoodIn wsX6_layerOf wsX6_isSetting := goodIn_r _ [17] (by decide +kernel) (by decide +kernel)
set_option maxRecDepth 20000 in
theorem gX6_layerOf_X6_isSetting : GoodIn wsX6_layerOf (va_wsS RX6 204 yX6_isSetting wsX6_isSetting) := goodIn_app (goodIn_of _ (by decide +kernel)) ggX6_layerOf_X6_isSetting
set_option maxRecDepth 20000 in
theorem ggX6_layerOf_X6_checkThere : GoodIn wsX6_layerOf wsX6_checkThere := goodIn_ca (goodIn_r _ [20, 21, 22] (by decide +kernel) (by decide +kernel)) (goodIn_sub (fun _ h => List.mem_cons_of_mem _ (List.mem_append_right _ h)) (by decide +kernel))
set_option maxRecDepth 20000 in
theorem gX6_layerOf_X6_checkThere : GoodIn wsX6_layerOf (va_wsS RX6 63 yX6_checkThere wsX6_checkThere) := goodIn_app (goodIn_of _ (by decide +kernel)) ggX6_layerOf_X6_checkThere
set_option maxRecDepth 20000 in
theorem ggX6_layerOf_X3_begin : GoodIn wsX6_layerOf wsX3_begin := goodIn_r _ [27, 28, 29, 30, 31, 32, 33, 34, 35, 103, 104, 105, 106, 107, 108, 109, 110, 111] (by decide +kernel) (by decide +kernel)
set_option maxRecDepth 20000 in
theorem gX6_layerOf_X3_begin : GoodIn wsX6_layerOf (wsV RX6 220 RX3 yX3_begin wsX3_begin) := goodIn_app (goodIn_of _ (by decide +kernel)) ggX6_layerOf_X3_begin
set_option maxRecDepth 20000 in
theorem ggX6_layerOf_X6_decidingLayer : GoodIn wsX6_layerOf wsX6_decidingLayer := goodIn_r _ [39, 40, 1, 9, 10, 11, 12, 13, 14, 41, 42, 43, 6, 44, 45, 8, 46, 47, 48, 49, 50, 51, 52, 53, 54, 55, 56, 57, 58, 59, 60, 61, 62, 63, 64, 65, 66, 67, 68, 69, 70, 71, 72, 73, 74, 75, 76, 77, 78, 79, 80, 81, 82, 83, 84, 85, 86, 87, 88, 89, 90, 91, 92, 93, 94, 95, 96, 97, 98, 99, 103, 104, 105, 106, 107, 108, 109, 110, 111, 100, 101, 102, 112, 113, 114, 115, 116, 117, 118, 119, 120, 121, 122, 123] (by decide +kernel) (by decide +kernel)
set_option maxRecDepth 20000 in
theorem gX6_layerOf_X6_decidingLayer : GoodIn wsX6_layerOf (wsV RX6 224 RX6 yX6_decidingLayer wsX6_decidingLayer) := goodIn_app (goodIn_of _ (by decide +kernel)) ggX6_layerOf_X6_decidingLayer
theorem dX6_layerOf_0 : decode cX6_layerOf 0 = .ok (.aload_n 0, 1) := by decide +kernel
theorem dX6_layerOf_1 : decode cX6_layerOf 1 = .ok (.iload_n 1, 1) := by decide +kernel
theorem dX6_layerOf_2 : decode cX6_layerOf 2 = .ok (.invokevirtual 60, 3) := by decide +kernel
theorem dX6_layerOf_5 : decode cX6_layerOf 5 = .ok (.ifCond .eq 14, 3) := by decide +kernel
theorem dX6_layerOf_8 : decode cX6_layerOf 8 = .ok (.iload_n 2, 1) := by decide +kernel
theorem dX6_layerOf_9 : decode cX6_layerOf 9 = .ok (.invokestatic 204, 3) := by decide +kernel
theorem dX6_layerOf_12 : decode cX6_layerOf 12 = .ok (.ifCond .eq 7, 3) := by decide +kernel
theorem dX6_layerOf_15 : decode cX6_layerOf 15 = .ok (.iconst 1, 1) := by decide +kernel
theorem dX6_layerOf_16 : decode cX6_layerOf 16 = .ok (.goto 4, 3) := by decide +kernel
theorem dX6_layerOf_19 : decode cX6_layerOf 19 = .ok (.iconst 0, 1) := by decide +kernel
theorem dX6_layerOf_20 : decode cX6_layerOf 20 = .ok (.invokestatic 63, 3) := by decide +kernel
theorem dX6_layerOf_23 : decode cX6_layerOf 23 = .ok (.aload_n 0, 1) := by decide +kernel
theorem dX6_layerOf_24 : decode cX6_layerOf 24 = .ok (.getfield 25, 3) := by decide +kernel
theorem dX6_layerOf_27 : decode cX6_layerOf 27 = .ok (.iload_n 1, 1) := by decide +kernel
theorem dX6_layerOf_28 : decode cX6_layerOf 28 = .ok (.aload_n 0, 1) := by decide +kernel
theorem dX6_layerOf_29 : decode cX6_layerOf 29 = .ok (.getfield 32, 3) := by decide +kernel
theorem dX6_layerOf_32 : decode cX6_layerOf 32 = .ok (.iconst 1, 1) := by decide +kernel
theorem dX6_layerOf_33 : decode cX6_layerOf 33 = .ok (.invokevirtual 220, 3) := by decide +kernel
theorem dX6_layerOf_36 : decode cX6_layerOf 36 = .ok (.aload_n 0, 1) := by decide +kernel
theorem dX6_layerOf_37 : decode cX6_layerOf 37 = .ok (.iload_n 2, 1) := by decide +kernel
theorem dX6_layerOf_38 : decode cX6_layerOf 38 = .ok (.invokevirtual 224, 3) := by decide +kernel
theorem dX6_layerOf_41 : decode cX6_layerOf 41 = .ok (.ireturn, 1) := by decide +kernel
set_option maxRecDepth 20000 in
theorem ggX6_isNew_X6_isClient : GoodIn wsX6_isNew wsX6_isClient := goodIn_r _ [9, 10, 11, 12, 13, 14, 15, 16, 95, 96, 97, 98, 99, 100, 101, 102] (by decide +kernel) (by decide +kernel)
set_option maxRecDepth 20000 in
theorem gX6_isNew_X6_isClient : GoodIn wsX6_isNew (wsV RX6 60 RX6 yX6_isClient wsX6_isClient) := goodIn_app (goodIn_of _ (by decide +kernel)) ggX6_isNew_X6_isClient
set_option maxRecDepth 20000 in
theorem ggX6_isNew_X6_isSetting : GoodIn wsX6_isNew wsX6_isSetting := goodIn_r _ [19] (by decide +kernel) (by decide +kernel)
set_option maxRecDepth 20000 in
theorem gX6_isNew_X6_isSetting : GoodIn wsX6_isNew (va_wsS RX6 204 yX6_isSetting wsX6_isSetting) := goodIn_app (goodIn_of _ (by decide +kernel)) ggX6_isNew_X6_isSetting
set_option maxRecDepth 20000 in
theorem ggX6_isNew_X6_checkThere : GoodIn wsX6_isNew wsX6_checkThere := goodIn_ca (goodIn_r _ [22, 23, 24] (by decide +kernel) (by decide +kernel)) (goodIn_sub (fun _ h => List.mem_cons_of_mem _ (List.mem_append_right _ h)) (by decide +kernel))
set_option maxRecDepth 20000 in
theorem gX6_isNew_X6_checkThere : GoodIn wsX6_isNew (va_wsS RX6 63 yX6_checkThere wsX6_checkThere) := goodIn_app (goodIn_of _ (by decide +kernel)) ggX6_isNew_X6_checkThere
set_option maxRecDepth 20000 in
theorem ggX6_isNew_X3_begin : GoodIn wsX6_isNew wsX3_begin := goodIn_r _ [29, 30, 31, 32, 33, 34, 35, 36, 37, 103, 104, 105, 106, 107, 108, 109, 110, 111] (by decide +kernel) (by decide +kernel)
set_option maxRecDepth 20000 in
theorem gX6_isNew_X3_begin : GoodIn wsX6_isNew (wsV RX6 220 RX3 yX3_begin wsX3_begin) := goodIn_app (goodIn_of _ (by decide +kernel)) ggX6_isNew_X3_begin
set_option maxRecDepth 20000 in
theorem ggX6_isNew_X6_decidingLayer : GoodIn wsX6_isNew wsX6_decidingLayer := goodIn_r _ [41, 3, 1, 11, 12, 13, 14, 15, 16, 42, 43, 44, 8, 45, 4, 10, 46, 47, 48, 49, 50, 51, 52, 53, 54, 55, 56, 57, 58, 59, 60, 61, 62, 63, 64, 65, 66, 67, 68, 69, 70, 71, 72, 73, 74, 75, 76, 77, 78, 79, 80, 81, 82, 83, 84, 85, 86, 87, 88, 89, 90, 91, 92, 93, 94, 95, 96, 97, 98, 99, 103, 104, 105, 106, 107, 108, 109, 110, 111, 100, 101, 102, 112, 113, 114, 115, 116, 117, 118, 119, 120, 121, 122, 123] (by decide +kernel) (by decide +kernel)
set_option maxRecDepth 20000 in
theorem gX6_isNew_X6_decidingLayer : GoodIn wsX6_isNew (wsV RX6 224 RX6 yX6_decidingLayer wsX6_decidingLayer) := goodIn_app (goodIn_of _ (by decide +kernel)) ggX6_isNew_X6_decidingLayer
set_option maxRecDepth 20000 in
theorem ggX6_isNew_Jx4a65c_get_915e3 : GoodIn wsX6_isNew wsJx4a65c_get_915e3 := goodIn_r _ [50, 16, 51, 52, 53, 54, 55, 56, 57, 58, 59, 60, 61, 14, 62, 63, 100, 101, 102] (by decide +kernel) (by decide +kernel)
set_option maxRecDepth 20000 in
theorem gX6_isNew_Jx4a65c_get_915e3 : GoodIn wsX6_isNew (wsV RX6 66 RJx4a65c yJx4a65c_get_915e3 wsJx4a65c_get_915e3) := goodIn_app (goodIn_of _ (by decide +kernel)) ggX6_isNew_Jx4a65c_get_915e3
set_option maxRecDepth 20000 in
theorem ggX6_isNew_X4_newEntryFor : GoodIn wsX6_isNew wsX4_newEntryFor := goodIn_r _ [78, 79, 80, 81, 82, 67, 83, 84, 112, 113, 114, 115, 116, 117, 118, 121, 122] (by decide +kernel) (by decide +kernel)
set_option maxRecDepth 20000 in
theorem gX6_isNew_X4_newEntryFor : GoodIn wsX6_isNew (wsV RX6 227 RX4 yX4_newEntryFor wsX4_newEntryFor) := goodIn_app (goodIn_of _ (by decide +kernel)) ggX6_isNew_X4_newEntryFor
