theorem dX7_differ_54 : decode cX7_differ 54 = .ok (.aload_n 0, 1) := by decide +kernel
theorem dX7_differ_55 : decode cX7_differ 55 = .ok (.getfield 159, 3) := by decide +kernel
theorem dX7_differ_58 : decode cX7_differ 58 = .ok (.ifCond .ne 7, 3) := by decide +kernel
theorem dX7_differ_61 : decode cX7_differ 61 = .ok (.iconst 1, 1) := by decide +kernel
theorem dX7_differ_62 : decode cX7_differ 62 = .ok (.goto 4, 3) := by decide +kernel
theorem dX7_differ_65 : decode cX7_differ 65 = .ok (.iconst 0, 1) := by decide +kernel
theorem dX7_differ_66 : decode cX7_differ 66 = .ok (.istore 8, 2) := by decide +kernel
theorem dX7_differ_68 : decode cX7_differ 68 = .ok (.aload_n 0, 1) := by decide +kernel
theorem dX7_differ_69 : decode cX7_differ 69 = .ok (.iload_n 2, 1) := by decide +kernel
theorem dX7_differ_70 : decode cX7_differ 70 = .ok (.iload 5, 2) := by decide +kernel
theorem dX7_differ_72 : decode cX7_differ 72 = .ok (.iconst (-1), 1) := by decide +kernel
theorem dX7_differ_73 : decode cX7_differ 73 = .ok (.invokevirtual 202, 3) := by decide +kernel
theorem dX7_differ_76 : decode cX7_differ 76 = .ok (.lstore 9, 2) := by decide +kernel
theorem dX7_differ_78 : decode cX7_differ 78 = .ok (.iload 8, 2) := by decide +kernel
theorem dX7_differ_80 : decode cX7_differ 80 = .ok (.aload_n 0, 1) := by decide +kernel
theorem dX7_differ_81 : decode cX7_differ 81 = .ok (.getfield 159, 3) := by decide +kernel
theorem dX7_differ_84 : decode cX7_differ 84 = .ok (.ifCond .ne 7, 3) := by decide +kernel
theorem dX7_differ_87 : decode cX7_differ 87 = .ok (.iconst 1, 1) := by decide +kernel
theorem dX7_differ_88 : decode cX7_differ 88 = .ok (.goto 4, 3) := by decide +kernel
theorem dX7_differ_91 : decode cX7_differ 91 = .ok (.iconst 0, 1) := by decide +kernel
theorem dX7_differ_92 : decode cX7_differ 92 = .ok (.if_icmp .ne 16, 3) := by decide +kernel
theorem dX7_differ_95 : decode cX7_differ 95 = .ok (.iload 8, 2) := by decide +kernel
theorem dX7_differ_97 : decode cX7_differ 97 = .ok (.ifCond .eq 15, 3) := by decide +kernel
theorem dX7_differ_100 : decode cX7_differ 100 = .ok (.lload 6, 2) := by decide +kernel
theorem dX7_differ_102 : decode cX7_differ 102 = .ok (.lload 9, 2) := by decide +kernel
theorem dX7_differ_104 : decode cX7_differ 104 = .ok (.lcmp, 1) := by decide +kernel
theorem dX7_differ_105 : decode cX7_differ 105 = .ok (.ifCond .eq 7, 3) := by decide +kernel
theorem dX7_differ_108 : decode cX7_differ 108 = .ok (.iconst 1, 1) := by decide +kernel
theorem dX7_differ_109 : decode cX7_differ 109 = .ok (.goto 4, 3) := by decide +kernel
theorem dX7_differ_112 : decode cX7_differ 112 = .ok (.iconst 0, 1) := by decide +kernel
theorem dX7_differ_113 : decode cX7_differ 113 = .ok (.istore 11, 2) := by decide +kernel
theorem dX7_differ_115 : decode cX7_differ 115 = .ok (.iload_n 3, 1) := by decide +kernel
theorem dX7_differ_116 : decode cX7_differ 116 = .ok (.iload 11, 2) := by decide +kernel
theorem dX7_differ_118 : decode cX7_differ 118 = .ok (.ifCond .eq 10, 3) := by decide +kernel
theorem dX7_differ_121 : decode cX7_differ 121 = .ok (.iconst 1, 1) := by decide +kernel
theorem dX7_differ_122 : decode cX7_differ 122 = .ok (.iload 5, 2) := by decide +kernel
theorem dX7_differ_124 : decode cX7_differ 124 = .ok (.ishl, 1) := by decide +kernel
theorem dX7_differ_125 : decode cX7_differ 125 = .ok (.goto 4, 3) := by decide +kernel
theorem dX7_differ_128 : decode cX7_differ 128 = .ok (.iconst 0, 1) := by decide +kernel
theorem dX7_differ_129 : decode cX7_differ 129 = .ok (.ior, 1) := by decide +kernel
theorem dX7_differ_130 : decode cX7_differ 130 = .ok (.istore_n 3, 1) := by decide +kernel
theorem dX7_differ_131 : decode cX7_differ 131 = .ok (.iinc 5 1, 3) := by decide +kernel
theorem dX7_differ_134 : decode cX7_differ 134 = .ok (.goto (-102), 3) := by decide +kernel
theorem dX7_differ_137 : decode cX7_differ 137 = .ok (.iload_n 3, 1) := by decide +kernel
theorem dX7_differ_138 : decode cX7_differ 138 = .ok (.ireturn, 1) := by decide +kernel
set_option maxRecDepth 20000 in
theorem ggX7_goesAt_X7_isIn : GoodIn wsX7_goesAt wsX7_isIn := goodIn_r _ [5] (by decide +kernel) (by decide +kernel)
set_option maxRecDepth 20000 in
theorem gX7_goesAt_X7_isIn : GoodIn wsX7_goesAt (va_wsS RX7 67 yX7_isIn wsX7_isIn) := goodIn_app (goodIn_of _ (by decide +kernel)) ggX7_goesAt_X7_isIn
set_option maxRecDepth 20000 in
theorem ggX7_goesAt_X7_isClient : GoodIn wsX7_goesAt wsX7_isClient := goodIn_r _ [9, 10, 2, 3, 4, 5, 19, 20, 21, 22, 23, 24, 25, 26, 27, 28, 29, 30, 31, 32, 33, 34, 35, 36, 37, 38, 39, 40, 41, 42, 43, 44] (by decide +kernel) (by decide +kernel)
set_option maxRecDepth 20000 in
theorem gX7_goesAt_X7_isClient : GoodIn wsX7_goesAt (wsV RX7 81 RX7 yX7_isClient wsX7_isClient) := goodIn_app (goodIn_of _ (by decide +kernel)) ggX7_goesAt_X7_isClient
set_option maxRecDepth 20000 in
theorem ggX7_goesAt_X7_isSetting : GoodIn wsX7_goesAt wsX7_isSetting := goodIn_r _ [13, 2, 3, 4, 5] (by decide +kernel) (by decide +kernel)
set_option maxRecDepth 20000 in
theorem gX7_goesAt_X7_isSetting : GoodIn wsX7_goesAt (va_wsS RX7 100 yX7_isSetting wsX7_isSetting) := goodIn_app (goodIn_of _ (by decide +kernel)) ggX7_goesAt_X7_isSetting
set_option maxRecDepth 20000 in
theorem ggX7_goesAt_X7_goes : GoodIn wsX7_goesAt wsX7_goes := goodIn_r _ [17, 18, 19, 20, 21, 22, 23, 24, 25, 26, 27, 28, 29, 30, 31, 32, 33, 34, 35, 36, 37, 38, 39, 40, 41, 42, 43, 44] (by decide +kernel) (by decide +kernel)
set_option maxRecDepth 20000 in
theorem gX7_goesAt_X7_goes : GoodIn wsX7_goesAt (wsV RX7 78 RX7 yX7_goes wsX7_goes) := goodIn_app (goodIn_of _ (by decide +kernel)) ggX7_goesAt_X7_goes
theorem dX7_goesAt_0 : decode cX7_goesAt 0 = .ok (.aload_n 0, 1) := by decide +kernel
theorem dX7_goesAt_1 : decode cX7_goesAt 1 = .ok (.iload_n 1, 1) := by decide +kernel
theorem dX7_goesAt_2 : decode cX7_goesAt 2 = .ok (.iconst 0, 1) := by decide +kernel
theorem dX7_goesAt_3 : decode cX7_goesAt 3 = .ok (.aload_n 0, 1) := by decide +kernel
theorem dX7_goesAt_4 : decode cX7_goesAt 4 = .ok (.getfield 94, 3) := by decide +kernel
theorem dX7_goesAt_7 : decode cX7_goesAt 7 = .ok (.invokestatic 67, 3) := by decide +kernel
theorem dX7_goesAt_10 : decode cX7_goesAt 10 = .ok (.ifCond .eq 22, 3) := by decide +kernel
theorem dX7_goesAt_13 : decode cX7_goesAt 13 = .ok (.aload_n 0, 1) := by decide +kernel
theorem dX7_goesAt_14 : decode cX7_goesAt 14 = .ok (.iload_n 2, 1) := by decide +kernel
theorem dX7_goesAt_15 : decode cX7_goesAt 15 = .ok (.invokevirtual 81, 3) := by decide +kernel
theorem dX7_goesAt_18 : decode cX7_goesAt 18 = .ok (.ifCond .eq 14, 3) := by decide +kernel
theorem dX7_goesAt_21 : decode cX7_goesAt 21 = .ok (.iload_n 3, 1) := by decide +kernel
theorem dX7_goesAt_22 : decode cX7_goesAt 22 = .ok (.invokestatic 100, 3) := by decide +kernel
theorem dX7_goesAt_25 : decode cX7_goesAt 25 = .ok (.ifCond .eq 7, 3) := by decide +kernel
theorem dX7_goesAt_28 : decode cX7_goesAt 28 = .ok (.iconst 0, 1) := by decide +kernel
theorem dX7_goesAt_29 : decode cX7_goesAt 29 = .ok (.goto 4, 3) := by decide +kernel
theorem dX7_goesAt_32 : decode cX7_goesAt 32 = .ok (.iconst 1, 1) := by decide +kernel
theorem dX7_goesAt_33 : decode cX7_goesAt 33 = .ok (.invokevirtual 78, 3) := by decide +kernel
theorem dX7_goesAt_36 : decode cX7_goesAt 36 = .ok (.ireturn, 1) := by decide +kernel
set_option maxRecDepth 20000 in
theorem ggX7_statusAt_X7_goesAt : GoodIn wsX7_statusAt wsX7_goesAt := goodIn_r _ [6, 7, 8, 9, 5, 10, 11, 12, 13, 14, 15, 16, 17, 18, 19, 20, 21, 22, 23, 95, 96, 97, 98, 99, 100, 101, 102, 103, 104, 105, 106, 107, 108, 109, 110, 111, 112, 113, 114, 115, 116, 117, 118, 119, 120] (by decide +kernel) (by decide +kernel)
set_option maxRecDepth 20000 in
theorem gX7_statusAt_X7_goesAt : GoodIn wsX7_statusAt (wsV RX7 206 RX7 yX7_goesAt wsX7_goesAt) := goodIn_app (goodIn_of _ (by decide +kernel)) ggX7_statusAt_X7_goesAt
set_option maxRecDepth 20000 in
theorem ggX7_statusAt_X7_asks : GoodIn wsX7_statusAt wsX7_asks := goodIn_r _ [27, 28, 29, 30, 1, 31, 32, 33, 34, 35, 36, 37, 38, 5, 39, 40, 41, 42, 43, 44, 45, 46, 47, 48, 49, 50, 51, 52, 53, 54, 55, 56, 57, 58, 59, 60, 61, 62, 63, 64, 65, 66, 67, 68, 69, 70, 71, 72, 73, 74, 75, 76, 77, 78, 79, 80, 81, 82, 83, 84, 85, 86, 87, 88, 89, 90, 91, 92, 93, 94, 95, 96, 97, 98, 99, 100, 101, 102, 103, 104, 105, 106, 107, 108, 109, 110, 111, 112, 113, 114, 115, 116, 117, 118, 119, 120] (by decide +kernel) (by decide +kernel)
set_option maxRecDepth 20000 in
theorem gX7_statusAt_X7_asks : GoodIn wsX7_statusAt (wsV RX7 202 RX7 yX7_asks wsX7_asks) := goodIn_app (goodIn_of _ (by decide +kernel)) ggX7_statusAt_X7_asks
theorem dX7_statusAt_0 : decode cX7_statusAt 0 = .ok (.aload_n 0, 1) := by decide +kernel
theorem dX7_statusAt_1 : decode cX7_statusAt 1 = .ok (.iload_n 1, 1) := by decide +kernel
theorem dX7_statusAt_2 : decode cX7_statusAt 2 = .ok (.iload_n 2, 1) := by decide +kernel
theorem dX7_statusAt_3 : decode cX7_statusAt 3 = .ok (.iload_n 3, 1) := by decide +kernel
theorem dX7_statusAt_4 : decode cX7_statusAt 4 = .ok (.invokevirtual 206, 3) := by decide +kernel
theorem dX7_statusAt_7 : decode cX7_statusAt 7 = .ok (.ifCond .ne 5, 3) := by decide +kernel
theorem dX7_statusAt_10 : decode cX7_statusAt 10 = .ok (.iconst 0, 1) := by decide +kernel
theorem dX7_statusAt_11 : decode cX7_statusAt 11 = .ok (.ireturn, 1) := by decide +kernel
theorem dX7_statusAt_12 : decode cX7_statusAt 12 = .ok (.aload_n 0, 1) := by decide +kernel
theorem dX7_statusAt_13 : decode cX7_statusAt 13 = .ok (.iload_n 2, 1) := by decide +kernel
theorem dX7_statusAt_14 : decode cX7_statusAt 14 = .ok (.iload_n 3, 1) := by decide +kernel
theorem dX7_statusAt_15 : decode cX7_statusAt 15 = .ok (.iload_n 1, 1) := by decide +kernel
theorem dX7_statusAt_16 : decode cX7_statusAt 16 = .ok (.invokevirtual 202, 3) := by decide +kernel
theorem dX7_statusAt_19 : decode cX7_statusAt 19 = .ok (.lstore 4, 2) := by decide +kernel
theorem dX7_statusAt_21 : decode cX7_statusAt 21 = .ok (.aload_n 0, 1) := by decide +kernel
theorem dX7_statusAt_22 : decode cX7_statusAt 22 = .ok (.getfield 159, 3) := by decide +kernel
theorem dX7_statusAt_25 : decode cX7_statusAt 25 = .ok (.ireturn, 1) := by decide +kernel
set_option maxRecDepth 20000 in
theorem ggX7_valueAt_X7_goesAt : GoodIn wsX7_valueAt wsX7_goesAt := goodIn_r _ [6, 7, 8, 9, 5, 10, 11, 12, 13, 14, 15, 16, 17, 18, 19, 20, 21, 22, 23, 95, 96, 97, 98, 99, 100, 101, 102, 103, 104, 105, 106, 107, 108, 109, 110, 111, 112, 113, 114, 115, 116, 117, 118, 119, 120] (by decide +kernel) (by decide +kernel)
set_option maxRecDepth 20000 in
theorem gX7_valueAt_X7_goesAt : GoodIn wsX7_valueAt (wsV RX7 206 RX7 yX7_goesAt wsX7_goesAt) := goodIn_app (goodIn_of _ (by decide +kernel)) ggX7_valueAt_X7_goesAt
set_option maxRecDepth 20000 in
theorem ggX7_valueAt_X7_asks : GoodIn wsX7_valueAt wsX7_asks := goodIn_r _ [27, 28, 29, 30, 1, 31, 32, 33, 34, 35, 36, 37, 38, 5, 39, 40, 41, 42, 43, 44, 45, 46, 47, 48, 49, 50, 51, 52, 53, 54, 55, 56, 57, 58, 59, 60, 61, 62, 63, 64, 65, 66, 67, 68, 69, 70, 71, 72, 73, 74, 75, 76, 77, 78, 79, 80, 81, 82, 83, 84, 85, 86, 87, 88, 89, 90, 91, 92, 93, 94, 95, 96, 97, 98, 99, 100, 101, 102, 103, 104, 105, 106, 107, 108, 109, 110, 111, 112, 113, 114, 115, 116, 117, 118, 119, 120] (by decide +kernel) (by decide +kernel)
set_option maxRecDepth 20000 in
theorem gX7_valueAt_X7_asks : GoodIn wsX7_valueAt (wsV RX7 202 RX7 yX7_asks wsX7_asks) := goodIn_app (goodIn_of _ (by decide +kernel)) ggX7_valueAt_X7_asks
set_option maxRecDepth 20000 in
theorem ggX7_valueAt_X7_goes : GoodIn wsX7_valueAt wsX7_goes := goodIn_r _ [22, 23, 95, 96, 97, 98, 99, 100, 101, 102, 103, 104, 105, 106, 107, 108, 109, 110, 111, 112, 113, 114, 115, 116, 117, 118, 119, 120] (by decide +kernel) (by decide +kernel)
set_option maxRecDepth 20000 in
theorem gX7_valueAt_X7_goes : GoodIn wsX7_valueAt (wsV RX7 78 RX7 yX7_goes wsX7_goes) := goodIn_app (goodIn_of _ (by decide +kernel)) ggX7_valueAt_X7_goes
theorem dX7_valueAt_0 : decode cX7_valueAt 0 = .ok (.aload_n 0, 1) := by decide +kernel
theorem dX7_valueAt_1 : decode cX7_valueAt 1 = .ok (.iload_n 1, 1) := by decide +kernel
theorem dX7_valueAt_2 : decode cX7_valueAt 2 = .ok (.iload_n 2, 1) := by decide +kernel
theorem dX7_valueAt_3 : decode cX7_valueAt 3 = .ok (.iload_n 3, 1) := by decide +kernel
theorem dX7_valueAt_4 : decode cX7_valueAt 4 = .ok (.invokevirtual 206, 3) := by decide +kernel
theorem dX7_valueAt_7 : decode cX7_valueAt 7 = .ok (.ifCond .ne 5, 3) := by decide +kernel
theorem dX7_valueAt_10 : decode cX7_valueAt 10 = .ok (.lconst 0, 1) := by decide +kernel
theorem dX7_valueAt_11 : decode cX7_valueAt 11 = .ok (.lreturn, 1) := by decide +kernel
theorem dX7_valueAt_12 : decode cX7_valueAt 12 = .ok (.aload_n 0, 1) := by decide +kernel
theorem dX7_valueAt_13 : decode cX7_valueAt 13 = .ok (.iload_n 2, 1) := by decide +kernel
theorem dX7_valueAt_14 : decode cX7_valueAt 14 = .ok (.iload_n 3, 1) := by decide +kernel
theorem dX7_valueAt_15 : decode cX7_valueAt 15 = .ok (.iload_n 1, 1) := by decide +kernel
theorem dX7_valueAt_16 : decode cX7_valueAt 16 = .ok (.invokevirtual 202, 3) := by decide +kernel
theorem dX7_valueAt_19 : decode cX7_valueAt 19 = .ok (.lstore 4, 2) := by decide +kernel
theorem dX7_valueAt_21 : decode cX7_valueAt 21 = .ok (.aload_n 0, 1) := by decide +kernel
theorem dX7_valueAt_22 : decode cX7_valueAt 22 = .ok (.aload_n 0, 1) := by decide +kernel
theorem dX7_valueAt_23 : decode cX7_valueAt 23 = .ok (.getfield 159, 3) := by decide +kernel
theorem dX7_valueAt_26 : decode cX7_valueAt 26 = .ok (.ifCond .ne 7, 3) := by decide +kernel
theorem dX7_valueAt_29 : decode cX7_valueAt 29 = .ok (.iconst 0, 1) := by decide +kernel
theorem dX7_valueAt_30 : decode cX7_valueAt 30 = .ok (.goto 4, 3) := by decide +kernel
theorem dX7_valueAt_33 : decode cX7_valueAt 33 = .ok (.iconst 2, 1) := by decide +kernel
theorem dX7_valueAt_34 : decode cX7_valueAt 34 = .ok (.invokevirtual 78, 3) := by decide +kernel
theorem dX7_valueAt_37 : decode cX7_valueAt 37 = .ok (.ifCond .eq 8, 3) := by decide +kernel
theorem dX7_valueAt_40 : decode cX7_valueAt 40 = .ok (.lload 4, 2) := by decide +kernel
theorem dX7_valueAt_42 : decode cX7_valueAt 42 = .ok (.goto 4, 3) := by decide +kernel
theorem dX7_valueAt_45 : decode cX7_valueAt 45 = .ok (.lconst 0, 1) := by decide +kernel
theorem dX7_valueAt_46 : decode cX7_valueAt 46 = .ok (.lreturn, 1) := by decide +kernel
theorem dJ9_max_7cf53_0 : decode cJ9_max_7cf53 0 = .ok (.iload_n 0, 1) := by decide +kernel
theorem dJ9_max_7cf53_1 : decode cJ9_max_7cf53 1 = .ok (.iload_n 1, 1) := by decide +kernel
theorem dJ9_max_7cf53_2 : decode cJ9_max_7cf53 2 = .ok (.if_icmp .lt 7, 3) := by decide +kernel
theorem dJ9_max_7cf53_5 : decode cJ9_max_7cf53 5 = .ok (.iload_n 0, 1) := by decide +kernel
theorem dJ9_max_7cf53_6 : decode cJ9_max_7cf53 6 = .ok (.goto 4, 3) := by decide +kernel
theorem dJ9_max_7cf53_9 : decode cJ9_max_7cf53 9 = .ok (.iload_n 1, 1) := by decide +kernel
theorem dJ9_max_7cf53_10 : decode cJ9_max_7cf53 10 = .ok (.ireturn, 1) := by decide +kernel
theorem dJ9_min_7cf53_0 : decode cJ9_min_7cf53 0 = .ok (.iload_n 0, 1) := by decide +kernel
theorem dJ9_min_7cf53_1 : decode cJ9_min_7cf53 1 = .ok (.iload_n 1, 1) := by decide +kernel
theorem dJ9_min_7cf53_2 : decode cJ9_min_7cf53 2 = .ok (.if_icmp .gt 7, 3) := by decide +kernel
theorem dJ9_min_7cf53_5 : decode cJ9_min_7cf53 5 = .ok (.iload_n 0, 1) := by decide +kernel
theorem dJ9_min_7cf53_6 : decode cJ9_min_7cf53 6 = .ok (.goto 4, 3) := by decide +kernel
theorem dJ9_min_7cf53_9 : decode cJ9_min_7cf53 9 = .ok (.iload_n 1, 1) := by decide +kernel
theorem dJ9_min_7cf53_10 : decode cJ9_min_7cf53 10 = .ok (.ireturn, 1) := by decide +kernel
theorem dJxa1e45_init_da8c8_0 : decode cJxa1e45_init_da8c8 0 = .ok (.aload_n 0, 1) := by decide +kernel
theorem dJxa1e45_init_da8c8_1 : decode cJxa1e45_init_da8c8 1 = .ok (.invokespecial 1, 3) := by decide +kernel
theorem dJxa1e45_init_da8c8_4 : decode cJxa1e45_init_da8c8 4 = .ok (.return_, 1) := by decide +kernel
set_option maxRecDepth 20000 in
theorem ggJxc12de_init_da8c8_Jxa1e45_init_da8c8 : GoodIn wsJxc12de_init_da8c8 wsJxa1e45_init_da8c8 := goodIn_r _ [5, 6, 7, 8] (by decide +kernel) (by decide +kernel)
set_option maxRecDepth 20000 in
theorem gJxc12de_init_da8c8_Jxa1e45_init_da8c8 : GoodIn wsJxc12de_init_da8c8 (wsJxa1e45_init_da8c8) := ggJxc12de_init_da8c8_Jxa1e45_init_da8c8
theorem dJxc12de_init_da8c8_0 : decode cJxc12de_init_da8c8 0 = .ok (.aload_n 0, 1) := by decide +kernel
theorem dJxc12de_init_da8c8_1 : decode cJxc12de_init_da8c8 1 = .ok (.invokespecial 1, 3) := by decide +kernel
theorem dJxc12de_init_da8c8_4 : decode cJxc12de_init_da8c8 4 = .ok (.aload_n 0, 1) := by decide +kernel
theorem dJxc12de_init_da8c8_5 : decode cJxc12de_init_da8c8 5 = .ok (.iconst 0, 1) := by decide +kernel
theorem dJxc12de_init_da8c8_6 : decode cJxc12de_init_da8c8 6 = .ok (.putfield 7, 3) := by decide +kernel
theorem dJxc12de_init_da8c8_9 : decode cJxc12de_init_da8c8 9 = .ok (.return_, 1) := by decide +kernel
set_option maxRecDepth 20000 in
theorem ggJx4a65c_init_da8c8_Jxc12de_init_da8c8 : GoodIn wsJx4a65c_init_da8c8 wsJxc12de_init_da8c8 := goodIn_r _ [6, 7, 8, 9, 10, 11, 12, 13, 14, 15, 16, 17] (by decide +kernel) (by decide +kernel)
set_option maxRecDepth 20000 in
theorem gJx4a65c_init_da8c8_Jxc12de_init_da8c8 : GoodIn wsJx4a65c_init_da8c8 (wsJxc12de_init_da8c8) := ggJx4a65c_init_da8c8_Jxc12de_init_da8c8
theorem dJx4a65c_init_da8c8_0 : decode cJx4a65c_init_da8c8 0 = .ok (.aload_n 0, 1) := by decide +kernel
theorem dJx4a65c_init_da8c8_1 : decode cJx4a65c_init_da8c8 1 = .ok (.invokespecial 1, 3) := by decide +kernel
theorem dJx4a65c_init_da8c8_4 : decode cJx4a65c_init_da8c8 4 = .ok (.aload_n 0, 1) := by decide +kernel
theorem dJx4a65c_init_da8c8_5 : decode cJx4a65c_init_da8c8 5 = .ok (.getstatic 39, 3) := by decide +kernel
theorem dJx4a65c_init_da8c8_8 : decode cJx4a65c_init_da8c8 8 = .ok (.putfield 9, 3) := by decide +kernel
theorem dJx4a65c_init_da8c8_11 : decode cJx4a65c_init_da8c8 11 = .ok (.return_, 1) := by decide +kernel
set_option maxRecDepth 20000 in
theorem ggJx4a65c_grow_92f84_J8_newLength_cabcc : GoodIn wsJx4a65c_grow_92f84 wsJ8_newLength_cabcc := goodIn_r _ [11, 12, 4, 5, 6, 13, 14, 15, 10, 16] (by decide +kernel) (by decide +kernel)
set_option maxRecDepth 20000 in
theorem gJx4a65c_grow_92f84_J8_newLength_cabcc : GoodIn wsJx4a65c_grow_92f84 (va_wsS RJx4a65c 73 yJ8_newLength_cabcc wsJ8_newLength_cabcc) := goodIn_app (goodIn_of _ (by decide +kernel)) ggJx4a65c_grow_92f84_J8_newLength_cabcc
set_option maxRecDepth 20000 in
theorem ggJx4a65c_grow_92f84_J7_copyOf_1904c : GoodIn wsJx4a65c_grow_92f84 wsJ7_copyOf_1904c := goodIn_r _ [20, 21, 22, 23, 24, 25, 26, 19, 27, 28, 29, 30, 31, 5, 32, 33, 34, 35, 36] (by decide +kernel) (by decide +kernel)
set_option maxRecDepth 20000 in
theorem gJx4a65c_grow_92f84_J7_copyOf_1904c : GoodIn wsJx4a65c_grow_92f84 (va_wsS RJx4a65c 66 yJ7_copyOf_1904c wsJ7_copyOf_1904c) := goodIn_app (goodIn_of _ (by decide +kernel)) ggJx4a65c_grow_92f84_J7_copyOf_1904c
theorem dJx4a65c_grow_92f84_0 : decode cJx4a65c_grow_92f84 0 = .ok (.aload_n 0, 1) := by decide +kernel
theorem dJx4a65c_grow_92f84_1 : decode cJx4a65c_grow_92f84 1 = .ok (.getfield 9, 3) := by decide +kernel
theorem dJx4a65c_grow_92f84_4 : decode cJx4a65c_grow_92f84 4 = .ok (.arraylength, 1) := by decide +kernel
theorem dJx4a65c_grow_92f84_5 : decode cJx4a65c_grow_92f84 5 = .ok (.istore_n 2, 1) := by decide +kernel
theorem dJx4a65c_grow_92f84_6 : decode cJx4a65c_grow_92f84 6 = .ok (.iload_n 2, 1) := by decide +kernel
theorem dJx4a65c_grow_92f84_7 : decode cJx4a65c_grow_92f84 7 = .ok (.ifCond .gt 13, 3) := by decide +kernel
theorem dJx4a65c_grow_92f84_10 : decode cJx4a65c_grow_92f84 10 = .ok (.aload_n 0, 1) := by decide +kernel
theorem dJx4a65c_grow_92f84_11 : decode cJx4a65c_grow_92f84 11 = .ok (.getfield 9, 3) := by decide +kernel
theorem dJx4a65c_grow_92f84_14 : decode cJx4a65c_grow_92f84 14 = .ok (.getstatic 39, 3) := by decide +kernel
theorem dJx4a65c_grow_92f84_17 : decode cJx4a65c_grow_92f84 17 = .ok (.if_acmp .eq 28, 3) := by decide +kernel
theorem dJx4a65c_grow_92f84_20 : decode cJx4a65c_grow_92f84 20 = .ok (.iload_n 2, 1) := by decide +kernel
theorem dJx4a65c_grow_92f84_21 : decode cJx4a65c_grow_92f84 21 = .ok (.iload_n 1, 1) := by decide +kernel
theorem dJx4a65c_grow_92f84_22 : decode cJx4a65c_grow_92f84 22 = .ok (.iload_n 2, 1) := by decide +kernel
theorem dJx4a65c_grow_92f84_23 : decode cJx4a65c_grow_92f84 23 = .ok (.isub, 1) := by decide +kernel
theorem dJx4a65c_grow_92f84_24 : decode cJx4a65c_grow_92f84 24 = .ok (.iload_n 2, 1) := by decide +kernel
theorem dJx4a65c_grow_92f84_25 : decode cJx4a65c_grow_92f84 25 = .ok (.iconst 1, 1) := by decide +kernel
theorem dJx4a65c_grow_92f84_26 : decode cJx4a65c_grow_92f84 26 = .ok (.ishr, 1) := by decide +kernel
theorem dJx4a65c_grow_92f84_27 : decode cJx4a65c_grow_92f84 27 = .ok (.invokestatic 73, 3) := by decide +kernel
theorem dJx4a65c_grow_92f84_30 : decode cJx4a65c_grow_92f84 30 = .ok (.istore_n 3, 1) := by decide +kernel
theorem dJx4a65c_grow_92f84_31 : decode cJx4a65c_grow_92f84 31 = .ok (.aload_n 0, 1) := by decide +kernel
theorem dJx4a65c_grow_92f84_32 : decode cJx4a65c_grow_92f84 32 = .ok (.aload_n 0, 1) := by decide +kernel
theorem dJx4a65c_grow_92f84_33 : decode cJx4a65c_grow_92f84 33 = .ok (.getfield 9, 3) := by decide +kernel
theorem dJx4a65c_grow_92f84_36 : decode cJx4a65c_grow_92f84 36 = .ok (.iload_n 3, 1) := by decide +kernel
theorem dJx4a65c_grow_92f84_37 : decode cJx4a65c_grow_92f84 37 = .ok (.invokestatic 66, 3) := by decide +kernel
theorem dJx4a65c_grow_92f84_40 : decode cJx4a65c_grow_92f84 40 = .ok (.dup_x1, 1) := by decide +kernel
theorem dJx4a65c_grow_92f84_41 : decode cJx4a65c_grow_92f84 41 = .ok (.putfield 9, 3) := by decide +kernel
theorem dJx4a65c_grow_92f84_44 : decode cJx4a65c_grow_92f84 44 = .ok (.areturn, 1) := by decide +kernel
theorem dJx4a65c_grow_92f84_45 : decode cJx4a65c_grow_92f84 45 = .ok (.aload_n 0, 1) := by decide +kernel
theorem dJx4a65c_grow_92f84_46 : decode cJx4a65c_grow_92f84 46 = .ok (.bipush 10, 2) := by decide +kernel
theorem dJx4a65c_grow_92f84_48 : decode cJx4a65c_grow_92f84 48 = .ok (.iload_n 1, 1) := by decide +kernel
theorem dJx4a65c_grow_92f84_49 : decode cJx4a65c_grow_92f84 49 = .ok (.invokestatic 79, 3) := by decide +kernel
theorem dJx4a65c_grow_92f84_52 : decode cJx4a65c_grow_92f84 52 = .ok (.anewarray 7, 3) := by decide +kernel
theorem dJx4a65c_grow_92f84_55 : decode cJx4a65c_grow_92f84 55 = .ok (.dup_x1, 1) := by decide +kernel
theorem dJx4a65c_grow_92f84_56 : decode cJx4a65c_grow_92f84 56 = .ok (.putfield 9, 3) := by decide +kernel
theorem dJx4a65c_grow_92f84_59 : decode cJx4a65c_grow_92f84 59 = .ok (.areturn, 1) := by decide +kernel
set_option maxRecDepth 20000 in
theorem ggJx4a65c_grow_d5877_Jx4a65c_grow_92f84 : GoodIn wsJx4a65c_grow_d5877 wsJx4a65c_grow_92f84 := goodIn_r _ [6, 7, 8, 9, 10, 11, 12, 13, 14, 15, 16, 17, 18, 19, 20, 21, 22, 23, 24, 25, 26, 27, 28, 29, 30, 31, 32, 33, 34, 35, 36, 37, 38, 39, 40, 41, 42, 43, 44, 45] (by decide +kernel) (by decide +kernel)
set_option maxRecDepth 20000 in
theorem gJx4a65c_grow_d5877_Jx4a65c_grow_92f84 : GoodIn wsJx4a65c_grow_d5877 (wsV RJx4a65c 69 RJx4a65c yJx4a65c_grow_92f84 wsJx4a65c_grow_92f84) := goodIn_app (goodIn_of _ (by decide +kernel)) ggJx4a65c_grow_d5877_Jx4a65c_grow_92f84
theorem dJx4a65c_grow_d5877_0 : decode cJx4a65c_grow_d5877 0 = .ok (.aload_n 0, 1) := by decide +kernel
theorem dJx4a65c_grow_d5877_1 : decode cJx4a65c_grow_d5877 1 = .ok (.aload_n 0, 1) := by decide +kernel
theorem dJx4a65c_grow_d5877_2 : decode cJx4a65c_grow_d5877 2 = .ok (.getfield 48, 3) := by decide +kernel
theorem dJx4a65c_grow_d5877_5 : decode cJx4a65c_grow_d5877 5 = .ok (.iconst 1, 1) := by decide +kernel
theorem dJx4a65c_grow_d5877_6 : decode cJx4a65c_grow_d5877 6 = .ok (.iadd, 1) := by decide +kernel
theorem dJx4a65c_grow_d5877_7 : decode cJx4a65c_grow_d5877 7 = .ok (.invokevirtual 69, 3) := by decide +kernel
theorem dJx4a65c_grow_d5877_10 : decode cJx4a65c_grow_d5877 10 = .ok (.areturn, 1) := by decide +kernel
theorem dJx4a65c_size_8abf5_0 : decode cJx4a65c_size_8abf5 0 = .ok (.aload_n 0, 1) := by decide +kernel
theorem dJx4a65c_size_8abf5_1 : decode cJx4a65c_size_8abf5 1 = .ok (.getfield 48, 3) := by decide +kernel
theorem dJx4a65c_size_8abf5_4 : decode cJx4a65c_size_8abf5 4 = .ok (.ireturn, 1) := by decide +kernel
theorem dJx4a65c_elementData_915e3_0 : decode cJx4a65c_elementData_915e3 0 = .ok (.aload_n 0, 1) := by decide +kernel
theorem dJx4a65c_elementData_915e3_1 : decode cJx4a65c_elementData_915e3 1 = .ok (.getfield 9, 3) := by decide +kernel
theorem dJx4a65c_elementData_915e3_4 : decode cJx4a65c_elementData_915e3 4 = .ok (.iload_n 1, 1) := by decide +kernel
theorem dJx4a65c_elementData_915e3_5 : decode cJx4a65c_elementData_915e3 5 = .ok (.aaload, 1) := by decide +kernel
theorem dJx4a65c_elementData_915e3_6 : decode cJx4a65c_elementData_915e3 6 = .ok (.areturn, 1) := by decide +kernel
set_option maxRecDepth 20000 in
theorem ggJx4a65c_get_915e3_J15_checkIndex_7cf53 : GoodIn wsJx4a65c_get_915e3 wsJ15_checkIndex_7cf53 := goodIn_r _ [5, 6, 7, 8, 9] (by decide +kernel) (by decide +kernel)
set_option maxRecDepth 20000 in
theorem gJx4a65c_get_915e3_J15_checkIndex_7cf53 : GoodIn wsJx4a65c_get_915e3 (va_wsS RJx4a65c 118 yJ15_checkIndex_7cf53 wsJ15_checkIndex_7cf53) := goodIn_app (goodIn_of _ (by decide +kernel)) ggJx4a65c_get_915e3_J15_checkIndex_7cf53
set_option maxRecDepth 20000 in
theorem ggJx4a65c_get_915e3_Jx4a65c_elementData_915e3 : GoodIn wsJx4a65c_get_915e3 wsJx4a65c_elementData_915e3 := goodIn_r _ [14, 15, 16, 17, 18] (by decide +kernel) (by decide +kernel)
set_option maxRecDepth 20000 in
theorem gJx4a65c_get_915e3_Jx4a65c_elementData_915e3 : GoodIn wsJx4a65c_get_915e3 (wsV RJx4a65c 123 RJx4a65c yJx4a65c_elementData_915e3 wsJx4a65c_elementData_915e3) := goodIn_app (goodIn_of _ (by decide +kernel)) ggJx4a65c_get_915e3_Jx4a65c_elementData_915e3
theorem dJx4a65c_get_915e3_0 : decode cJx4a65c_get_915e3 0 = .ok (.iload_n 1, 1) := by decide +kernel
theorem dJx4a65c_get_915e3_1 : decode cJx4a65c_get_915e3 1 = .ok (.aload_n 0, 1) := by decide +kernel
theorem dJx4a65c_get_915e3_2 : decode cJx4a65c_get_915e3 2 = .ok (.getfield 48, 3) := by decide +kernel
theorem dJx4a65c_get_915e3_5 : decode cJx4a65c_get_915e3 5 = .ok (.invokestatic 118, 3) := by decide +kernel
theorem dJx4a65c_get_915e3_8 : decode cJx4a65c_get_915e3 8 = .ok (.pop, 1) := by decide +kernel
theorem dJx4a65c_get_915e3_9 : decode cJx4a65c_get_915e3 9 = .ok (.aload_n 0, 1) := by decide +kernel
theorem dJx4a65c_get_915e3_10 : decode cJx4a65c_get_915e3 10 = .ok (.iload_n 1, 1) := by decide +kernel
theorem dJx4a65c_get_915e3_11 : decode cJx4a65c_get_915e3 11 = .ok (.invokevirtual 123, 3) := by decide +kernel
theorem dJx4a65c_get_915e3_14 : decode cJx4a65c_get_915e3 14 = .ok (.areturn, 1) := by decide +kernel
set_option maxRecDepth 20000 in
theorem ggJx4a65c_add_72be8_Jx4a65c_grow_d5877 : GoodIn wsJx4a65c_add_72be8 wsJx4a65c_grow_d5877 := goodIn_r _ [6, 1, 7, 8, 9, 5, 10, 11, 12, 13, 14, 15, 16, 17, 18, 19, 20, 21, 22, 23, 24, 25, 26, 27, 28, 29, 30, 31, 32, 33, 34, 35, 36, 37, 38, 39, 40, 41, 42, 43, 44, 45, 46, 47, 48, 49] (by decide +kernel) (by decide +kernel)
set_option maxRecDepth 20000 in
theorem gJx4a65c_add_72be8_Jx4a65c_grow_d5877 : GoodIn wsJx4a65c_add_72be8 (wsV RJx4a65c 129 RJx4a65c yJx4a65c_grow_d5877 wsJx4a65c_grow_d5877) := goodIn_app (goodIn_of _ (by decide +kernel)) ggJx4a65c_add_72be8_Jx4a65c_grow_d5877
theorem dJx4a65c_add_72be8_0 : decode cJx4a65c_add_72be8 0 = .ok (.iload_n 3, 1) := by decide +kernel
theorem dJx4a65c_add_72be8_1 : decode cJx4a65c_add_72be8 1 = .ok (.aload_n 2, 1) := by decide +kernel
theorem dJx4a65c_add_72be8_2 : decode cJx4a65c_add_72be8 2 = .ok (.arraylength, 1) := by decide +kernel
theorem dJx4a65c_add_72be8_3 : decode cJx4a65c_add_72be8 3 = .ok (.if_icmp .ne 8, 3) := by decide +kernel
theorem dJx4a65c_add_72be8_6 : decode cJx4a65c_add_72be8 6 = .ok (.aload_n 0, 1) := by decide +kernel
theorem dJx4a65c_add_72be8_7 : decode cJx4a65c_add_72be8 7 = .ok (.invokevirtual 129, 3) := by decide +kernel
theorem dJx4a65c_add_72be8_10 : decode cJx4a65c_add_72be8 10 = .ok (.astore_n 2, 1) := by decide +kernel
theorem dJx4a65c_add_72be8_11 : decode cJx4a65c_add_72be8 11 = .ok (.aload_n 2, 1) := by decide +kernel
theorem dJx4a65c_add_72be8_12 : decode cJx4a65c_add_72be8 12 = .ok (.iload_n 3, 1) := by decide +kernel
theorem dJx4a65c_add_72be8_13 : decode cJx4a65c_add_72be8 13 = .ok (.aload_n 1, 1) := by decide +kernel
theorem dJx4a65c_add_72be8_14 : decode cJx4a65c_add_72be8 14 = .ok (.aastore, 1) := by decide +kernel
theorem dJx4a65c_add_72be8_15 : decode cJx4a65c_add_72be8 15 = .ok (.aload_n 0, 1) := by decide +kernel
theorem dJx4a65c_add_72be8_16 : decode cJx4a65c_add_72be8 16 = .ok (.iload_n 3, 1) := by decide +kernel
theorem dJx4a65c_add_72be8_17 : decode cJx4a65c_add_72be8 17 = .ok (.iconst 1, 1) := by decide +kernel
theorem dJx4a65c_add_72be8_18 : decode cJx4a65c_add_72be8 18 = .ok (.iadd, 1) := by decide +kernel
theorem dJx4a65c_add_72be8_19 : decode cJx4a65c_add_72be8 19 = .ok (.putfield 48, 3) := by decide +kernel
theorem dJx4a65c_add_72be8_22 : decode cJx4a65c_add_72be8 22 = .ok (.return_, 1) := by decide +kernel
set_option maxRecDepth 20000 in
theorem ggJx4a65c_add_9ea2d_Jx4a65c_add_72be8 : GoodIn wsJx4a65c_add_9ea2d wsJx4a65c_add_72be8 := goodIn_r _ [9, 4, 10, 11, 12, 8, 13, 14, 15, 16, 17, 3, 18, 19, 20, 21, 22, 23, 24, 25, 26, 27, 28, 29, 30, 31, 32, 33, 34, 35, 36, 37, 38, 39, 40, 41, 42, 43, 44, 45, 46, 47, 48, 49, 50, 51, 52, 53, 54, 55] (by decide +kernel) (by decide +kernel)
set_option maxRecDepth 20000 in
theorem gJx4a65c_add_9ea2d_Jx4a65c_add_72be8 : GoodIn wsJx4a65c_add_9ea2d (wsV RJx4a65c 131 RJx4a65c yJx4a65c_add_72be8 wsJx4a65c_add_72be8) := goodIn_app (goodIn_of _ (by decide +kernel)) ggJx4a65c_add_9ea2d_Jx4a65c_add_72be8
theorem dJx4a65c_add_9ea2d_0 : decode cJx4a65c_add_9ea2d 0 = .ok (.aload_n 0, 1) := by decide +kernel
theorem dJx4a65c_add_9ea2d_1 : decode cJx4a65c_add_9ea2d 1 = .ok (.dup, 1) := by decide +kernel
theorem dJx4a65c_add_9ea2d_2 : decode cJx4a65c_add_9ea2d 2 = .ok (.getfield 63, 3) := by decide +kernel
theorem dJx4a65c_add_9ea2d_5 : decode cJx4a65c_add_9ea2d 5 = .ok (.iconst 1, 1) := by decide +kernel
theorem dJx4a65c_add_9ea2d_6 : decode cJx4a65c_add_9ea2d 6 = .ok (.iadd, 1) := by decide +kernel
theorem dJx4a65c_add_9ea2d_7 : decode cJx4a65c_add_9ea2d 7 = .ok (.putfield 63, 3) := by decide +kernel
theorem dJx4a65c_add_9ea2d_10 : decode cJx4a65c_add_9ea2d 10 = .ok (.aload_n 0, 1) := by decide +kernel
theorem dJx4a65c_add_9ea2d_11 : decode cJx4a65c_add_9ea2d 11 = .ok (.aload_n 1, 1) := by decide +kernel
theorem dJx4a65c_add_9ea2d_12 : decode cJx4a65c_add_9ea2d 12 = .ok (.aload_n 0, 1) := by decide +kernel
theorem dJx4a65c_add_9ea2d_13 : decode cJx4a65c_add_9ea2d 13 = .ok (.getfield 9, 3) := by decide +kernel
theorem dJx4a65c_add_9ea2d_16 : decode cJx4a65c_add_9ea2d 16 = .ok (.aload_n 0, 1) := by decide +kernel
theorem dJx4a65c_add_9ea2d_17 : decode cJx4a65c_add_9ea2d 17 = .ok (.getfield 48, 3) := by decide +kernel
theorem dJx4a65c_add_9ea2d_20 : decode cJx4a65c_add_9ea2d 20 = .ok (.invokevirtual 131, 3) := by decide +kernel
theorem dJx4a65c_add_9ea2d_23 : decode cJx4a65c_add_9ea2d 23 = .ok (.iconst 1, 1) := by decide +kernel
theorem dJx4a65c_add_9ea2d_24 : decode cJx4a65c_add_9ea2d 24 = .ok (.ireturn, 1) := by decide +kernel
set_option maxRecDepth 20000 in
theorem ggJ7_copyOf_1904c_J7_copyOf_6403c : GoodIn wsJ7_copyOf_1904c wsJ7_copyOf_6403c := goodIn_r _ [8, 9, 10, 11, 12, 13, 14, 15, 16, 17, 18] (by decide +kernel) (by decide +kernel)
set_option maxRecDepth 20000 in
theorem gJ7_copyOf_1904c_J7_copyOf_6403c : GoodIn wsJ7_copyOf_1904c (va_wsS RJ7 300 yJ7_copyOf_6403c wsJ7_copyOf_6403c) := goodIn_app (goodIn_of _ (by decide +kernel)) ggJ7_copyOf_1904c_J7_copyOf_6403c
theorem dJ7_copyOf_1904c_0 : decode cJ7_copyOf_1904c 0 = .ok (.aload_n 0, 1) := by decide +kernel
theorem dJ7_copyOf_1904c_1 : decode cJ7_copyOf_1904c 1 = .ok (.iload_n 1, 1) := by decide +kernel
theorem dJ7_copyOf_1904c_2 : decode cJ7_copyOf_1904c 2 = .ok (.aload_n 0, 1) := by decide +kernel
theorem dJ7_copyOf_1904c_3 : decode cJ7_copyOf_1904c 3 = .ok (.invokevirtual 86, 3) := by decide +kernel
theorem dJ7_copyOf_1904c_6 : decode cJ7_copyOf_1904c 6 = .ok (.invokestatic 300, 3) := by decide +kernel
theorem dJ7_copyOf_1904c_9 : decode cJ7_copyOf_1904c 9 = .ok (.areturn, 1) := by decide +kernel
theorem dJ7_copyOf_6403c_0 : decode cJ7_copyOf_6403c 0 = .ok (.aload_n 2, 1) := by decide +kernel
theorem dJ7_copyOf_6403c_1 : decode cJ7_copyOf_6403c 1 = .ok (.ldc 110, 2) := by decide +kernel
theorem dJ7_copyOf_6403c_3 : decode cJ7_copyOf_6403c 3 = .ok (.if_acmp .ne 10, 3) := by decide +kernel
theorem dJ7_copyOf_6403c_6 : decode cJ7_copyOf_6403c 6 = .ok (.iload_n 1, 1) := by decide +kernel
theorem dJ7_copyOf_6403c_7 : decode cJ7_copyOf_6403c 7 = .ok (.anewarray 2, 3) := by decide +kernel
theorem dJ7_copyOf_6403c_10 : decode cJ7_copyOf_6403c 10 = .ok (.goto 14, 3) := by decide +kernel
theorem dJ7_copyOf_6403c_13 : decode cJ7_copyOf_6403c 13 = .ok (.aload_n 2, 1) := by decide +kernel
theorem dJ7_copyOf_6403c_14 : decode cJ7_copyOf_6403c 14 = .ok (.invokevirtual 90, 3) := by decide +kernel
theorem dJ7_copyOf_6403c_17 : decode cJ7_copyOf_6403c 17 = .ok (.iload_n 1, 1) := by decide +kernel
theorem dJ7_copyOf_6403c_18 : decode cJ7_copyOf_6403c 18 = .ok (.invokestatic 95, 3) := by decide +kernel
theorem dJ7_copyOf_6403c_21 : decode cJ7_copyOf_6403c 21 = .ok (.checkcast 110, 3) := by decide +kernel
theorem dJ7_copyOf_6403c_24 : decode cJ7_copyOf_6403c 24 = .ok (.astore_n 3, 1) := by decide +kernel
theorem dJ7_copyOf_6403c_25 : decode cJ7_copyOf_6403c 25 = .ok (.aload_n 0, 1) := by decide +kernel
theorem dJ7_copyOf_6403c_26 : decode cJ7_copyOf_6403c 26 = .ok (.iconst 0, 1) := by decide +kernel
theorem dJ7_copyOf_6403c_27 : decode cJ7_copyOf_6403c 27 = .ok (.aload_n 3, 1) := by decide +kernel
theorem dJ7_copyOf_6403c_28 : decode cJ7_copyOf_6403c 28 = .ok (.iconst 0, 1) := by decide +kernel
theorem dJ7_copyOf_6403c_29 : decode cJ7_copyOf_6403c 29 = .ok (.aload_n 0, 1) := by decide +kernel
theorem dJ7_copyOf_6403c_30 : decode cJ7_copyOf_6403c 30 = .ok (.arraylength, 1) := by decide +kernel
theorem dJ7_copyOf_6403c_31 : decode cJ7_copyOf_6403c 31 = .ok (.iload_n 1, 1) := by decide +kernel
theorem dJ7_copyOf_6403c_32 : decode cJ7_copyOf_6403c 32 = .ok (.invokestatic 304, 3) := by decide +kernel
theorem dJ7_copyOf_6403c_35 : decode cJ7_copyOf_6403c 35 = .ok (.invokestatic 150, 3) := by decide +kernel
theorem dJ7_copyOf_6403c_38 : decode cJ7_copyOf_6403c 38 = .ok (.aload_n 3, 1) := by decide +kernel
theorem dJ7_copyOf_6403c_39 : decode cJ7_copyOf_6403c 39 = .ok (.areturn, 1) := by decide +kernel
set_option maxRecDepth 20000 in
theorem ggJ15_checkIndex_7cf53_J3_checkIndex_8e157 : GoodIn wsJ15_checkIndex_7cf53 wsJ3_checkIndex_8e157 := goodIn_r _ [4] (by decide +kernel) (by decide +kernel)
set_option maxRecDepth 20000 in
theorem gJ15_checkIndex_7cf53_J3_checkIndex_8e157 : GoodIn wsJ15_checkIndex_7cf53 (va_wsS RJ15 105 yJ3_checkIndex_8e157 wsJ3_checkIndex_8e157) := goodIn_app (goodIn_of _ (by decide +kernel)) ggJ15_checkIndex_7cf53_J3_checkIndex_8e157
theorem dJ15_checkIndex_7cf53_0 : decode cJ15_checkIndex_7cf53 0 = .ok (.iload_n 0, 1) := by decide +kernel
theorem dJ15_checkIndex_7cf53_1 : decode cJ15_checkIndex_7cf53 1 = .ok (.iload_n 1, 1) := by decide +kernel
theorem dJ15_checkIndex_7cf53_2 : decode cJ15_checkIndex_7cf53 2 = .ok (.aconst_null, 1) := by decide +kernel
theorem dJ15_checkIndex_7cf53_3 : decode cJ15_checkIndex_7cf53 3 = .ok (.invokestatic 105, 3) := by decide +kernel
theorem dJ15_checkIndex_7cf53_6 : decode cJ15_checkIndex_7cf53 6 = .ok (.ireturn, 1) := by decide +kernel
set_option maxRecDepth 20000 in
theorem ggJ8_newLength_cabcc_J8_hugeLength_7cf53 : GoodIn wsJ8_newLength_cabcc wsJ8_hugeLength_7cf53 := goodIn_r _ [9, 5] (by decide +kernel) (by decide +kernel)
set_option maxRecDepth 20000 in
theorem gJ8_newLength_cabcc_J8_hugeLength_7cf53 : GoodIn wsJ8_newLength_cabcc (va_wsS RJ8 201 yJ8_hugeLength_7cf53 wsJ8_hugeLength_7cf53) := goodIn_app (goodIn_of _ (by decide +kernel)) ggJ8_newLength_cabcc_J8_hugeLength_7cf53
theorem dJ8_newLength_cabcc_0 : decode cJ8_newLength_cabcc 0 = .ok (.iload_n 0, 1) := by decide +kernel
theorem dJ8_newLength_cabcc_1 : decode cJ8_newLength_cabcc 1 = .ok (.iload_n 1, 1) := by decide +kernel
theorem dJ8_newLength_cabcc_2 : decode cJ8_newLength_cabcc 2 = .ok (.iload_n 2, 1) := by decide +kernel
theorem dJ8_newLength_cabcc_3 : decode cJ8_newLength_cabcc 3 = .ok (.invokestatic 194, 3) := by decide +kernel
theorem dJ8_newLength_cabcc_6 : decode cJ8_newLength_cabcc 6 = .ok (.iadd, 1) := by decide +kernel
theorem dJ8_newLength_cabcc_7 : decode cJ8_newLength_cabcc 7 = .ok (.istore_n 3, 1) := by decide +kernel
theorem dJ8_newLength_cabcc_8 : decode cJ8_newLength_cabcc 8 = .ok (.iconst 0, 1) := by decide +kernel
theorem dJ8_newLength_cabcc_9 : decode cJ8_newLength_cabcc 9 = .ok (.iload_n 3, 1) := by decide +kernel
theorem dJ8_newLength_cabcc_10 : decode cJ8_newLength_cabcc 10 = .ok (.if_icmp .ge 11, 3) := by decide +kernel
theorem dJ8_newLength_cabcc_13 : decode cJ8_newLength_cabcc 13 = .ok (.iload_n 3, 1) := by decide +kernel
theorem dJ8_newLength_cabcc_14 : decode cJ8_newLength_cabcc 14 = .ok (.ldc 200, 2) := by decide +kernel
theorem dJ8_newLength_cabcc_16 : decode cJ8_newLength_cabcc 16 = .ok (.if_icmp .gt 5, 3) := by decide +kernel
theorem dJ8_newLength_cabcc_19 : decode cJ8_newLength_cabcc 19 = .ok (.iload_n 3, 1) := by decide +kernel
theorem dJ8_newLength_cabcc_20 : decode cJ8_newLength_cabcc 20 = .ok (.ireturn, 1) := by decide +kernel
theorem dJ8_newLength_cabcc_21 : decode cJ8_newLength_cabcc 21 = .ok (.iload_n 0, 1) := by decide +kernel
theorem dJ8_newLength_cabcc_22 : decode cJ8_newLength_cabcc 22 = .ok (.iload_n 1, 1) := by decide +kernel
theorem dJ8_newLength_cabcc_23 : decode cJ8_newLength_cabcc 23 = .ok (.invokestatic 201, 3) := by decide +kernel
theorem dJ8_newLength_cabcc_26 : decode cJ8_newLength_cabcc 26 = .ok (.ireturn, 1) := by decide +kernel
theorem dJ8_hugeLength_7cf53_0 : decode cJ8_hugeLength_7cf53 0 = .ok (.iload_n 0, 1) := by decide +kernel
theorem dJ8_hugeLength_7cf53_1 : decode cJ8_hugeLength_7cf53 1 = .ok (.iload_n 1, 1) := by decide +kernel
theorem dJ8_hugeLength_7cf53_2 : decode cJ8_hugeLength_7cf53 2 = .ok (.iadd, 1) := by decide +kernel
theorem dJ8_hugeLength_7cf53_3 : decode cJ8_hugeLength_7cf53 3 = .ok (.istore_n 2, 1) := by decide +kernel
theorem dJ8_hugeLength_7cf53_4 : decode cJ8_hugeLength_7cf53 4 = .ok (.iload_n 2, 1) := by decide +kernel
theorem dJ8_hugeLength_7cf53_5 : decode cJ8_hugeLength_7cf53 5 = .ok (.ifCond .ge 44, 3) := by decide +kernel
theorem dJ8_hugeLength_7cf53_8 : decode cJ8_hugeLength_7cf53 8 = .ok (.new 204, 3) := by decide +kernel
theorem dJ8_hugeLength_7cf53_11 : decode cJ8_hugeLength_7cf53 11 = .ok (.dup, 1) := by decide +kernel
theorem dJ8_hugeLength_7cf53_12 : decode cJ8_hugeLength_7cf53 12 = .ok (.new 89, 3) := by decide +kernel
theorem dJ8_hugeLength_7cf53_15 : decode cJ8_hugeLength_7cf53 15 = .ok (.dup, 1) := by decide +kernel
theorem dJ8_hugeLength_7cf53_16 : decode cJ8_hugeLength_7cf53 16 = .ok (.invokespecial 91, 3) := by decide +kernel
theorem dJ8_hugeLength_7cf53_19 : decode cJ8_hugeLength_7cf53 19 = .ok (.ldc 206, 2) := by decide +kernel
theorem dJ8_hugeLength_7cf53_21 : decode cJ8_hugeLength_7cf53 21 = .ok (.invokevirtual 94, 3) := by decide +kernel
theorem dJ8_hugeLength_7cf53_24 : decode cJ8_hugeLength_7cf53 24 = .ok (.iload_n 0, 1) := by decide +kernel
theorem dJ8_hugeLength_7cf53_25 : decode cJ8_hugeLength_7cf53 25 = .ok (.invokevirtual 98, 3) := by decide +kernel
theorem dJ8_hugeLength_7cf53_28 : decode cJ8_hugeLength_7cf53 28 = .ok (.ldc 208, 2) := by decide +kernel
theorem dJ8_hugeLength_7cf53_30 : decode cJ8_hugeLength_7cf53 30 = .ok (.invokevirtual 94, 3) := by decide +kernel
theorem dJ8_hugeLength_7cf53_33 : decode cJ8_hugeLength_7cf53 33 = .ok (.iload_n 1, 1) := by decide +kernel
theorem dJ8_hugeLength_7cf53_34 : decode cJ8_hugeLength_7cf53 34 = .ok (.invokevirtual 98, 3) := by decide +kernel
theorem dJ8_hugeLength_7cf53_37 : decode cJ8_hugeLength_7cf53 37 = .ok (.ldc 210, 2) := by decide +kernel
theorem dJ8_hugeLength_7cf53_39 : decode cJ8_hugeLength_7cf53 39 = .ok (.invokevirtual 94, 3) := by decide +kernel
theorem dJ8_hugeLength_7cf53_42 : decode cJ8_hugeLength_7cf53 42 = .ok (.invokevirtual 101, 3) := by decide +kernel
theorem dJ8_hugeLength_7cf53_45 : decode cJ8_hugeLength_7cf53 45 = .ok (.invokespecial 212, 3) := by decide +kernel
theorem dJ8_hugeLength_7cf53_48 : decode cJ8_hugeLength_7cf53 48 = .ok (.athrow, 1) := by decide +kernel
theorem dJ8_hugeLength_7cf53_49 : decode cJ8_hugeLength_7cf53 49 = .ok (.iload_n 2, 1) := by decide +kernel
theorem dJ8_hugeLength_7cf53_50 : decode cJ8_hugeLength_7cf53 50 = .ok (.ldc 200, 2) := by decide +kernel
theorem dJ8_hugeLength_7cf53_52 : decode cJ8_hugeLength_7cf53 52 = .ok (.if_icmp .gt 6, 3) := by decide +kernel
theorem dJ8_hugeLength_7cf53_55 : decode cJ8_hugeLength_7cf53 55 = .ok (.ldc 200, 2) := by decide +kernel
theorem dJ8_hugeLength_7cf53_57 : decode cJ8_hugeLength_7cf53 57 = .ok (.ireturn, 1) := by decide +kernel
theorem dJ8_hugeLength_7cf53_58 : decode cJ8_hugeLength_7cf53 58 = .ok (.iload_n 2, 1) := by decide +kernel
theorem dJ8_hugeLength_7cf53_59 : decode cJ8_hugeLength_7cf53 59 = .ok (.ireturn, 1) := by decide +kernel
theorem dJ3_checkIndex_8e157_0 : decode cJ3_checkIndex_8e157 0 = .ok (.iload_n 0, 1) := by decide +kernel
theorem dJ3_checkIndex_8e157_1 : decode cJ3_checkIndex_8e157 1 = .ok (.ifCond .lt 8, 3) := by decide +kernel
theorem dJ3_checkIndex_8e157_4 : decode cJ3_checkIndex_8e157 4 = .ok (.iload_n 0, 1) := by decide +kernel
theorem dJ3_checkIndex_8e157_5 : decode cJ3_checkIndex_8e157 5 = .ok (.iload_n 1, 1) := by decide +kernel
theorem dJ3_checkIndex_8e157_6 : decode cJ3_checkIndex_8e157 6 = .ok (.if_icmp .lt 10, 3) := by decide +kernel
theorem dJ3_checkIndex_8e157_9 : decode cJ3_checkIndex_8e157 9 = .ok (.aload_n 2, 1) := by decide +kernel
theorem dJ3_checkIndex_8e157_10 : decode cJ3_checkIndex_8e157 10 = .ok (.iload_n 0, 1) := by decide +kernel
theorem dJ3_checkIndex_8e157_11 : decode cJ3_checkIndex_8e157 11 = .ok (.iload_n 1, 1) := by decide +kernel
theorem dJ3_checkIndex_8e157_12 : decode cJ3_checkIndex_8e157 12 = .ok (.invokestatic 95, 3) := by decide +kernel
theorem dJ3_checkIndex_8e157_15 : decode cJ3_checkIndex_8e157 15 = .ok (.athrow, 1) := by decide +kernel
theorem dJ3_checkIndex_8e157_16 : decode cJ3_checkIndex_8e157 16 = .ok (.iload_n 0, 1) := by decide +kernel
theorem dJ3_checkIndex_8e157_17 : decode cJ3_checkIndex_8e157 17 = .ok (.ireturn, 1) := by decide +kernel
set_option maxRecDepth 20000 in
theorem ggL_client_X6_client : GoodIn wsL_client wsX6_client := goodIn_ca (goodIn_ca (goodIn_r _ [7, 8, 9, 10, 11, 12, 13, 6, 14, 15, 16, 17, 18, 19, 20, 21, 22, 23, 24, 25, 26, 27, 28, 29, 30, 31, 32, 33, 34, 35, 36, 37, 38, 39, 40, 41, 42, 43, 44, 45, 46, 47, 48, 49, 50, 51, 52, 53, 54, 55, 56, 57, 58, 59, 60, 61, 62, 63, 64, 65, 66, 67, 68, 69, 70, 71, 72, 73, 74, 75, 76, 77, 78, 79, 80, 81, 82, 83, 84, 85, 86, 87, 88, 89, 90, 91, 92, 93, 94, 95, 96, 97, 98, 99, 100, 101, 102] (by decide +kernel) (by decide +kernel)) (goodIn_sub (fun _ h => List.mem_cons_of_mem _ (List.mem_append_left _ (List.mem_append_right _ h))) (by decide +kernel))) (goodIn_sub (fun _ h => List.mem_cons_of_mem _ (List.mem_append_right _ h)) (by decide +kernel))
set_option maxRecDepth 20000 in
theorem gL_client_X6_client : GoodIn wsL_client (wsV RL 7 RX6 yX6_client wsX6_client) := goodIn_app (goodIn_of _ (by decide +kernel)) ggL_client_X6_client
theorem dL_client_0 : decode cL_client 0 = .ok (.aload_n 3, 1) := by decide +kernel
theorem dL_client_1 : decode cL_client 1 = .ok (.iconst 0, 1) := by decide +kernel
theorem dL_client_2 : decode cL_client 2 = .ok (.aload_n 0, 1) := by decide +kernel
theorem dL_client_3 : decode cL_client 3 = .ok (.iload_n 1, 1) := by decide +kernel
theorem dL_client_4 : decode cL_client 4 = .ok (.iload_n 2, 1) := by decide +kernel
theorem dL_client_5 : decode cL_client 5 = .ok (.invokevirtual 7, 3) := by decide +kernel
theorem dL_client_8 : decode cL_client 8 = .ok (.i2l, 1) := by decide +kernel
theorem dL_client_9 : decode cL_client 9 = .ok (.lastore, 1) := by decide +kernel
theorem dL_client_10 : decode cL_client 10 = .ok (.goto 11, 3) := by decide +kernel
theorem dL_client_13 : decode cL_client 13 = .ok (.astore 4, 2) := by decide +kernel
theorem dL_client_15 : decode cL_client 15 = .ok (.iconst 1, 1) := by decide +kernel
theorem dL_client_16 : decode cL_client 16 = .ok (.ireturn, 1) := by decide +kernel
theorem dL_client_17 : decode cL_client 17 = .ok (.astore 4, 2) := by decide +kernel
theorem dL_client_19 : decode cL_client 19 = .ok (.iconst 2, 1) := by decide +kernel
theorem dL_client_20 : decode cL_client 20 = .ok (.ireturn, 1) := by decide +kernel
theorem dL_client_21 : decode cL_client 21 = .ok (.iconst 0, 1) := by decide +kernel
theorem dL_client_22 : decode cL_client 22 = .ok (.ireturn, 1) := by decide +kernel
set_option maxRecDepth 20000 in
theorem ggL_move_X6_move : GoodIn wsL_move wsX6_move := goodIn_ca (goodIn_ca (goodIn_r _ [7, 8, 9, 10, 11, 12, 6, 13, 14, 15, 16, 17, 18, 19, 20, 21, 22, 23, 24, 25, 26, 27, 28, 29, 30, 31, 32, 33, 34, 35, 36, 37, 38, 39, 40, 41, 42, 43, 44, 45, 46, 47, 48, 49, 50, 51, 52, 53, 54, 55, 56, 57, 58, 59] (by decide +kernel) (by decide +kernel)) (goodIn_sub (fun _ h => List.mem_cons_of_mem _ (List.mem_append_left _ (List.mem_append_right _ h))) (by decide +kernel))) (goodIn_sub (fun _ h => List.mem_cons_of_mem _ (List.mem_append_right _ h)) (by decide +kernel))
set_option maxRecDepth 20000 in
theorem gL_move_X6_move : GoodIn wsL_move (wsV RL 17 RX6 yX6_move wsX6_move) := goodIn_app (goodIn_of _ (by decide +kernel)) ggL_move_X6_move
theorem dL_move_0 : decode cL_move 0 = .ok (.aload_n 0, 1) := by decide +kernel
theorem dL_move_1 : decode cL_move 1 = .ok (.iload_n 1, 1) := by decide +kernel
theorem dL_move_2 : decode cL_move 2 = .ok (.iload_n 2, 1) := by decide +kernel
theorem dL_move_3 : decode cL_move 3 = .ok (.iload_n 3, 1) := by decide +kernel
theorem dL_move_4 : decode cL_move 4 = .ok (.invokevirtual 17, 3) := by decide +kernel
theorem dL_move_7 : decode cL_move 7 = .ok (.goto 11, 3) := by decide +kernel
theorem dL_move_10 : decode cL_move 10 = .ok (.astore 4, 2) := by decide +kernel
theorem dL_move_12 : decode cL_move 12 = .ok (.iconst 1, 1) := by decide +kernel
theorem dL_move_13 : decode cL_move 13 = .ok (.ireturn, 1) := by decide +kernel
theorem dL_move_14 : decode cL_move 14 = .ok (.astore 4, 2) := by decide +kernel
theorem dL_move_16 : decode cL_move 16 = .ok (.iconst 2, 1) := by decide +kernel
theorem dL_move_17 : decode cL_move 17 = .ok (.ireturn, 1) := by decide +kernel
theorem dL_move_18 : decode cL_move 18 = .ok (.iconst 0, 1) := by decide +kernel
theorem dL_move_19 : decode cL_move 19 = .ok (.ireturn, 1) := by decide +kernel
set_option maxRecDepth 20000 in
theorem ggL_layer_X6_layer : GoodIn wsL_layer wsX6_layer := goodIn_ca (goodIn_ca (goodIn_r _ [7, 8, 9, 10, 11, 12, 13, 6, 14, 15, 16, 17, 18, 19, 20, 21, 22, 23, 24, 25, 26, 27, 28, 29, 30, 31, 32, 33, 34, 35, 36, 37, 38, 39, 40, 41, 42, 43, 44, 45, 46, 47, 48, 49, 50, 51, 52, 53, 54, 55, 56, 57, 58, 59, 60, 61, 62, 63, 64, 65, 66, 67, 68, 69, 70, 71, 72, 73, 74, 75, 76, 77, 78, 79, 80, 81, 82, 83, 84, 85, 86, 87, 88, 89, 90, 91, 92, 93, 94, 95, 96, 97, 98, 99, 100, 101, 102, 103, 104, 105, 106, 107, 108, 109, 110, 111, 112, 113, 114, 115, 116, 117, 118, 119, 120] (by decide +kernel) (by decide +kernel)) (goodIn_sub (fun _ h => List.mem_cons_of_mem _ (List.mem_append_left _ (List.mem_append_right _ h))) (by decide +kernel))) (goodIn_sub (fun _ h => List.mem_cons_of_mem _ (List.mem_append_right _ h)) (by decide +kernel))
set_option maxRecDepth 20000 in
theorem gL_layer_X6_layer : GoodIn wsL_layer (wsV RL 23 RX6 yX6_layer wsX6_layer) := goodIn_app (goodIn_of _ (by decide +kernel)) ggL_layer_X6_layer
theorem dL_layer_0 : decode cL_layer 0 = .ok (.aload 4, 2) := by decide +kernel
theorem dL_layer_2 : decode cL_layer 2 = .ok (.iconst 0, 1) := by decide +kernel
theorem dL_layer_3 : decode cL_layer 3 = .ok (.aload_n 0, 1) := by decide +kernel
theorem dL_layer_4 : decode cL_layer 4 = .ok (.iload_n 1, 1) := by decide +kernel
theorem dL_layer_5 : decode cL_layer 5 = .ok (.iload_n 2, 1) := by decide +kernel
theorem dL_layer_6 : decode cL_layer 6 = .ok (.iload_n 3, 1) := by decide +kernel
theorem dL_layer_7 : decode cL_layer 7 = .ok (.invokevirtual 23, 3) := by decide +kernel
theorem dL_layer_10 : decode cL_layer 10 = .ok (.i2l, 1) := by decide +kernel
theorem dL_layer_11 : decode cL_layer 11 = .ok (.lastore, 1) := by decide +kernel
theorem dL_layer_12 : decode cL_layer 12 = .ok (.goto 11, 3) := by decide +kernel
theorem dL_layer_15 : decode cL_layer 15 = .ok (.astore 5, 2) := by decide +kernel
theorem dL_layer_17 : decode cL_layer 17 = .ok (.iconst 1, 1) := by decide +kernel
theorem dL_layer_18 : decode cL_layer 18 = .ok (.ireturn, 1) := by decide +kernel
theorem dL_layer_19 : decode cL_layer 19 = .ok (.astore 5, 2) := by decide +kernel
theorem dL_layer_21 : decode cL_layer 21 = .ok (.iconst 2, 1) := by decide +kernel
theorem dL_layer_22 : decode cL_layer 22 = .ok (.ireturn, 1) := by decide +kernel
theorem dL_layer_23 : decode cL_layer 23 = .ok (.iconst 0, 1) := by decide +kernel
theorem dL_layer_24 : decode cL_layer 24 = .ok (.ireturn, 1) := by decide +kernel
set_option maxRecDepth 20000 in
theorem ggL_rank_X6_rank : GoodIn wsL_rank wsX6_rank := goodIn_ca (goodIn_ca (goodIn_r _ [7, 8, 9, 10, 11, 12, 6, 13, 14, 15, 16, 17, 18, 19, 20, 21, 22, 23, 24, 25, 26, 27, 28, 29, 30, 31, 32, 33, 34, 35, 36, 37, 38, 39, 40, 41, 42, 43, 44, 45, 46, 47, 48, 49, 50, 51, 52, 53, 54, 55, 56, 57, 58, 59, 60, 61, 62, 63, 64] (by decide +kernel) (by decide +kernel)) (goodIn_sub (fun _ h => List.mem_cons_of_mem _ (List.mem_append_left _ (List.mem_append_right _ h))) (by decide +kernel))) (goodIn_sub (fun _ h => List.mem_cons_of_mem _ (List.mem_append_right _ h)) (by decide +kernel))
set_option maxRecDepth 20000 in
theorem gL_rank_X6_rank : GoodIn wsL_rank (wsV RL 27 RX6 yX6_rank wsX6_rank) := goodIn_app (goodIn_of _ (by decide +kernel)) ggL_rank_X6_rank
theorem dL_rank_0 : decode cL_rank 0 = .ok (.aload_n 3, 1) := by decide +kernel
theorem dL_rank_1 : decode cL_rank 1 = .ok (.iconst 0, 1) := by decide +kernel
theorem dL_rank_2 : decode cL_rank 2 = .ok (.aload_n 0, 1) := by decide +kernel
theorem dL_rank_3 : decode cL_rank 3 = .ok (.iload_n 1, 1) := by decide +kernel
theorem dL_rank_4 : decode cL_rank 4 = .ok (.iload_n 2, 1) := by decide +kernel
theorem dL_rank_5 : decode cL_rank 5 = .ok (.invokevirtual 27, 3) := by decide +kernel
theorem dL_rank_8 : decode cL_rank 8 = .ok (.i2l, 1) := by decide +kernel
theorem dL_rank_9 : decode cL_rank 9 = .ok (.lastore, 1) := by decide +kernel
theorem dL_rank_10 : decode cL_rank 10 = .ok (.goto 11, 3) := by decide +kernel
theorem dL_rank_13 : decode cL_rank 13 = .ok (.astore 4, 2) := by decide +kernel
theorem dL_rank_15 : decode cL_rank 15 = .ok (.iconst 1, 1) := by decide +kernel
theorem dL_rank_16 : decode cL_rank 16 = .ok (.ireturn, 1) := by decide +kernel
theorem dL_rank_17 : decode cL_rank 17 = .ok (.astore 4, 2) := by decide +kernel
theorem dL_rank_19 : decode cL_rank 19 = .ok (.iconst 2, 1) := by decide +kernel
theorem dL_rank_20 : decode cL_rank 20 = .ok (.ireturn, 1) := by decide +kernel
theorem dL_rank_21 : decode cL_rank 21 = .ok (.iconst 0, 1) := by decide +kernel
theorem dL_rank_22 : decode cL_rank 22 = .ok (.ireturn, 1) := by decide +kernel
set_option maxRecDepth 20000 in
theorem ggL_layerAt_X6_layerAt : GoodIn wsL_layerAt wsX6_layerAt := goodIn_ca (goodIn_r _ [6, 7, 8, 9, 10, 11, 12, 13, 14, 15, 16, 17, 18, 5, 19, 20, 21, 22, 23, 24, 25, 26, 27, 28, 29, 30, 31, 32, 33, 34, 35, 36, 37, 38, 39, 40, 41, 42, 43, 44, 45, 46, 47, 48, 49, 50, 51, 52, 53, 54, 55, 56] (by decide +kernel) (by decide +kernel)) (goodIn_sub (fun _ h => List.mem_cons_of_mem _ (List.mem_append_right _ h)) (by decide +kernel))
set_option maxRecDepth 20000 in
theorem gL_layerAt_X6_layerAt : GoodIn wsL_layerAt (wsV RL 30 RX6 yX6_layerAt wsX6_layerAt) := goodIn_app (goodIn_of _ (by decide +kernel)) ggL_layerAt_X6_layerAt
theorem dL_layerAt_0 : decode cL_layerAt 0 = .ok (.aload_n 2, 1) := by decide +kernel
theorem dL_layerAt_1 : decode cL_layerAt 1 = .ok (.iconst 0, 1) := by decide +kernel
theorem dL_layerAt_2 : decode cL_layerAt 2 = .ok (.aload_n 0, 1) := by decide +kernel
theorem dL_layerAt_3 : decode cL_layerAt 3 = .ok (.iload_n 1, 1) := by decide +kernel
theorem dL_layerAt_4 : decode cL_layerAt 4 = .ok (.invokevirtual 30, 3) := by decide +kernel
theorem dL_layerAt_7 : decode cL_layerAt 7 = .ok (.i2l, 1) := by decide +kernel
theorem dL_layerAt_8 : decode cL_layerAt 8 = .ok (.lastore, 1) := by decide +kernel
theorem dL_layerAt_9 : decode cL_layerAt 9 = .ok (.goto 6, 3) := by decide +kernel
theorem dL_layerAt_12 : decode cL_layerAt 12 = .ok (.astore_n 3, 1) := by decide +kernel
theorem dL_layerAt_13 : decode cL_layerAt 13 = .ok (.iconst 1, 1) := by decide +kernel
theorem dL_layerAt_14 : decode cL_layerAt 14 = .ok (.ireturn, 1) := by decide +kernel
theorem dL_layerAt_15 : decode cL_layerAt 15 = .ok (.iconst 0, 1) := by decide +kernel
theorem dL_layerAt_16 : decode cL_layerAt 16 = .ok (.ireturn, 1) := by decide +kernel
set_option maxRecDepth 20000 in
theorem ggL_applies_X6_applies : GoodIn wsL_applies wsX6_applies := goodIn_ca (goodIn_r _ [6, 7, 8, 9, 5, 10, 11, 12, 13, 14, 15, 16, 17, 18, 19, 20, 21, 22, 23, 24, 25, 26, 27, 28, 29, 30, 31, 32, 33, 34, 35, 36, 37, 38, 39, 40, 41, 42, 43, 44, 45, 46, 47, 48, 49, 50, 51, 52, 53, 54, 55, 56, 57, 58, 59, 60, 61, 62, 63, 64, 65, 66, 67, 68, 69, 70, 71, 72, 73, 74] (by decide +kernel) (by decide +kernel)) (goodIn_sub (fun _ h => List.mem_cons_of_mem _ (List.mem_append_right _ h)) (by decide +kernel))
set_option maxRecDepth 20000 in
theorem gL_applies_X6_applies : GoodIn wsL_applies (wsV RL 34 RX6 yX6_applies wsX6_applies) := goodIn_app (goodIn_of _ (by decide +kernel)) ggL_applies_X6_applies
theorem dL_applies_0 : decode cL_applies 0 = .ok (.aload_n 3, 1) := by decide +kernel
theorem dL_applies_1 : decode cL_applies 1 = .ok (.iconst 0, 1) := by decide +kernel
theorem dL_applies_2 : decode cL_applies 2 = .ok (.aload_n 0, 1) := by decide +kernel
theorem dL_applies_3 : decode cL_applies 3 = .ok (.iload_n 1, 1) := by decide +kernel
theorem dL_applies_4 : decode cL_applies 4 = .ok (.iload_n 2, 1) := by decide +kernel
theorem dL_applies_5 : decode cL_applies 5 = .ok (.invokevirtual 34, 3) := by decide +kernel
theorem dL_applies_8 : decode cL_applies 8 = .ok (.ifCond .eq 7, 3) := by decide +kernel
theorem dL_applies_11 : decode cL_applies 11 = .ok (.lconst 1, 1) := by decide +kernel
theorem dL_applies_12 : decode cL_applies 12 = .ok (.goto 4, 3) := by decide +kernel
theorem dL_applies_15 : decode cL_applies 15 = .ok (.lconst 0, 1) := by decide +kernel
theorem dL_applies_16 : decode cL_applies 16 = .ok (.lastore, 1) := by decide +kernel
theorem dL_applies_17 : decode cL_applies 17 = .ok (.goto 7, 3) := by decide +kernel
theorem dL_applies_20 : decode cL_applies 20 = .ok (.astore 4, 2) := by decide +kernel
theorem dL_applies_22 : decode cL_applies 22 = .ok (.iconst 1, 1) := by decide +kernel
theorem dL_applies_23 : decode cL_applies 23 = .ok (.ireturn, 1) := by decide +kernel
theorem dL_applies_24 : decode cL_applies 24 = .ok (.iconst 0, 1) := by decide +kernel
theorem dL_applies_25 : decode cL_applies 25 = .ok (.ireturn, 1) := by decide +kernel
set_option maxRecDepth 20000 in
theorem ggL_set_X6_set : GoodIn wsL_set wsX6_set := goodIn_ca (goodIn_ca (goodIn_ca (goodIn_r _ [8, 9, 10, 11, 12, 13, 14, 7, 15, 16, 17, 18, 19, 20, 21, 22, 23, 24, 25, 26, 27, 28, 29, 30, 31, 32, 33, 34, 35, 36, 37, 38, 39, 40, 41, 42, 43, 44, 45, 46, 47, 48, 49, 50, 51, 52, 53, 54, 55, 56, 57, 58, 59, 60, 61, 62, 63, 64, 65, 66, 67, 68, 69, 70, 71, 72, 73, 74, 75, 76, 77, 78, 79, 80, 81, 82, 83, 84, 85, 86, 87, 88, 89, 90, 91, 92, 93, 94, 95, 96, 97, 98, 99, 100, 101, 102, 103, 104, 105, 106, 107, 108, 109, 110, 111, 112, 113, 114, 115, 116, 117, 118, 119, 120, 121, 122, 123, 124, 125, 126, 127, 128, 129, 130, 131, 132, 133, 134, 135, 136, 137, 138, 139, 140, 141, 142, 143, 144, 145, 146, 147, 148, 149, 150, 151, 152, 153, 154, 155, 156, 157, 158, 159, 160, 161, 162, 163, 164, 165, 166, 167, 168, 169, 170, 171, 172, 173, 174, 175, 176, 177, 178, 179, 180, 181, 182, 183, 184, 185, 186, 187, 188, 189, 190, 191, 192, 193, 194, 195, 196, 197, 198, 199, 200, 201] (by decide +kernel) (by decide +kernel)) (goodIn_sub (fun _ h => List.mem_cons_of_mem _ (List.mem_append_left _ (List.mem_append_left _ (List.mem_append_right _ h)))) (by decide +kernel))) (goodIn_sub (fun _ h => List.mem_cons_of_mem _ (List.mem_append_left _ (List.mem_append_right _ h))) (by decide +kernel))) (goodIn_sub (fun _ h => List.mem_cons_of_mem _ (List.mem_append_right _ h)) (by decide +kernel))
set_option maxRecDepth 20000 in
theorem gL_set_X6_set : GoodIn wsL_set (wsV RL 38 RX6 yX6_set wsX6_set) := goodIn_app (goodIn_of _ (by decide +kernel)) ggL_set_X6_set
theorem dL_set_0 : decode cL_set 0 = .ok (.aload 5, 2) := by decide +kernel
theorem dL_set_2 : decode cL_set 2 = .ok (.iconst 0, 1) := by decide +kernel
theorem dL_set_3 : decode cL_set 3 = .ok (.aload_n 0, 1) := by decide +kernel
theorem dL_set_4 : decode cL_set 4 = .ok (.iload_n 1, 1) := by decide +kernel
theorem dL_set_5 : decode cL_set 5 = .ok (.iload_n 2, 1) := by decide +kernel
theorem dL_set_6 : decode cL_set 6 = .ok (.iload_n 3, 1) := by decide +kernel
theorem dL_set_7 : decode cL_set 7 = .ok (.iload 4, 2) := by decide +kernel
theorem dL_set_9 : decode cL_set 9 = .ok (.invokevirtual 38, 3) := by decide +kernel
theorem dL_set_12 : decode cL_set 12 = .ok (.i2l, 1) := by decide +kernel
theorem dL_set_13 : decode cL_set 13 = .ok (.lastore, 1) := by decide +kernel
theorem dL_set_14 : decode cL_set 14 = .ok (.goto 15, 3) := by decide +kernel
theorem dL_set_17 : decode cL_set 17 = .ok (.astore 6, 2) := by decide +kernel
theorem dL_set_19 : decode cL_set 19 = .ok (.iconst 1, 1) := by decide +kernel
theorem dL_set_20 : decode cL_set 20 = .ok (.ireturn, 1) := by decide +kernel
theorem dL_set_21 : decode cL_set 21 = .ok (.astore 6, 2) := by decide +kernel
theorem dL_set_23 : decode cL_set 23 = .ok (.iconst 2, 1) := by decide +kernel
theorem dL_set_24 : decode cL_set 24 = .ok (.ireturn, 1) := by decide +kernel
theorem dL_set_25 : decode cL_set 25 = .ok (.astore 6, 2) := by decide +kernel
theorem dL_set_27 : decode cL_set 27 = .ok (.iconst 3, 1) := by decide +kernel
theorem dL_set_28 : decode cL_set 28 = .ok (.ireturn, 1) := by decide +kernel
theorem dL_set_29 : decode cL_set 29 = .ok (.iconst 0, 1) := by decide +kernel
theorem dL_set_30 : decode cL_set 30 = .ok (.ireturn, 1) := by decide +kernel
set_option maxRecDepth 20000 in
theorem ggL_template_X6_template : GoodIn wsL_template wsX6_template := goodIn_ca (goodIn_ca (goodIn_ca (goodIn_r _ [8, 9, 10, 11, 12, 13, 14, 7, 15, 16, 17, 18, 19, 20, 21, 22, 23, 24, 25, 26, 27, 28, 29, 30, 31, 32, 33, 34, 35, 36, 37, 38, 39, 40, 41, 42, 43, 44, 45, 46, 47, 48, 49, 50, 51, 52, 53, 54, 55, 56, 57, 58, 59, 60, 61, 62, 63, 64, 65, 66, 67, 68, 69, 70, 71, 72, 73, 74, 75, 76, 77, 78, 79, 80, 81, 82, 83, 84, 85, 86, 87, 88, 89, 90, 91, 92, 93, 94, 95, 96, 97, 98, 99, 100, 101, 102, 103, 104, 105, 106, 107, 108, 109, 110, 111, 112, 113, 114, 115, 116, 117, 118, 119, 120, 121, 122, 123, 124, 125, 126, 127, 128, 129, 130, 131, 132, 133, 134, 135, 136, 137, 138, 139, 140, 141, 142, 143, 144, 145, 146, 147, 148, 149, 150, 151, 152, 153, 154, 155, 156, 157, 158, 159, 160, 161, 162, 163, 164, 165, 166, 167, 168, 169, 170, 171, 172, 173, 174, 175, 176, 177, 178, 179, 180, 181, 182, 183, 184, 185, 186, 187, 188, 189, 190, 191, 192, 193, 194, 195, 196, 197, 198, 199, 200, 201, 202, 203, 204] (by decide +kernel) (by decide +kernel)) (goodIn_sub (fun _ h => List.mem_cons_of_mem _ (List.mem_append_left _ (List.mem_append_left _ (List.mem_append_right _ h)))) (by decide +kernel))) (goodIn_sub (fun _ h => List.mem_cons_of_mem _ (List.mem_append_left _ (List.mem_append_right _ h))) (by decide +kernel))) (goodIn_sub (fun _ h => List.mem_cons_of_mem _ (List.mem_append_right _ h)) (by decide +kernel))
set_option maxRecDepth 20000 in
theorem gL_template_X6_template : GoodIn wsL_template (wsV RL 42 RX6 yX6_template wsX6_template) := goodIn_app (goodIn_of _ (by decide +kernel)) ggL_template_X6_template
theorem dL_template_0 : decode cL_template 0 = .ok (.aload 7, 2) := by decide +kernel
theorem dL_template_2 : decode cL_template 2 = .ok (.iconst 0, 1) := by decide +kernel
theorem dL_template_3 : decode cL_template 3 = .ok (.aload_n 0, 1) := by decide +kernel
theorem dL_template_4 : decode cL_template 4 = .ok (.iload_n 1, 1) := by decide +kernel
theorem dL_template_5 : decode cL_template 5 = .ok (.iload_n 2, 1) := by decide +kernel
theorem dL_template_6 : decode cL_template 6 = .ok (.iload_n 3, 1) := by decide +kernel
theorem dL_template_7 : decode cL_template 7 = .ok (.iload 4, 2) := by decide +kernel
theorem dL_template_9 : decode cL_template 9 = .ok (.iload 5, 2) := by decide +kernel
theorem dL_template_11 : decode cL_template 11 = .ok (.iload 6, 2) := by decide +kernel
theorem dL_template_13 : decode cL_template 13 = .ok (.invokevirtual 42, 3) := by decide +kernel
theorem dL_template_16 : decode cL_template 16 = .ok (.i2l, 1) := by decide +kernel
theorem dL_template_17 : decode cL_template 17 = .ok (.lastore, 1) := by decide +kernel
theorem dL_template_18 : decode cL_template 18 = .ok (.goto 15, 3) := by decide +kernel
theorem dL_template_21 : decode cL_template 21 = .ok (.astore 8, 2) := by decide +kernel
theorem dL_template_23 : decode cL_template 23 = .ok (.iconst 1, 1) := by decide +kernel
theorem dL_template_24 : decode cL_template 24 = .ok (.ireturn, 1) := by decide +kernel
theorem dL_template_25 : decode cL_template 25 = .ok (.astore 8, 2) := by decide +kernel
theorem dL_template_27 : decode cL_template 27 = .ok (.iconst 2, 1) := by decide +kernel
theorem dL_template_28 : decode cL_template 28 = .ok (.ireturn, 1) := by decide +kernel
theorem dL_template_29 : decode cL_template 29 = .ok (.astore 8, 2) := by decide +kernel
theorem dL_template_31 : decode cL_template 31 = .ok (.iconst 3, 1) := by decide +kernel
theorem dL_template_32 : decode cL_template 32 = .ok (.ireturn, 1) := by decide +kernel
theorem dL_template_33 : decode cL_template 33 = .ok (.iconst 0, 1) := by decide +kernel
theorem dL_template_34 : decode cL_template 34 = .ok (.ireturn, 1) := by decide +kernel
set_option maxRecDepth 20000 in
theorem ggL_remove_X6_remove : GoodIn wsL_remove wsX6_remove := goodIn_ca (goodIn_ca (goodIn_ca (goodIn_r _ [8, 9, 10, 11, 12, 7, 13, 14, 15, 16, 17, 18, 19, 20, 21, 22, 23, 24, 25, 26, 27, 28, 29, 30, 31, 32, 33, 34, 35, 36, 37, 38, 39, 40, 41, 42, 43, 44, 45, 46, 47, 48, 49, 50, 51, 52, 53, 54, 55, 56, 57, 58, 59, 60, 61, 62, 63, 64, 65, 66, 67, 68, 69, 70, 71, 72, 73, 74, 75, 76, 77, 78, 79, 80, 81, 82, 83, 84, 85, 86, 87, 88, 89, 90, 91, 92, 93, 94, 95, 96, 97, 98, 99, 100, 101, 102, 103, 104, 105, 106, 107, 108, 109, 110, 111, 112, 113, 114, 115, 116, 117, 118, 119, 120, 121, 122, 123, 124, 125, 126, 127, 128, 129, 130, 131, 132, 133, 134, 135, 136, 137, 138, 139, 140, 141, 142, 143, 144, 145, 146, 147, 148, 149, 150, 151, 152, 153, 154, 155, 156, 157, 158, 159, 160, 161, 162, 163, 164, 165, 166, 167, 168, 169, 170, 171, 172, 173, 174, 175, 176, 177, 178, 179, 180, 181, 182, 183, 184, 185, 186, 187, 188, 189, 190, 191, 192] (by decide +kernel) (by decide +kernel)) (goodIn_sub (fun _ h => List.mem_cons_of_mem _ (List.mem_append_left _ (List.mem_append_left _ (List.mem_append_right _ h)))) (by decide +kernel))) (goodIn_sub (fun _ h => List.mem_cons_of_mem _ (List.mem_append_left _ (List.mem_append_right _ h))) (by decide +kernel))) (goodIn_sub (fun _ h => List.mem_cons_of_mem _ (List.mem_append_right _ h)) (by decide +kernel))
set_option maxRecDepth 20000 in
theorem gL_remove_X6_remove : GoodIn wsL_remove (wsV RL 46 RX6 yX6_remove wsX6_remove) := goodIn_app (goodIn_of _ (by decide +kernel)) ggL_remove_X6_remove
theorem dL_remove_0 : decode cL_remove 0 = .ok (.aload 4, 2) := by decide +kernel
theorem dL_remove_2 : decode cL_remove 2 = .ok (.iconst 0, 1) := by decide +kernel
theorem dL_remove_3 : decode cL_remove 3 = .ok (.aload_n 0, 1) := by decide +kernel
theorem dL_remove_4 : decode cL_remove 4 = .ok (.iload_n 1, 1) := by decide +kernel
theorem dL_remove_5 : decode cL_remove 5 = .ok (.iload_n 2, 1) := by decide +kernel
theorem dL_remove_6 : decode cL_remove 6 = .ok (.iload_n 3, 1) := by decide +kernel
theorem dL_remove_7 : decode cL_remove 7 = .ok (.invokevirtual 46, 3) := by decide +kernel
theorem dL_remove_10 : decode cL_remove 10 = .ok (.i2l, 1) := by decide +kernel
theorem dL_remove_11 : decode cL_remove 11 = .ok (.lastore, 1) := by decide +kernel
theorem dL_remove_12 : decode cL_remove 12 = .ok (.goto 15, 3) := by decide +kernel
theorem dL_remove_15 : decode cL_remove 15 = .ok (.astore 5, 2) := by decide +kernel
theorem dL_remove_17 : decode cL_remove 17 = .ok (.iconst 1, 1) := by decide +kernel
theorem dL_remove_18 : decode cL_remove 18 = .ok (.ireturn, 1) := by decide +kernel
theorem dL_remove_19 : decode cL_remove 19 = .ok (.astore 5, 2) := by decide +kernel
theorem dL_remove_21 : decode cL_remove 21 = .ok (.iconst 2, 1) := by decide +kernel
theorem dL_remove_22 : decode cL_remove 22 = .ok (.ireturn, 1) := by decide +kernel
theorem dL_remove_23 : decode cL_remove 23 = .ok (.astore 5, 2) := by decide +kernel
theorem dL_remove_25 : decode cL_remove 25 = .ok (.iconst 3, 1) := by decide +kernel
theorem dL_remove_26 : decode cL_remove 26 = .ok (.ireturn, 1) := by decide +kernel
theorem dL_remove_27 : decode cL_remove 27 = .ok (.iconst 0, 1) := by decide +kernel
theorem dL_remove_28 : decode cL_remove 28 = .ok (.ireturn, 1) := by decide +kernel
set_option maxRecDepth 20000 in
theorem ggL_has_X6_has : GoodIn wsL_has wsX6_has := goodIn_ca (goodIn_r _ [6, 7, 8, 9, 10, 5, 11, 12, 13, 14, 15, 16, 17, 18, 19, 20, 21, 22, 23, 24, 25, 26, 27, 28, 29, 30, 31, 32, 33, 34, 35, 36, 37, 38, 39, 40, 41, 42, 43, 44, 45] (by decide +kernel) (by decide +kernel)) (goodIn_sub (fun _ h => List.mem_cons_of_mem _ (List.mem_append_right _ h)) (by decide +kernel))
set_option maxRecDepth 20000 in
theorem gL_has_X6_has : GoodIn wsL_has (wsV RL 49 RX6 yX6_has wsX6_has) := goodIn_app (goodIn_of _ (by decide +kernel)) ggL_has_X6_has
theorem dL_has_0 : decode cL_has 0 = .ok (.aload_n 3, 1) := by decide +kernel
theorem dL_has_1 : decode cL_has 1 = .ok (.iconst 0, 1) := by decide +kernel
theorem dL_has_2 : decode cL_has 2 = .ok (.aload_n 0, 1) := by decide +kernel
theorem dL_has_3 : decode cL_has 3 = .ok (.iload_n 1, 1) := by decide +kernel
theorem dL_has_4 : decode cL_has 4 = .ok (.iload_n 2, 1) := by decide +kernel
theorem dL_has_5 : decode cL_has 5 = .ok (.invokevirtual 49, 3) := by decide +kernel
theorem dL_has_8 : decode cL_has 8 = .ok (.ifCond .eq 7, 3) := by decide +kernel
theorem dL_has_11 : decode cL_has 11 = .ok (.lconst 1, 1) := by decide +kernel
theorem dL_has_12 : decode cL_has 12 = .ok (.goto 4, 3) := by decide +kernel
theorem dL_has_15 : decode cL_has 15 = .ok (.lconst 0, 1) := by decide +kernel
theorem dL_has_16 : decode cL_has 16 = .ok (.lastore, 1) := by decide +kernel
theorem dL_has_17 : decode cL_has 17 = .ok (.goto 7, 3) := by decide +kernel
theorem dL_has_20 : decode cL_has 20 = .ok (.astore 4, 2) := by decide +kernel
theorem dL_has_22 : decode cL_has 22 = .ok (.iconst 1, 1) := by decide +kernel
theorem dL_has_23 : decode cL_has 23 = .ok (.ireturn, 1) := by decide +kernel
theorem dL_has_24 : decode cL_has 24 = .ok (.iconst 0, 1) := by decide +kernel
theorem dL_has_25 : decode cL_has 25 = .ok (.ireturn, 1) := by decide +kernel
set_option maxRecDepth 20000 in
theorem ggL_roll_X6_roll : GoodIn wsL_roll wsX6_roll := goodIn_ca (goodIn_ca (goodIn_ca (goodIn_r _ [8, 9, 10, 11, 12, 13, 14, 15, 16, 17, 18, 19, 7, 20, 21, 22, 23, 24, 25, 26, 27, 28, 29, 30, 31, 32, 33, 34, 35, 36, 37, 38, 39, 40, 41, 42, 43, 44, 45, 46, 47, 48, 49, 50, 51, 52, 53, 54, 55, 56, 57, 58, 59, 60, 61, 62, 63, 64, 65, 66, 67, 68, 69, 70, 71, 72, 73, 74, 75, 76, 77, 78, 79, 80, 81, 82, 83, 84, 85, 86, 87, 88, 89, 90, 91, 92, 93, 94, 95, 96, 97, 98, 99, 100, 101, 102, 103, 104, 105, 106, 107, 108, 109, 110, 111, 112, 113, 114, 115, 116, 117, 118, 119] (by decide +kernel) (by decide +kernel)) (goodIn_sub (fun _ h => List.mem_cons_of_mem _ (List.mem_append_left _ (List.mem_append_left _ (List.mem_append_right _ h)))) (by decide +kernel))) (goodIn_sub (fun _ h => List.mem_cons_of_mem _ (List.mem_append_left _ (List.mem_append_right _ h))) (by decide +kernel))) (goodIn_sub (fun _ h => List.mem_cons_of_mem _ (List.mem_append_right _ h)) (by decide +kernel))
set_option maxRecDepth 20000 in
theorem gL_roll_X6_roll : GoodIn wsL_roll (wsV RL 52 RX6 yX6_roll wsX6_roll) := goodIn_app (goodIn_of _ (by decide +kernel)) ggL_roll_X6_roll
theorem dL_roll_0 : decode cL_roll 0 = .ok (.aload_n 0, 1) := by decide +kernel
theorem dL_roll_1 : decode cL_roll 1 = .ok (.iload_n 1, 1) := by decide +kernel
theorem dL_roll_2 : decode cL_roll 2 = .ok (.iload_n 2, 1) := by decide +kernel
theorem dL_roll_3 : decode cL_roll 3 = .ok (.iload_n 3, 1) := by decide +kernel
theorem dL_roll_4 : decode cL_roll 4 = .ok (.iload 4, 2) := by decide +kernel
theorem dL_roll_6 : decode cL_roll 6 = .ok (.invokevirtual 52, 3) := by decide +kernel
theorem dL_roll_9 : decode cL_roll 9 = .ok (.goto 15, 3) := by decide +kernel
theorem dL_roll_12 : decode cL_roll 12 = .ok (.astore 5, 2) := by decide +kernel
theorem dL_roll_14 : decode cL_roll 14 = .ok (.iconst 1, 1) := by decide +kernel
theorem dL_roll_15 : decode cL_roll 15 = .ok (.ireturn, 1) := by decide +kernel
theorem dL_roll_16 : decode cL_roll 16 = .ok (.astore 5, 2) := by decide +kernel
theorem dL_roll_18 : decode cL_roll 18 = .ok (.iconst 2, 1) := by decide +kernel
theorem dL_roll_19 : decode cL_roll 19 = .ok (.ireturn, 1) := by decide +kernel
theorem dL_roll_20 : decode cL_roll 20 = .ok (.astore 5, 2) := by decide +kernel
theorem dL_roll_22 : decode cL_roll 22 = .ok (.iconst 3, 1) := by decide +kernel
theorem dL_roll_23 : decode cL_roll 23 = .ok (.ireturn, 1) := by decide +kernel
theorem dL_roll_24 : decode cL_roll 24 = .ok (.iconst 0, 1) := by decide +kernel
theorem dL_roll_25 : decode cL_roll 25 = .ok (.ireturn, 1) := by decide +kernel
set_option maxRecDepth 20000 in
theorem ggL_rollTemplate_X6_rollTemplate : GoodIn wsL_rollTemplate wsX6_rollTemplate := goodIn_ca (goodIn_ca (goodIn_ca (goodIn_r _ [8, 9, 10, 11, 12, 13, 14, 15, 16, 17, 18, 19, 7, 20, 21, 22, 23, 24, 25, 26, 27, 28, 29, 30, 31, 32, 33, 34, 35, 36, 37, 38, 39, 40, 41, 42, 43, 44, 45, 46, 47, 48, 49, 50, 51, 52, 53, 54, 55, 56, 57, 58, 59, 60, 61, 62, 63, 64, 65, 66, 67, 68, 69, 70, 71, 72, 73, 74, 75, 76, 77, 78, 79, 80, 81, 82, 83, 84, 85, 86, 87, 88, 89, 90, 91, 92, 93, 94, 95, 96, 97, 98, 99, 100, 101, 102, 103, 104, 105, 106, 107, 108, 109, 110, 111, 112, 113, 114, 115, 116, 117, 118, 119, 120, 121, 122] (by decide +kernel) (by decide +kernel)) (goodIn_sub (fun _ h => List.mem_cons_of_mem _ (List.mem_append_left _ (List.mem_append_left _ (List.mem_append_right _ h)))) (by decide +kernel))) (goodIn_sub (fun _ h => List.mem_cons_of_mem _ (List.mem_append_left _ (List.mem_append_right _ h))) (by decide +kernel))) (goodIn_sub (fun _ h => List.mem_cons_of_mem _ (List.mem_append_right _ h)) (by decide +kernel))
set_option maxRecDepth 20000 in
theorem gL_rollTemplate_X6_rollTemplate : GoodIn wsL_rollTemplate (wsV RL 56 RX6 yX6_rollTemplate wsX6_rollTemplate) := goodIn_app (goodIn_of _ (by decide +kernel)) ggL_rollTemplate_X6_rollTemplate
theorem dL_rollTemplate_0 : decode cL_rollTemplate 0 = .ok (.aload_n 0, 1) := by decide +kernel
theorem dL_rollTemplate_1 : decode cL_rollTemplate 1 = .ok (.iload_n 1, 1) := by decide +kernel
theorem dL_rollTemplate_2 : decode cL_rollTemplate 2 = .ok (.iload_n 2, 1) := by decide +kernel
theorem dL_rollTemplate_3 : decode cL_rollTemplate 3 = .ok (.iload_n 3, 1) := by decide +kernel
theorem dL_rollTemplate_4 : decode cL_rollTemplate 4 = .ok (.iload 4, 2) := by decide +kernel
theorem dL_rollTemplate_6 : decode cL_rollTemplate 6 = .ok (.iload 5, 2) := by decide +kernel
theorem dL_rollTemplate_8 : decode cL_rollTemplate 8 = .ok (.iload 6, 2) := by decide +kernel
theorem dL_rollTemplate_10 : decode cL_rollTemplate 10 = .ok (.invokevirtual 56, 3) := by decide +kernel
theorem dL_rollTemplate_13 : decode cL_rollTemplate 13 = .ok (.goto 15, 3) := by decide +kernel
theorem dL_rollTemplate_16 : decode cL_rollTemplate 16 = .ok (.astore 7, 2) := by decide +kernel
theorem dL_rollTemplate_18 : decode cL_rollTemplate 18 = .ok (.iconst 1, 1) := by decide +kernel
theorem dL_rollTemplate_19 : decode cL_rollTemplate 19 = .ok (.ireturn, 1) := by decide +kernel
theorem dL_rollTemplate_20 : decode cL_rollTemplate 20 = .ok (.astore 7, 2) := by decide +kernel
theorem dL_rollTemplate_22 : decode cL_rollTemplate 22 = .ok (.iconst 2, 1) := by decide +kernel
theorem dL_rollTemplate_23 : decode cL_rollTemplate 23 = .ok (.ireturn, 1) := by decide +kernel
theorem dL_rollTemplate_24 : decode cL_rollTemplate 24 = .ok (.astore 7, 2) := by decide +kernel
theorem dL_rollTemplate_26 : decode cL_rollTemplate 26 = .ok (.iconst 3, 1) := by decide +kernel
theorem dL_rollTemplate_27 : decode cL_rollTemplate 27 = .ok (.ireturn, 1) := by decide +kernel
theorem dL_rollTemplate_28 : decode cL_rollTemplate 28 = .ok (.iconst 0, 1) := by decide +kernel
theorem dL_rollTemplate_29 : decode cL_rollTemplate 29 = .ok (.ireturn, 1) := by decide +kernel
set_option maxRecDepth 20000 in
theorem ggL_advance_X6_advance : GoodIn wsL_advance wsX6_advance := goodIn_ca (goodIn_ca (goodIn_ca (goodIn_r _ [8, 9, 10, 11, 12, 13, 14, 15, 7, 16, 17, 18, 19, 20, 21, 22, 23, 24, 25, 26, 27, 28, 29, 30, 31, 32, 33, 34, 35, 36, 37, 38, 39, 40, 41, 42, 43, 44, 45, 46, 47, 48, 49, 50, 51, 52, 53, 54, 55, 56, 57, 58, 59, 60, 61, 62, 63, 64, 65, 66, 67, 68, 69, 70, 71, 72, 73, 74, 75, 76, 77, 78, 79, 80, 81, 82, 83, 84, 85, 86, 87, 88, 89, 90, 91, 92, 93, 94, 95, 96, 97, 98, 99, 100, 101, 102, 103, 104, 105, 106, 107, 108, 109, 110, 111, 112, 113, 114, 115, 116, 117, 118, 119, 120, 121, 122, 123, 124, 125, 126, 127, 128, 129, 130, 131, 132, 133, 134, 135, 136, 137, 138, 139, 140, 141, 142, 143, 144, 145, 146, 147, 148, 149, 150, 151, 152, 153, 154, 155, 156, 157, 158, 159, 160, 161, 162, 163, 164, 165, 166, 167, 168, 169, 170, 171, 172, 173, 174, 175, 176, 177, 178, 179, 180, 181, 182, 183, 184, 185, 186, 187, 188, 189, 190, 191, 192, 193, 194, 195, 196, 197, 198, 199, 200, 201, 202, 203, 204, 205, 206, 207, 208, 209] (by decide +kernel) (by decide +kernel)) (goodIn_sub (fun _ h => List.mem_cons_of_mem _ (List.mem_append_left _ (List.mem_append_left _ (List.mem_append_right _ h)))) (by decide +kernel))) (goodIn_sub (fun _ h => List.mem_cons_of_mem _ (List.mem_append_left _ (List.mem_append_right _ h))) (by decide +kernel))) (goodIn_sub (fun _ h => List.mem_cons_of_mem _ (List.mem_append_right _ h)) (by decide +kernel))
set_option maxRecDepth 20000 in
theorem gL_advance_X6_advance : GoodIn wsL_advance (wsV RL 60 RX6 yX6_advance wsX6_advance) := goodIn_app (goodIn_of _ (by decide +kernel)) ggL_advance_X6_advance
theorem dL_advance_0 : decode cL_advance 0 = .ok (.aload 5, 2) := by decide +kernel
theorem dL_advance_2 : decode cL_advance 2 = .ok (.iconst 0, 1) := by decide +kernel
theorem dL_advance_3 : decode cL_advance 3 = .ok (.aload_n 0, 1) := by decide +kernel
theorem dL_advance_4 : decode cL_advance 4 = .ok (.iload_n 1, 1) := by decide +kernel
theorem dL_advance_5 : decode cL_advance 5 = .ok (.iload_n 2, 1) := by decide +kernel
theorem dL_advance_6 : decode cL_advance 6 = .ok (.iload_n 3, 1) := by decide +kernel
theorem dL_advance_7 : decode cL_advance 7 = .ok (.iload 4, 2) := by decide +kernel
theorem dL_advance_9 : decode cL_advance 9 = .ok (.invokevirtual 60, 3) := by decide +kernel
theorem dL_advance_12 : decode cL_advance 12 = .ok (.i2l, 1) := by decide +kernel
theorem dL_advance_13 : decode cL_advance 13 = .ok (.lastore, 1) := by decide +kernel
theorem dL_advance_14 : decode cL_advance 14 = .ok (.goto 15, 3) := by decide +kernel
theorem dL_advance_17 : decode cL_advance 17 = .ok (.astore 6, 2) := by decide +kernel
theorem dL_advance_19 : decode cL_advance 19 = .ok (.iconst 1, 1) := by decide +kernel
theorem dL_advance_20 : decode cL_advance 20 = .ok (.ireturn, 1) := by decide +kernel
theorem dL_advance_21 : decode cL_advance 21 = .ok (.astore 6, 2) := by decide +kernel
theorem dL_advance_23 : decode cL_advance 23 = .ok (.iconst 2, 1) := by decide +kernel
theorem dL_advance_24 : decode cL_advance 24 = .ok (.ireturn, 1) := by decide +kernel
theorem dL_advance_25 : decode cL_advance 25 = .ok (.astore 6, 2) := by decide +kernel
theorem dL_advance_27 : decode cL_advance 27 = .ok (.iconst 3, 1) := by decide +kernel
theorem dL_advance_28 : decode cL_advance 28 = .ok (.ireturn, 1) := by decide +kernel
theorem dL_advance_29 : decode cL_advance 29 = .ok (.iconst 0, 1) := by decide +kernel
theorem dL_advance_30 : decode cL_advance 30 = .ok (.ireturn, 1) := by decide +kernel
set_option maxRecDepth 20000 in
theorem ggL_abort_X6_abort : GoodIn wsL_abort wsX6_abort := goodIn_ca (goodIn_ca (goodIn_ca (goodIn_r _ [8, 9, 10, 11, 12, 13, 14, 15, 7, 16, 17, 18, 19, 20, 21, 22, 23, 24, 25, 26, 27, 28, 29, 30, 31, 32, 33, 34, 35, 36, 37, 38, 39, 40, 41, 42, 43, 44, 45, 46, 47, 48, 49, 50, 51, 52, 53, 54, 55, 56, 57, 58, 59, 60, 61, 62, 63, 64, 65, 66, 67, 68, 69, 70, 71, 72, 73, 74, 75, 76, 77, 78, 79, 80, 81, 82, 83, 84, 85, 86] (by decide +kernel) (by decide +kernel)) (goodIn_sub (fun _ h => List.mem_cons_of_mem _ (List.mem_append_left _ (List.mem_append_left _ (List.mem_append_right _ h)))) (by decide +kernel))) (goodIn_sub (fun _ h => List.mem_cons_of_mem _ (List.mem_append_left _ (List.mem_append_right _ h))) (by decide +kernel))) (goodIn_sub (fun _ h => List.mem_cons_of_mem _ (List.mem_append_right _ h)) (by decide +kernel))
set_option maxRecDepth 20000 in
theorem gL_abort_X6_abort : GoodIn wsL_abort (wsV RL 63 RX6 yX6_abort wsX6_abort) := goodIn_app (goodIn_of _ (by decide +kernel)) ggL_abort_X6_abort
theorem dL_abort_0 : decode cL_abort 0 = .ok (.aload 4, 2) := by decide +kernel
theorem dL_abort_2 : decode cL_abort 2 = .ok (.iconst 0, 1) := by decide +kernel
theorem dL_abort_3 : decode cL_abort 3 = .ok (.aload_n 0, 1) := by decide +kernel
theorem dL_abort_4 : decode cL_abort 4 = .ok (.iload_n 1, 1) := by decide +kernel
theorem dL_abort_5 : decode cL_abort 5 = .ok (.iload_n 2, 1) := by decide +kernel
theorem dL_abort_6 : decode cL_abort 6 = .ok (.iload_n 3, 1) := by decide +kernel
theorem dL_abort_7 : decode cL_abort 7 = .ok (.invokevirtual 63, 3) := by decide +kernel
theorem dL_abort_10 : decode cL_abort 10 = .ok (.i2l, 1) := by decide +kernel
theorem dL_abort_11 : decode cL_abort 11 = .ok (.lastore, 1) := by decide +kernel
theorem dL_abort_12 : decode cL_abort 12 = .ok (.goto 15, 3) := by decide +kernel
theorem dL_abort_15 : decode cL_abort 15 = .ok (.astore 5, 2) := by decide +kernel
theorem dL_abort_17 : decode cL_abort 17 = .ok (.iconst 1, 1) := by decide +kernel
theorem dL_abort_18 : decode cL_abort 18 = .ok (.ireturn, 1) := by decide +kernel
theorem dL_abort_19 : decode cL_abort 19 = .ok (.astore 5, 2) := by decide +kernel
theorem dL_abort_21 : decode cL_abort 21 = .ok (.iconst 2, 1) := by decide +kernel
theorem dL_abort_22 : decode cL_abort 22 = .ok (.ireturn, 1) := by decide +kernel
theorem dL_abort_23 : decode cL_abort 23 = .ok (.astore 5, 2) := by decide +kernel
theorem dL_abort_25 : decode cL_abort 25 = .ok (.iconst 3, 1) := by decide +kernel
theorem dL_abort_26 : decode cL_abort 26 = .ok (.ireturn, 1) := by decide +kernel
theorem dL_abort_27 : decode cL_abort 27 = .ok (.iconst 0, 1) := by decide +kernel
theorem dL_abort_28 : decode cL_abort 28 = .ok (.ireturn, 1) := by decide +kernel
set_option maxRecDepth 20000 in
theorem ggL_shareOf_X6_shareOf : GoodIn wsL_shareOf wsX6_shareOf := goodIn_ca (goodIn_r _ [6, 7, 8, 9, 10, 11, 5, 12, 13, 14, 15, 16, 17, 18, 19, 20, 21, 22, 23, 24, 25, 26, 27, 28, 29, 30, 31, 32, 33, 34, 35, 36, 37, 38, 39, 40, 41, 42, 43, 44, 45, 46, 47, 48, 49, 50, 51, 52, 53, 54, 55, 56, 57, 58, 59, 60, 61, 62, 63, 64] (by decide +kernel) (by decide +kernel)) (goodIn_sub (fun _ h => List.mem_cons_of_mem _ (List.mem_append_right _ h)) (by decide +kernel))
set_option maxRecDepth 20000 in
theorem gL_shareOf_X6_shareOf : GoodIn wsL_shareOf (wsV RL 66 RX6 yX6_shareOf wsX6_shareOf) := goodIn_app (goodIn_of _ (by decide +kernel)) ggL_shareOf_X6_shareOf
theorem dL_shareOf_0 : decode cL_shareOf 0 = .ok (.aload_n 3, 1) := by decide +kernel
theorem dL_shareOf_1 : decode cL_shareOf 1 = .ok (.iconst 0, 1) := by decide +kernel
theorem dL_shareOf_2 : decode cL_shareOf 2 = .ok (.aload_n 0, 1) := by decide +kernel
theorem dL_shareOf_3 : decode cL_shareOf 3 = .ok (.iload_n 1, 1) := by decide +kernel
theorem dL_shareOf_4 : decode cL_shareOf 4 = .ok (.iload_n 2, 1) := by decide +kernel
theorem dL_shareOf_5 : decode cL_shareOf 5 = .ok (.invokevirtual 66, 3) := by decide +kernel
theorem dL_shareOf_8 : decode cL_shareOf 8 = .ok (.i2l, 1) := by decide +kernel
theorem dL_shareOf_9 : decode cL_shareOf 9 = .ok (.lastore, 1) := by decide +kernel
theorem dL_shareOf_10 : decode cL_shareOf 10 = .ok (.goto 7, 3) := by decide +kernel
theorem dL_shareOf_13 : decode cL_shareOf 13 = .ok (.astore 4, 2) := by decide +kernel
theorem dL_shareOf_15 : decode cL_shareOf 15 = .ok (.iconst 1, 1) := by decide +kernel
theorem dL_shareOf_16 : decode cL_shareOf 16 = .ok (.ireturn, 1) := by decide +kernel
theorem dL_shareOf_17 : decode cL_shareOf 17 = .ok (.iconst 0, 1) := by decide +kernel
theorem dL_shareOf_18 : decode cL_shareOf 18 = .ok (.ireturn, 1) := by decide +kernel
set_option maxRecDepth 20000 in
theorem ggL_lock_X6_lock : GoodIn wsL_lock wsX6_lock := goodIn_ca (goodIn_ca (goodIn_ca (goodIn_r _ [8, 9, 10, 11, 12, 13, 7, 14, 15, 16, 17, 18, 19, 20, 21, 22, 23, 24, 25, 26, 27, 28, 29, 30, 31, 32, 33, 34, 35, 36, 37, 38, 39, 40, 41, 42, 43, 44, 45, 46, 47, 48, 49, 50, 51, 52, 53, 54, 55, 56, 57, 58, 59, 60, 61, 62, 63, 64, 65, 66, 67, 68, 69, 70, 71, 72, 73, 74, 75, 76, 77, 78, 79, 80, 81, 82, 83, 84, 85, 86, 87, 88, 89, 90, 91, 92, 93, 94, 95, 96, 97, 98, 99, 100, 101] (by decide +kernel) (by decide +kernel)) (goodIn_sub (fun _ h => List.mem_cons_of_mem _ (List.mem_append_left _ (List.mem_append_left _ (List.mem_append_right _ h)))) (by decide +kernel))) (goodIn_sub (fun _ h => List.mem_cons_of_mem _ (List.mem_append_left _ (List.mem_append_right _ h))) (by decide +kernel))) (goodIn_sub (fun _ h => List.mem_cons_of_mem _ (List.mem_append_right _ h)) (by decide +kernel))
set_option maxRecDepth 20000 in
theorem gL_lock_X6_lock : GoodIn wsL_lock (wsV RL 69 RX6 yX6_lock wsX6_lock) := goodIn_app (goodIn_of _ (by decide +kernel)) ggL_lock_X6_lock
theorem dL_lock_0 : decode cL_lock 0 = .ok (.aload 4, 2) := by decide +kernel
theorem dL_lock_2 : decode cL_lock 2 = .ok (.iconst 0, 1) := by decide +kernel
theorem dL_lock_3 : decode cL_lock 3 = .ok (.aload_n 0, 1) := by decide +kernel
theorem dL_lock_4 : decode cL_lock 4 = .ok (.iload_n 1, 1) := by decide +kernel
theorem dL_lock_5 : decode cL_lock 5 = .ok (.iload_n 2, 1) := by decide +kernel
theorem dL_lock_6 : decode cL_lock 6 = .ok (.iload_n 3, 1) := by decide +kernel
theorem dL_lock_7 : decode cL_lock 7 = .ok (.invokevirtual 69, 3) := by decide +kernel
theorem dL_lock_10 : decode cL_lock 10 = .ok (.i2l, 1) := by decide +kernel
theorem dL_lock_11 : decode cL_lock 11 = .ok (.lastore, 1) := by decide +kernel
theorem dL_lock_12 : decode cL_lock 12 = .ok (.goto 15, 3) := by decide +kernel
theorem dL_lock_15 : decode cL_lock 15 = .ok (.astore 5, 2) := by decide +kernel
theorem dL_lock_17 : decode cL_lock 17 = .ok (.iconst 1, 1) := by decide +kernel
theorem dL_lock_18 : decode cL_lock 18 = .ok (.ireturn, 1) := by decide +kernel
theorem dL_lock_19 : decode cL_lock 19 = .ok (.astore 5, 2) := by decide +kernel
theorem dL_lock_21 : decode cL_lock 21 = .ok (.iconst 2, 1) := by decide +kernel
theorem dL_lock_22 : decode cL_lock 22 = .ok (.ireturn, 1) := by decide +kernel
theorem dL_lock_23 : decode cL_lock 23 = .ok (.astore 5, 2) := by decide +kernel
theorem dL_lock_25 : decode cL_lock 25 = .ok (.iconst 3, 1) := by decide +kernel
theorem dL_lock_26 : decode cL_lock 26 = .ok (.ireturn, 1) := by decide +kernel
theorem dL_lock_27 : decode cL_lock 27 = .ok (.iconst 0, 1) := by decide +kernel
theorem dL_lock_28 : decode cL_lock 28 = .ok (.ireturn, 1) := by decide +kernel
set_option maxRecDepth 20000 in
theorem ggL_unlock_X6_unlock : GoodIn wsL_unlock wsX6_unlock := goodIn_ca (goodIn_ca (goodIn_ca (goodIn_r _ [8, 9, 10, 11, 12, 13, 7, 14, 15, 16, 17, 18, 19, 20, 21, 22, 23, 24, 25, 26, 27, 28, 29, 30, 31, 32, 33, 34, 35, 36, 37, 38, 39, 40, 41, 42, 43, 44, 45, 46, 47, 48, 49, 50, 51, 52, 53, 54, 55, 56, 57, 58, 59, 60, 61, 62, 63, 64, 65, 66, 67, 68, 69, 70, 71, 72, 73, 74, 75, 76, 77, 78, 79, 80, 81, 82, 83, 84, 85, 86, 87, 88, 89] (by decide +kernel) (by decide +kernel)) (goodIn_sub (fun _ h => List.mem_cons_of_mem _ (List.mem_append_left _ (List.mem_append_left _ (List.mem_append_right _ h)))) (by decide +kernel))) (goodIn_sub (fun _ h => List.mem_cons_of_mem _ (List.mem_append_left _ (List.mem_append_right _ h))) (by decide +kernel))) (goodIn_sub (fun _ h => List.mem_cons_of_mem _ (List.mem_append_right _ h)) (by decide +kernel))
set_option maxRecDepth 20000 in
theorem gL_unlock_X6_unlock : GoodIn wsL_unlock (wsV RL 72 RX6 yX6_unlock wsX6_unlock) := goodIn_app (goodIn_of _ (by decide +kernel)) ggL_unlock_X6_unlock
theorem dL_unlock_0 : decode cL_unlock 0 = .ok (.aload 4, 2) := by decide +kernel
theorem dL_unlock_2 : decode cL_unlock 2 = .ok (.iconst 0, 1) := by decide +kernel
theorem dL_unlock_3 : decode cL_unlock 3 = .ok (.aload_n 0, 1) := by decide +kernel
theorem dL_unlock_4 : decode cL_unlock 4 = .ok (.iload_n 1, 1) := by decide +kernel
theorem dL_unlock_5 : decode cL_unlock 5 = .ok (.iload_n 2, 1) := by decide +kernel
theorem dL_unlock_6 : decode cL_unlock 6 = .ok (.iload_n 3, 1) := by decide +kernel
theorem dL_unlock_7 : decode cL_unlock 7 = .ok (.invokevirtual 72, 3) := by decide +kernel
theorem dL_unlock_10 : decode cL_unlock 10 = .ok (.i2l, 1) := by decide +kernel
theorem dL_unlock_11 : decode cL_unlock 11 = .ok (.lastore, 1) := by decide +kernel
theorem dL_unlock_12 : decode cL_unlock 12 = .ok (.goto 15, 3) := by decide +kernel
theorem dL_unlock_15 : decode cL_unlock 15 = .ok (.astore 5, 2) := by decide +kernel
theorem dL_unlock_17 : decode cL_unlock 17 = .ok (.iconst 1, 1) := by decide +kernel
theorem dL_unlock_18 : decode cL_unlock 18 = .ok (.ireturn, 1) := by decide +kernel
theorem dL_unlock_19 : decode cL_unlock 19 = .ok (.astore 5, 2) := by decide +kernel
theorem dL_unlock_21 : decode cL_unlock 21 = .ok (.iconst 2, 1) := by decide +kernel
theorem dL_unlock_22 : decode cL_unlock 22 = .ok (.ireturn, 1) := by decide +kernel
theorem dL_unlock_23 : decode cL_unlock 23 = .ok (.astore 5, 2) := by decide +kernel
theorem dL_unlock_25 : decode cL_unlock 25 = .ok (.iconst 3, 1) := by decide +kernel
theorem dL_unlock_26 : decode cL_unlock 26 = .ok (.ireturn, 1) := by decide +kernel
theorem dL_unlock_27 : decode cL_unlock 27 = .ok (.iconst 0, 1) := by decide +kernel
theorem dL_unlock_28 : decode cL_unlock 28 = .ok (.ireturn, 1) := by decide +kernel
set_option maxRecDepth 20000 in
theorem ggL_isLocked_X6_isLocked : GoodIn wsL_isLocked wsX6_isLocked := goodIn_ca (goodIn_ca (goodIn_r _ [7, 8, 9, 10, 11, 12, 6, 13, 14, 15, 16, 17, 18, 19, 20, 21, 22, 23, 24, 25, 26, 27, 28, 29, 30, 31, 32, 33, 34, 35, 36, 37, 38, 39, 40, 41, 42, 43, 44, 45, 46, 47, 48, 49, 50, 51, 52, 53, 54, 55, 56, 57, 58, 59, 60, 61, 62, 63, 64, 65, 66, 67, 68, 69, 70, 71, 72, 73, 74, 75, 76, 77, 78, 79, 80, 81] (by decide +kernel) (by decide +kernel)) (goodIn_sub (fun _ h => List.mem_cons_of_mem _ (List.mem_append_left _ (List.mem_append_right _ h))) (by decide +kernel))) (goodIn_sub (fun _ h => List.mem_cons_of_mem _ (List.mem_append_right _ h)) (by decide +kernel))
set_option maxRecDepth 20000 in
theorem gL_isLocked_X6_isLocked : GoodIn wsL_isLocked (wsV RL 75 RX6 yX6_isLocked wsX6_isLocked) := goodIn_app (goodIn_of _ (by decide +kernel)) ggL_isLocked_X6_isLocked
theorem dL_isLocked_0 : decode cL_isLocked 0 = .ok (.aload 4, 2) := by decide +kernel
theorem dL_isLocked_2 : decode cL_isLocked 2 = .ok (.iconst 0, 1) := by decide +kernel
theorem dL_isLocked_3 : decode cL_isLocked 3 = .ok (.aload_n 0, 1) := by decide +kernel
theorem dL_isLocked_4 : decode cL_isLocked 4 = .ok (.iload_n 1, 1) := by decide +kernel
theorem dL_isLocked_5 : decode cL_isLocked 5 = .ok (.iload_n 2, 1) := by decide +kernel
theorem dL_isLocked_6 : decode cL_isLocked 6 = .ok (.iload_n 3, 1) := by decide +kernel
theorem dL_isLocked_7 : decode cL_isLocked 7 = .ok (.invokevirtual 75, 3) := by decide +kernel
theorem dL_isLocked_10 : decode cL_isLocked 10 = .ok (.ifCond .eq 7, 3) := by decide +kernel
theorem dL_isLocked_13 : decode cL_isLocked 13 = .ok (.lconst 1, 1) := by decide +kernel
theorem dL_isLocked_14 : decode cL_isLocked 14 = .ok (.goto 4, 3) := by decide +kernel
theorem dL_isLocked_17 : decode cL_isLocked 17 = .ok (.lconst 0, 1) := by decide +kernel
theorem dL_isLocked_18 : decode cL_isLocked 18 = .ok (.lastore, 1) := by decide +kernel
theorem dL_isLocked_19 : decode cL_isLocked 19 = .ok (.goto 11, 3) := by decide +kernel
theorem dL_isLocked_22 : decode cL_isLocked 22 = .ok (.astore 5, 2) := by decide +kernel
theorem dL_isLocked_24 : decode cL_isLocked 24 = .ok (.iconst 1, 1) := by decide +kernel
theorem dL_isLocked_25 : decode cL_isLocked 25 = .ok (.ireturn, 1) := by decide +kernel
theorem dL_isLocked_26 : decode cL_isLocked 26 = .ok (.astore 5, 2) := by decide +kernel
theorem dL_isLocked_28 : decode cL_isLocked 28 = .ok (.iconst 2, 1) := by decide +kernel
theorem dL_isLocked_29 : decode cL_isLocked 29 = .ok (.ireturn, 1) := by decide +kernel
theorem dL_isLocked_30 : decode cL_isLocked 30 = .ok (.iconst 0, 1) := by decide +kernel
theorem dL_isLocked_31 : decode cL_isLocked 31 = .ok (.ireturn, 1) := by decide +kernel
set_option maxRecDepth 20000 in
theorem ggL_changedAt_X6_changedAt : GoodIn wsL_changedAt wsX6_changedAt := goodIn_ca (goodIn_r _ [6, 7, 8, 9, 10, 11, 5, 12, 13, 14, 15, 16, 17, 18, 19, 20, 21, 22, 23, 24, 25, 26, 27, 28, 29, 30, 31, 32, 33, 34, 35, 36, 37, 38, 39, 40, 41, 42, 43, 44, 45, 46, 47, 48, 49, 50, 51, 52, 53, 54, 55, 56, 57, 58, 59, 60, 61, 62] (by decide +kernel) (by decide +kernel)) (goodIn_sub (fun _ h => List.mem_cons_of_mem _ (List.mem_append_right _ h)) (by decide +kernel))
set_option maxRecDepth 20000 in
theorem gL_changedAt_X6_changedAt : GoodIn wsL_changedAt (wsV RL 79 RX6 yX6_changedAt wsX6_changedAt) := goodIn_app (goodIn_of _ (by decide +kernel)) ggL_changedAt_X6_changedAt
theorem dL_changedAt_0 : decode cL_changedAt 0 = .ok (.aload_n 3, 1) := by decide +kernel
theorem dL_changedAt_1 : decode cL_changedAt 1 = .ok (.iconst 0, 1) := by decide +kernel
theorem dL_changedAt_2 : decode cL_changedAt 2 = .ok (.aload_n 0, 1) := by decide +kernel
theorem dL_changedAt_3 : decode cL_changedAt 3 = .ok (.iload_n 1, 1) := by decide +kernel
theorem dL_changedAt_4 : decode cL_changedAt 4 = .ok (.iload_n 2, 1) := by decide +kernel
theorem dL_changedAt_5 : decode cL_changedAt 5 = .ok (.invokevirtual 79, 3) := by decide +kernel
theorem dL_changedAt_8 : decode cL_changedAt 8 = .ok (.i2l, 1) := by decide +kernel
theorem dL_changedAt_9 : decode cL_changedAt 9 = .ok (.lastore, 1) := by decide +kernel
theorem dL_changedAt_10 : decode cL_changedAt 10 = .ok (.goto 7, 3) := by decide +kernel
theorem dL_changedAt_13 : decode cL_changedAt 13 = .ok (.astore 4, 2) := by decide +kernel
theorem dL_changedAt_15 : decode cL_changedAt 15 = .ok (.iconst 1, 1) := by decide +kernel
theorem dL_changedAt_16 : decode cL_changedAt 16 = .ok (.ireturn, 1) := by decide +kernel
theorem dL_changedAt_17 : decode cL_changedAt 17 = .ok (.iconst 0, 1) := by decide +kernel
theorem dL_changedAt_18 : decode cL_changedAt 18 = .ok (.ireturn, 1) := by decide +kernel
set_option maxRecDepth 20000 in
theorem ggL_rollback_X6_rollback : GoodIn wsL_rollback wsX6_rollback := goodIn_ca (goodIn_ca (goodIn_ca (goodIn_r _ [8, 9, 10, 11, 12, 13, 7, 14, 15, 16, 17, 18, 19, 20, 21, 22, 23, 24, 25, 26, 27, 28, 29, 30, 31, 32, 33, 34, 35, 36, 37, 38, 39, 40, 41, 42, 43, 44, 45, 46, 47, 48, 49, 50, 51, 52, 53, 54, 55, 56, 57, 58, 59, 60, 61, 62, 63, 64, 65, 66, 67, 68, 69, 70, 71, 72, 73, 74, 75, 76, 77, 78, 79, 80, 81, 82, 83, 84, 85, 86, 87, 88, 89, 90, 91, 92, 93, 94, 95, 96, 97, 98, 99, 100, 101, 102, 103, 104, 105, 106, 107, 108, 109, 110, 111, 112, 113, 114, 115, 116, 117, 118, 119, 120, 121, 122, 123, 124, 125, 126, 127, 128, 129, 130, 131, 132, 133, 134, 135, 136, 137, 138, 139, 140, 141, 142, 143, 144, 145, 146, 147, 148, 149, 150, 151, 152, 153, 154, 155, 156, 157, 158, 159, 160, 161, 162, 163, 164, 165, 166, 167, 168, 169] (by decide +kernel) (by decide +kernel)) (goodIn_sub (fun _ h => List.mem_cons_of_mem _ (List.mem_append_left _ (List.mem_append_left _ (List.mem_append_right _ h)))) (by decide +kernel))) (goodIn_sub (fun _ h => List.mem_cons_of_mem _ (List.mem_append_left _ (List.mem_append_right _ h))) (by decide +kernel))) (goodIn_sub (fun _ h => List.mem_cons_of_mem _ (List.mem_append_right _ h)) (by decide +kernel))
set_option maxRecDepth 20000 in
theorem gL_rollback_X6_rollback : GoodIn wsL_rollback (wsV RL 82 RX6 yX6_rollback wsX6_rollback) := goodIn_app (goodIn_of _ (by decide +kernel)) ggL_rollback_X6_rollback
theorem dL_rollback_0 : decode cL_rollback 0 = .ok (.aload_n 3, 1) := by decide +kernel
theorem dL_rollback_1 : decode cL_rollback 1 = .ok (.iconst 0, 1) := by decide +kernel
theorem dL_rollback_2 : decode cL_rollback 2 = .ok (.aload_n 0, 1) := by decide +kernel
theorem dL_rollback_3 : decode cL_rollback 3 = .ok (.iload_n 1, 1) := by decide +kernel
theorem dL_rollback_4 : decode cL_rollback 4 = .ok (.iload_n 2, 1) := by decide +kernel
theorem dL_rollback_5 : decode cL_rollback 5 = .ok (.invokevirtual 82, 3) := by decide +kernel
theorem dL_rollback_8 : decode cL_rollback 8 = .ok (.i2l, 1) := by decide +kernel
theorem dL_rollback_9 : decode cL_rollback 9 = .ok (.lastore, 1) := by decide +kernel
theorem dL_rollback_10 : decode cL_rollback 10 = .ok (.goto 15, 3) := by decide +kernel
theorem dL_rollback_13 : decode cL_rollback 13 = .ok (.astore 4, 2) := by decide +kernel
theorem dL_rollback_15 : decode cL_rollback 15 = .ok (.iconst 1, 1) := by decide +kernel
theorem dL_rollback_16 : decode cL_rollback 16 = .ok (.ireturn, 1) := by decide +kernel
theorem dL_rollback_17 : decode cL_rollback 17 = .ok (.astore 4, 2) := by decide +kernel
theorem dL_rollback_19 : decode cL_rollback 19 = .ok (.iconst 2, 1) := by decide +kernel
theorem dL_rollback_20 : decode cL_rollback 20 = .ok (.ireturn, 1) := by decide +kernel
theorem dL_rollback_21 : decode cL_rollback 21 = .ok (.astore 4, 2) := by decide +kernel
theorem dL_rollback_23 : decode cL_rollback 23 = .ok (.iconst 3, 1) := by decide +kernel
theorem dL_rollback_24 : decode cL_rollback 24 = .ok (.ireturn, 1) := by decide +kernel
theorem dL_rollback_25 : decode cL_rollback 25 = .ok (.iconst 0, 1) := by decide +kernel
theorem dL_rollback_26 : decode cL_rollback 26 = .ok (.ireturn, 1) := by decide +kernel
set_option maxRecDepth 20000 in
theorem ggL_value_X6_value : GoodIn wsL_value wsX6_value := goodIn_ca (goodIn_ca (goodIn_r _ [7, 8, 9, 10, 11, 6, 12, 13, 14, 15, 16, 17, 18, 19, 20, 21, 22, 23, 24, 25, 26, 27, 28, 29, 30, 31, 32, 33, 34, 35, 36, 37, 38, 39, 40, 41, 42, 43, 44, 45, 46, 47, 48, 49, 50, 51, 52, 53, 54, 55, 56, 57, 58, 59, 60, 61, 62, 63, 64, 65, 66, 67, 68, 69, 70, 71, 72, 73, 74, 75, 76, 77, 78, 79, 80, 81, 82, 83, 84, 85, 86, 87, 88, 89, 90, 91, 92, 93, 94, 95, 96, 97, 98, 99, 100, 101, 102, 103, 104, 105, 106, 107, 108, 109, 110, 111, 112, 113, 114, 115, 116, 117, 118, 119, 120, 121, 122, 123, 124, 125, 126, 127, 128, 129, 130, 131, 132, 133, 134, 135, 136, 137, 138, 139, 140, 141, 142, 143, 144, 145, 146, 147, 148, 149, 150, 151, 152, 153, 154, 155, 156, 157, 158, 159, 160, 161, 162, 163, 164, 165, 166, 167, 168, 169, 170, 171, 172, 173] (by decide +kernel) (by decide +kernel)) (goodIn_sub (fun _ h => List.mem_cons_of_mem _ (List.mem_append_left _ (List.mem_append_right _ h))) (by decide +kernel))) (goodIn_sub (fun _ h => List.mem_cons_of_mem _ (List.mem_append_right _ h)) (by decide +kernel))
set_option maxRecDepth 20000 in
theorem gL_value_X6_value : GoodIn wsL_value (wsV RL 85 RX6 yX6_value wsX6_value) := goodIn_app (goodIn_of _ (by decide +kernel)) ggL_value_X6_value
theorem dL_value_0 : decode cL_value 0 = .ok (.aload_n 3, 1) := by decide +kernel
theorem dL_value_1 : decode cL_value 1 = .ok (.iconst 0, 1) := by decide +kernel
theorem dL_value_2 : decode cL_value 2 = .ok (.aload_n 0, 1) := by decide +kernel
theorem dL_value_3 : decode cL_value 3 = .ok (.iload_n 1, 1) := by decide +kernel
theorem dL_value_4 : decode cL_value 4 = .ok (.iload_n 2, 1) := by decide +kernel
theorem dL_value_5 : decode cL_value 5 = .ok (.invokevirtual 85, 3) := by decide +kernel
theorem dL_value_8 : decode cL_value 8 = .ok (.lastore, 1) := by decide +kernel
theorem dL_value_9 : decode cL_value 9 = .ok (.goto 11, 3) := by decide +kernel
theorem dL_value_12 : decode cL_value 12 = .ok (.astore 4, 2) := by decide +kernel
theorem dL_value_14 : decode cL_value 14 = .ok (.iconst 1, 1) := by decide +kernel
theorem dL_value_15 : decode cL_value 15 = .ok (.ireturn, 1) := by decide +kernel
theorem dL_value_16 : decode cL_value 16 = .ok (.astore 4, 2) := by decide +kernel
theorem dL_value_18 : decode cL_value 18 = .ok (.iconst 2, 1) := by decide +kernel
theorem dL_value_19 : decode cL_value 19 = .ok (.ireturn, 1) := by decide +kernel
theorem dL_value_20 : decode cL_value 20 = .ok (.iconst 0, 1) := by decide +kernel
theorem dL_value_21 : decode cL_value 21 = .ok (.ireturn, 1) := by decide +kernel
set_option maxRecDepth 20000 in
theorem ggL_status_X6_status : GoodIn wsL_status wsX6_status := goodIn_ca (goodIn_r _ [6, 7, 8, 9, 10, 5, 11, 12, 13, 14, 15, 16, 17, 18, 19, 20, 21, 22, 23, 24, 25, 26, 27, 28, 29, 30, 31, 32, 33, 34, 35, 36, 37, 38, 39, 40, 41, 42, 43, 44, 45, 46, 47, 48, 49, 50, 51, 52, 53, 54, 55, 56, 57, 58, 59, 60, 61, 62, 63, 64, 65, 66, 67, 68, 69, 70, 71, 72, 73, 74, 75, 76, 77, 78, 79, 80, 81, 82, 83, 84, 85, 86, 87, 88, 89, 90, 91, 92, 93, 94, 95, 96, 97, 98, 99, 100, 101, 102, 103, 104, 105, 106, 107, 108, 109, 110, 111, 112, 113, 114, 115, 116, 117, 118, 119, 120, 121, 122, 123, 124, 125, 126, 127, 128, 129, 130, 131, 132, 133, 134, 135, 136, 137, 138, 139, 140, 141, 142, 143, 144, 145, 146, 147, 148, 149, 150, 151, 152, 153, 154, 155, 156, 157, 158, 159, 160, 161, 162, 163, 164, 165, 166, 167] (by decide +kernel) (by decide +kernel)) (goodIn_sub (fun _ h => List.mem_cons_of_mem _ (List.mem_append_right _ h)) (by decide +kernel))
set_option maxRecDepth 20000 in
theorem gL_status_X6_status : GoodIn wsL_status (wsV RL 89 RX6 yX6_status wsX6_status) := goodIn_app (goodIn_of _ (by decide +kernel)) ggL_status_X6_status
theorem dL_status_0 : decode cL_status 0 = .ok (.aload_n 3, 1) := by decide +kernel
theorem dL_status_1 : decode cL_status 1 = .ok (.iconst 0, 1) := by decide +kernel
theorem dL_status_2 : decode cL_status 2 = .ok (.aload_n 0, 1) := by decide +kernel
theorem dL_status_3 : decode cL_status 3 = .ok (.iload_n 1, 1) := by decide +kernel
theorem dL_status_4 : decode cL_status 4 = .ok (.iload_n 2, 1) := by decide +kernel
theorem dL_status_5 : decode cL_status 5 = .ok (.invokevirtual 89, 3) := by decide +kernel
theorem dL_status_8 : decode cL_status 8 = .ok (.i2l, 1) := by decide +kernel
theorem dL_status_9 : decode cL_status 9 = .ok (.lastore, 1) := by decide +kernel
theorem dL_status_10 : decode cL_status 10 = .ok (.goto 7, 3) := by decide +kernel
theorem dL_status_13 : decode cL_status 13 = .ok (.astore 4, 2) := by decide +kernel
theorem dL_status_15 : decode cL_status 15 = .ok (.iconst 1, 1) := by decide +kernel
theorem dL_status_16 : decode cL_status 16 = .ok (.ireturn, 1) := by decide +kernel
theorem dL_status_17 : decode cL_status 17 = .ok (.iconst 0, 1) := by decide +kernel
theorem dL_status_18 : decode cL_status 18 = .ok (.ireturn, 1) := by decide +kernel
set_option maxRecDepth 20000 in
theorem ggL_culprit_X6_culprit : GoodIn wsL_culprit wsX6_culprit := goodIn_ca (goodIn_r _ [6, 7, 8, 9, 10, 5, 11, 12, 13, 14, 15, 16, 17, 18, 19, 20, 21, 22, 23, 24, 25, 26, 27, 28, 29, 30, 31, 32, 33, 34, 35, 36, 37, 38, 39, 40, 41, 42, 43, 44, 45, 46, 47, 48, 49, 50, 51, 52, 53, 54, 55, 56, 57, 58, 59, 60, 61, 62, 63, 64, 65, 66, 67, 68, 69, 70, 71, 72, 73, 74, 75, 76, 77, 78, 79, 80, 81, 82, 83, 84, 85, 86, 87, 88, 89, 90, 91, 92, 93, 94, 95, 96, 97, 98, 99, 100, 101, 102, 103, 104, 105, 106, 107, 108, 109, 110, 111, 112, 113, 114, 115, 116, 117, 118, 119, 120, 121, 122, 123, 124, 125, 126, 127, 128, 129, 130, 131, 132, 133, 134, 135, 136, 137, 138, 139, 140, 141, 142, 143, 144, 145, 146, 147, 148, 149, 150, 151, 152, 153, 154, 155, 156, 157, 158, 159, 160, 161, 162, 163, 164, 165, 166, 167] (by decide +kernel) (by decide +kernel)) (goodIn_sub (fun _ h => List.mem_cons_of_mem _ (List.mem_append_right _ h)) (by decide +kernel))
set_option maxRecDepth 20000 in
theorem gL_culprit_X6_culprit : GoodIn wsL_culprit (wsV RL 92 RX6 yX6_culprit wsX6_culprit) := goodIn_app (goodIn_of _ (by decide +kernel)) ggL_culprit_X6_culprit
theorem dL_culprit_0 : decode cL_culprit 0 = .ok (.aload_n 3, 1) := by decide +kernel
theorem dL_culprit_1 : decode cL_culprit 1 = .ok (.iconst 0, 1) := by decide +kernel
theorem dL_culprit_2 : decode cL_culprit 2 = .ok (.aload_n 0, 1) := by decide +kernel
theorem dL_culprit_3 : decode cL_culprit 3 = .ok (.iload_n 1, 1) := by decide +kernel
theorem dL_culprit_4 : decode cL_culprit 4 = .ok (.iload_n 2, 1) := by decide +kernel
theorem dL_culprit_5 : decode cL_culprit 5 = .ok (.invokevirtual 92, 3) := by decide +kernel
theorem dL_culprit_8 : decode cL_culprit 8 = .ok (.i2l, 1) := by decide +kernel
theorem dL_culprit_9 : decode cL_culprit 9 = .ok (.lastore, 1) := by decide +kernel
theorem dL_culprit_10 : decode cL_culprit 10 = .ok (.goto 7, 3) := by decide +kernel
theorem dL_culprit_13 : decode cL_culprit 13 = .ok (.astore 4, 2) := by decide +kernel
theorem dL_culprit_15 : decode cL_culprit 15 = .ok (.iconst 1, 1) := by decide +kernel
theorem dL_culprit_16 : decode cL_culprit 16 = .ok (.ireturn, 1) := by decide +kernel
theorem dL_culprit_17 : decode cL_culprit 17 = .ok (.iconst 0, 1) := by decide +kernel
theorem dL_culprit_18 : decode cL_culprit 18 = .ok (.ireturn, 1) := by decide +kernel
set_option maxRecDepth 20000 in
theorem ggL_layerOf_X6_layerOf : GoodIn wsL_layerOf wsX6_layerOf := goodIn_ca (goodIn_r _ [6, 7, 8, 9, 10, 11, 5, 12, 13, 14, 15, 16, 17, 18, 19, 20, 21, 22, 23, 24, 25, 26, 27, 28, 29, 30, 31, 32, 33, 34, 35, 36, 37, 38, 39, 40, 41, 42, 43, 44, 45, 46, 47, 48, 49, 50, 51, 52, 53, 54, 55, 56, 57, 58, 59, 60, 61, 62, 63, 64, 65, 66, 67, 68, 69, 70, 71, 72, 73, 74, 75, 76, 77, 78, 79, 80, 81, 82, 83, 84, 85, 86, 87, 88, 89, 90, 91, 92, 93, 94, 95, 96, 97, 98, 99, 100, 101, 102, 103, 104, 105, 106, 107, 108, 109, 110, 111, 112, 113, 114, 115, 116, 117, 118, 119, 120, 121, 122, 123, 124, 125, 126, 127, 128] (by decide +kernel) (by decide +kernel)) (goodIn_sub (fun _ h => List.mem_cons_of_mem _ (List.mem_append_right _ h)) (by decide +kernel))
set_option maxRecDepth 20000 in
theorem gL_layerOf_X6_layerOf : GoodIn wsL_layerOf (wsV RL 95 RX6 yX6_layerOf wsX6_layerOf) := goodIn_app (goodIn_of _ (by decide +kernel)) ggL_layerOf_X6_layerOf
theorem dL_layerOf_0 : decode cL_layerOf 0 = .ok (.aload_n 3, 1) := by decide +kernel
theorem dL_layerOf_1 : decode cL_layerOf 1 = .ok (.iconst 0, 1) := by decide +kernel
theorem dL_layerOf_2 : decode cL_layerOf 2 = .ok (.aload_n 0, 1) := by decide +kernel
theorem dL_layerOf_3 : decode cL_layerOf 3 = .ok (.iload_n 1, 1) := by decide +kernel
theorem dL_layerOf_4 : decode cL_layerOf 4 = .ok (.iload_n 2, 1) := by decide +kernel
theorem dL_layerOf_5 : decode cL_layerOf 5 = .ok (.invokevirtual 95, 3) := by decide +kernel
theorem dL_layerOf_8 : decode cL_layerOf 8 = .ok (.i2l, 1) := by decide +kernel
theorem dL_layerOf_9 : decode cL_layerOf 9 = .ok (.lastore, 1) := by decide +kernel
theorem dL_layerOf_10 : decode cL_layerOf 10 = .ok (.goto 7, 3) := by decide +kernel
theorem dL_layerOf_13 : decode cL_layerOf 13 = .ok (.astore 4, 2) := by decide +kernel
theorem dL_layerOf_15 : decode cL_layerOf 15 = .ok (.iconst 1, 1) := by decide +kernel
theorem dL_layerOf_16 : decode cL_layerOf 16 = .ok (.ireturn, 1) := by decide +kernel
theorem dL_layerOf_17 : decode cL_layerOf 17 = .ok (.iconst 0, 1) := by decide +kernel
theorem dL_layerOf_18 : decode cL_layerOf 18 = .ok (.ireturn, 1) := by decide +kernel
set_option maxRecDepth 20000 in
theorem ggL_isNew_X6_isNew : GoodIn wsL_isNew wsX6_isNew := goodIn_ca (goodIn_r _ [6, 7, 8, 9, 10, 11, 12, 13, 5, 14, 15, 16, 17, 18, 19, 20, 21, 22, 23, 24, 25, 26, 27, 28, 29, 30, 31, 32, 33, 34, 35, 36, 37, 38, 39, 40, 41, 42, 43, 44, 45, 46, 47, 48, 49, 50, 51, 52, 53, 54, 55, 56, 57, 58, 59, 60, 61, 62, 63, 64, 65, 66, 67, 68, 69, 70, 71, 72, 73, 74, 75, 76, 77, 78, 79, 80, 81, 82, 83, 84, 85, 86, 87, 88, 89, 90, 91, 92, 93, 94, 95, 96, 97, 98, 99, 100, 101, 102, 103, 104, 105, 106, 107, 108, 109, 110, 111, 112, 113, 114, 115, 116, 117, 118, 119, 120, 121, 122, 123, 124, 125, 126, 127, 128] (by decide +kernel) (by decide +kernel)) (goodIn_sub (fun _ h => List.mem_cons_of_mem _ (List.mem_append_right _ h)) (by decide +kernel))
set_option maxRecDepth 20000 in
theorem gL_isNew_X6_isNew : GoodIn wsL_isNew (wsV RL 98 RX6 yX6_isNew wsX6_isNew) := goodIn_app (goodIn_of _ (by decide +kernel)) ggL_isNew_X6_isNew
theorem dL_isNew_0 : decode cL_isNew 0 = .ok (.aload_n 3, 1) := by decide +kernel
theorem dL_isNew_1 : decode cL_isNew 1 = .ok (.iconst 0, 1) := by decide +kernel
theorem dL_isNew_2 : decode cL_isNew 2 = .ok (.aload_n 0, 1) := by decide +kernel
theorem dL_isNew_3 : decode cL_isNew 3 = .ok (.iload_n 1, 1) := by decide +kernel
theorem dL_isNew_4 : decode cL_isNew 4 = .ok (.iload_n 2, 1) := by decide +kernel
theorem dL_isNew_5 : decode cL_isNew 5 = .ok (.invokevirtual 98, 3) := by decide +kernel
theorem dL_isNew_8 : decode cL_isNew 8 = .ok (.ifCond .eq 7, 3) := by decide +kernel
theorem dL_isNew_11 : decode cL_isNew 11 = .ok (.lconst 1, 1) := by decide +kernel
theorem dL_isNew_12 : decode cL_isNew 12 = .ok (.goto 4, 3) := by decide +kernel
theorem dL_isNew_15 : decode cL_isNew 15 = .ok (.lconst 0, 1) := by decide +kernel
theorem dL_isNew_16 : decode cL_isNew 16 = .ok (.lastore, 1) := by decide +kernel
theorem dL_isNew_17 : decode cL_isNew 17 = .ok (.goto 7, 3) := by decide +kernel
theorem dL_isNew_20 : decode cL_isNew 20 = .ok (.astore 4, 2) := by decide +kernel
theorem dL_isNew_22 : decode cL_isNew 22 = .ok (.iconst 1, 1) := by decide +kernel
theorem dL_isNew_23 : decode cL_isNew 23 = .ok (.ireturn, 1) := by decide +kernel
theorem dL_isNew_24 : decode cL_isNew 24 = .ok (.iconst 0, 1) := by decide +kernel
theorem dL_isNew_25 : decode cL_isNew 25 = .ok (.ireturn, 1) := by decide +kernel
set_option maxRecDepth 20000 in
theorem ggL_uses_X6_uses : GoodIn wsL_uses wsX6_uses := goodIn_ca (goodIn_r _ [6, 7, 8, 9, 10, 5, 11, 12, 13, 14, 15, 16, 17, 18, 19, 20, 21, 22, 23, 24, 25, 26, 27, 28, 29, 30, 31, 32, 33, 34, 35, 36, 37, 38, 39, 40, 41, 42, 43, 44, 45, 46, 47, 48, 49, 50, 51, 52, 53, 54, 55, 56, 57, 58, 59, 60, 61, 62, 63, 64, 65, 66, 67, 68, 69, 70, 71, 72, 73, 74, 75, 76, 77, 78, 79, 80, 81, 82, 83, 84, 85, 86, 87, 88, 89, 90, 91, 92, 93, 94, 95, 96, 97, 98, 99, 100, 101, 102, 103, 104, 105, 106, 107, 108, 109, 110, 111, 112, 113, 114, 115, 116, 117, 118, 119, 120, 121, 122, 123, 124, 125, 126, 127, 128, 129, 130, 131, 132, 133, 134, 135, 136, 137, 138, 139, 140, 141, 142, 143, 144, 145, 146, 147, 148, 149, 150, 151, 152, 153, 154, 155, 156, 157, 158, 159, 160, 161, 162, 163, 164, 165, 166, 167] (by decide +kernel) (by decide +kernel)) (goodIn_sub (fun _ h => List.mem_cons_of_mem _ (List.mem_append_right _ h)) (by decide +kernel))
set_option maxRecDepth 20000 in
theorem gL_uses_X6_uses : GoodIn wsL_uses (wsV RL 101 RX6 yX6_uses wsX6_uses) := goodIn_app (goodIn_of _ (by decide +kernel)) ggL_uses_X6_uses
theorem dL_uses_0 : decode cL_uses 0 = .ok (.aload_n 3, 1) := by decide +kernel
theorem dL_uses_1 : decode cL_uses 1 = .ok (.iconst 0, 1) := by decide +kernel
theorem dL_uses_2 : decode cL_uses 2 = .ok (.aload_n 0, 1) := by decide +kernel
theorem dL_uses_3 : decode cL_uses 3 = .ok (.iload_n 1, 1) := by decide +kernel
theorem dL_uses_4 : decode cL_uses 4 = .ok (.iload_n 2, 1) := by decide +kernel
theorem dL_uses_5 : decode cL_uses 5 = .ok (.invokevirtual 101, 3) := by decide +kernel
theorem dL_uses_8 : decode cL_uses 8 = .ok (.i2l, 1) := by decide +kernel
theorem dL_uses_9 : decode cL_uses 9 = .ok (.lastore, 1) := by decide +kernel
theorem dL_uses_10 : decode cL_uses 10 = .ok (.goto 7, 3) := by decide +kernel
theorem dL_uses_13 : decode cL_uses 13 = .ok (.astore 4, 2) := by decide +kernel
theorem dL_uses_15 : decode cL_uses 15 = .ok (.iconst 1, 1) := by decide +kernel
theorem dL_uses_16 : decode cL_uses 16 = .ok (.ireturn, 1) := by decide +kernel
theorem dL_uses_17 : decode cL_uses 17 = .ok (.iconst 0, 1) := by decide +kernel
theorem dL_uses_18 : decode cL_uses 18 = .ok (.ireturn, 1) := by decide +kernel
set_option maxRecDepth 20000 in
theorem ggL_found_X6_found : GoodIn wsL_found wsX6_found := goodIn_ca (goodIn_r _ [6, 7, 8, 9, 10, 5, 11, 12, 13, 14, 15, 16, 17, 18, 19, 20, 21, 22, 23, 24, 25, 26, 27, 28, 29, 30, 31, 32, 33, 34, 35, 36, 37, 38, 39, 40, 41, 42, 43, 44, 45, 46, 47, 48, 49, 50, 51, 52, 53, 54, 55, 56, 57, 58, 59, 60, 61, 62, 63, 64, 65, 66, 67, 68, 69, 70, 71, 72, 73, 74, 75, 76, 77, 78, 79, 80, 81, 82, 83, 84, 85, 86, 87, 88, 89, 90, 91, 92, 93, 94, 95, 96, 97, 98, 99, 100, 101, 102, 103, 104, 105, 106, 107, 108, 109, 110, 111, 112, 113, 114, 115, 116, 117, 118, 119, 120, 121, 122, 123, 124, 125, 126, 127, 128, 129, 130, 131, 132, 133, 134, 135, 136, 137, 138, 139, 140, 141, 142, 143, 144, 145, 146, 147, 148, 149, 150, 151, 152, 153, 154, 155, 156, 157, 158, 159, 160, 161, 162, 163, 164] (by decide +kernel) (by decide +kernel)) (goodIn_sub (fun _ h => List.mem_cons_of_mem _ (List.mem_append_right _ h)) (by decide +kernel))
set_option maxRecDepth 20000 in
theorem gL_found_X6_found : GoodIn wsL_found (wsV RL 104 RX6 yX6_found wsX6_found) := goodIn_app (goodIn_of _ (by decide +kernel)) ggL_found_X6_found
theorem dL_found_0 : decode cL_found 0 = .ok (.aload_n 2, 1) := by decide +kernel
theorem dL_found_1 : decode cL_found 1 = .ok (.iconst 0, 1) := by decide +kernel
theorem dL_found_2 : decode cL_found 2 = .ok (.aload_n 0, 1) := by decide +kernel
theorem dL_found_3 : decode cL_found 3 = .ok (.iload_n 1, 1) := by decide +kernel
theorem dL_found_4 : decode cL_found 4 = .ok (.invokevirtual 104, 3) := by decide +kernel
theorem dL_found_7 : decode cL_found 7 = .ok (.i2l, 1) := by decide +kernel
theorem dL_found_8 : decode cL_found 8 = .ok (.lastore, 1) := by decide +kernel
theorem dL_found_9 : decode cL_found 9 = .ok (.goto 6, 3) := by decide +kernel
theorem dL_found_12 : decode cL_found 12 = .ok (.astore_n 3, 1) := by decide +kernel
theorem dL_found_13 : decode cL_found 13 = .ok (.iconst 1, 1) := by decide +kernel
theorem dL_found_14 : decode cL_found 14 = .ok (.ireturn, 1) := by decide +kernel
theorem dL_found_15 : decode cL_found 15 = .ok (.iconst 0, 1) := by decide +kernel
theorem dL_found_16 : decode cL_found 16 = .ok (.ireturn, 1) := by decide +kernel
set_option maxRecDepth 20000 in
theorem ggL_differ_X6_differ : GoodIn wsL_differ wsX6_differ := goodIn_ca (goodIn_r _ [6, 7, 8, 9, 5, 10, 11, 12, 13, 14, 15, 16, 17, 18, 19, 20, 21, 22, 23, 24, 25, 26, 27, 28, 29, 30, 31, 32, 33, 34, 35, 36, 37, 38, 39, 40, 41, 42, 43, 44, 45, 46, 47, 48, 49, 50, 51, 52, 53, 54, 55, 56, 57, 58, 59, 60, 61, 62, 63, 64, 65, 66, 67, 68, 69, 70, 71, 72, 73, 74, 75, 76, 77, 78, 79, 80, 81, 82, 83, 84, 85, 86, 87, 88, 89, 90, 91, 92, 93, 94, 95, 96, 97, 98, 99, 100, 101, 102, 103, 104, 105, 106, 107, 108, 109, 110, 111, 112, 113, 114, 115, 116, 117, 118, 119, 120, 121, 122, 123, 124, 125, 126, 127, 128, 129, 130, 131, 132, 133, 134, 135, 136, 137, 138, 139, 140, 141, 142, 143, 144, 145, 146, 147, 148, 149, 150, 151, 152, 153, 154, 155, 156, 157, 158, 159, 160, 161, 162, 163, 164, 165, 166, 167, 168] (by decide +kernel) (by decide +kernel)) (goodIn_sub (fun _ h => List.mem_cons_of_mem _ (List.mem_append_right _ h)) (by decide +kernel))
set_option maxRecDepth 20000 in
theorem gL_differ_X6_differ : GoodIn wsL_differ (wsV RL 107 RX6 yX6_differ wsX6_differ) := goodIn_app (goodIn_of _ (by decide +kernel)) ggL_differ_X6_differ
theorem dL_differ_0 : decode cL_differ 0 = .ok (.aload_n 3, 1) := by decide +kernel
theorem dL_differ_1 : decode cL_differ 1 = .ok (.iconst 0, 1) := by decide +kernel
theorem dL_differ_2 : decode cL_differ 2 = .ok (.aload_n 0, 1) := by decide +kernel
theorem dL_differ_3 : decode cL_differ 3 = .ok (.iload_n 1, 1) := by decide +kernel
theorem dL_differ_4 : decode cL_differ 4 = .ok (.iload_n 2, 1) := by decide +kernel
theorem dL_differ_5 : decode cL_differ 5 = .ok (.invokevirtual 107, 3) := by decide +kernel
theorem dL_differ_8 : decode cL_differ 8 = .ok (.i2l, 1) := by decide +kernel
theorem dL_differ_9 : decode cL_differ 9 = .ok (.lastore, 1) := by decide +kernel
theorem dL_differ_10 : decode cL_differ 10 = .ok (.goto 7, 3) := by decide +kernel
theorem dL_differ_13 : decode cL_differ 13 = .ok (.astore 4, 2) := by decide +kernel
theorem dL_differ_15 : decode cL_differ 15 = .ok (.iconst 1, 1) := by decide +kernel
theorem dL_differ_16 : decode cL_differ 16 = .ok (.ireturn, 1) := by decide +kernel
theorem dL_differ_17 : decode cL_differ 17 = .ok (.iconst 0, 1) := by decide +kernel
theorem dL_differ_18 : decode cL_differ 18 = .ok (.ireturn, 1) := by decide +kernel
set_option maxRecDepth 20000 in
theorem ggL_statusAt_X6_statusAt : GoodIn wsL_statusAt wsX6_statusAt := goodIn_ca (goodIn_r _ [6, 7, 8, 9, 10, 5, 11, 12, 13, 14, 15, 16, 17, 18, 19, 20, 21, 22, 23, 24, 25, 26, 27, 28, 29, 30, 31, 32, 33, 34, 35, 36, 37, 38, 39, 40, 41, 42, 43, 44, 45, 46, 47, 48, 49, 50, 51, 52, 53, 54, 55, 56, 57, 58, 59, 60, 61, 62, 63, 64, 65, 66, 67, 68, 69, 70, 71, 72, 73, 74, 75, 76, 77, 78, 79, 80, 81, 82, 83, 84, 85, 86, 87, 88, 89, 90, 91, 92, 93, 94, 95, 96, 97, 98, 99, 100, 101, 102, 103, 104, 105, 106, 107, 108, 109, 110, 111, 112, 113, 114, 115, 116, 117, 118, 119, 120, 121, 122, 123, 124, 125, 126, 127, 128, 129, 130, 131, 132, 133, 134, 135, 136, 137, 138, 139, 140, 141, 142, 143, 144, 145, 146, 147, 148, 149, 150, 151, 152, 153, 154, 155, 156, 157, 158, 159, 160, 161, 162, 163, 164, 165, 166, 167, 168, 169, 170, 171, 172] (by decide +kernel) (by decide +kernel)) (goodIn_sub (fun _ h => List.mem_cons_of_mem _ (List.mem_append_right _ h)) (by decide +kernel))
set_option maxRecDepth 20000 in
theorem gL_statusAt_X6_statusAt : GoodIn wsL_statusAt (wsV RL 110 RX6 yX6_statusAt wsX6_statusAt) := goodIn_app (goodIn_of _ (by decide +kernel)) ggL_statusAt_X6_statusAt
theorem dL_statusAt_0 : decode cL_statusAt 0 = .ok (.aload 4, 2) := by decide +kernel
theorem dL_statusAt_2 : decode cL_statusAt 2 = .ok (.iconst 0, 1) := by decide +kernel
theorem dL_statusAt_3 : decode cL_statusAt 3 = .ok (.aload_n 0, 1) := by decide +kernel
theorem dL_statusAt_4 : decode cL_statusAt 4 = .ok (.iload_n 1, 1) := by decide +kernel
theorem dL_statusAt_5 : decode cL_statusAt 5 = .ok (.iload_n 2, 1) := by decide +kernel
theorem dL_statusAt_6 : decode cL_statusAt 6 = .ok (.iload_n 3, 1) := by decide +kernel
theorem dL_statusAt_7 : decode cL_statusAt 7 = .ok (.invokevirtual 110, 3) := by decide +kernel
theorem dL_statusAt_10 : decode cL_statusAt 10 = .ok (.i2l, 1) := by decide +kernel
theorem dL_statusAt_11 : decode cL_statusAt 11 = .ok (.lastore, 1) := by decide +kernel
theorem dL_statusAt_12 : decode cL_statusAt 12 = .ok (.goto 7, 3) := by decide +kernel
theorem dL_statusAt_15 : decode cL_statusAt 15 = .ok (.astore 5, 2) := by decide +kernel
theorem dL_statusAt_17 : decode cL_statusAt 17 = .ok (.iconst 1, 1) := by decide +kernel
theorem dL_statusAt_18 : decode cL_statusAt 18 = .ok (.ireturn, 1) := by decide +kernel
theorem dL_statusAt_19 : decode cL_statusAt 19 = .ok (.iconst 0, 1) := by decide +kernel
theorem dL_statusAt_20 : decode cL_statusAt 20 = .ok (.ireturn, 1) := by decide +kernel
set_option maxRecDepth 20000 in
theorem ggL_valueAt_X6_valueAt : GoodIn wsL_valueAt wsX6_valueAt := goodIn_ca (goodIn_ca (goodIn_r _ [7, 8, 9, 10, 11, 6, 12, 13, 14, 15, 16, 17, 18, 19, 20, 21, 22, 23, 24, 25, 26, 27, 28, 29, 30, 31, 32, 33, 34, 35, 36, 37, 38, 39, 40, 41, 42, 43, 44, 45, 46, 47, 48, 49, 50, 51, 52, 53, 54, 55, 56, 57, 58, 59, 60, 61, 62, 63, 64, 65, 66, 67, 68, 69, 70, 71, 72, 73, 74, 75, 76, 77, 78, 79, 80, 81, 82, 83, 84, 85, 86, 87, 88, 89, 90, 91, 92, 93, 94, 95, 96, 97, 98, 99, 100, 101, 102, 103, 104, 105, 106, 107, 108, 109, 110, 111, 112, 113, 114, 115, 116, 117, 118, 119, 120, 121, 122, 123, 124, 125, 126, 127, 128, 129, 130, 131, 132, 133, 134, 135, 136, 137, 138, 139, 140, 141, 142, 143, 144, 145, 146, 147, 148, 149, 150, 151, 152, 153, 154, 155, 156, 157, 158, 159, 160, 161, 162, 163, 164, 165, 166, 167, 168, 169, 170, 171, 172, 173, 174, 175, 176, 177, 178] (by decide +kernel) (by decide +kernel)) (goodIn_sub (fun _ h => List.mem_cons_of_mem _ (List.mem_append_left _ (List.mem_append_right _ h))) (by decide +kernel))) (goodIn_sub (fun _ h => List.mem_cons_of_mem _ (List.mem_append_right _ h)) (by decide +kernel))
set_option maxRecDepth 20000 in
theorem gL_valueAt_X6_valueAt : GoodIn wsL_valueAt (wsV RL 113 RX6 yX6_valueAt wsX6_valueAt) := goodIn_app (goodIn_of _ (by decide +kernel)) ggL_valueAt_X6_valueAt
theorem dL_valueAt_0 : decode cL_valueAt 0 = .ok (.aload 4, 2) := by decide +kernel
theorem dL_valueAt_2 : decode cL_valueAt 2 = .ok (.iconst 0, 1) := by decide +kernel
theorem dL_valueAt_3 : decode cL_valueAt 3 = .ok (.aload_n 0, 1) := by decide +kernel
theorem dL_valueAt_4 : decode cL_valueAt 4 = .ok (.iload_n 1, 1) := by decide +kernel
theorem dL_valueAt_5 : decode cL_valueAt 5 = .ok (.iload_n 2, 1) := by decide +kernel
theorem dL_valueAt_6 : decode cL_valueAt 6 = .ok (.iload_n 3, 1) := by decide +kernel
theorem dL_valueAt_7 : decode cL_valueAt 7 = .ok (.invokevirtual 113, 3) := by decide +kernel
theorem dL_valueAt_10 : decode cL_valueAt 10 = .ok (.lastore, 1) := by decide +kernel
theorem dL_valueAt_11 : decode cL_valueAt 11 = .ok (.goto 11, 3) := by decide +kernel
theorem dL_valueAt_14 : decode cL_valueAt 14 = .ok (.astore 5, 2) := by decide +kernel
theorem dL_valueAt_16 : decode cL_valueAt 16 = .ok (.iconst 1, 1) := by decide +kernel
theorem dL_valueAt_17 : decode cL_valueAt 17 = .ok (.ireturn, 1) := by decide +kernel
theorem dL_valueAt_18 : decode cL_valueAt 18 = .ok (.astore 5, 2) := by decide +kernel
theorem dL_valueAt_20 : decode cL_valueAt 20 = .ok (.iconst 2, 1) := by decide +kernel
theorem dL_valueAt_21 : decode cL_valueAt 21 = .ok (.ireturn, 1) := by decide +kernel
theorem dL_valueAt_22 : decode cL_valueAt 22 = .ok (.iconst 0, 1) := by decide +kernel
theorem dL_valueAt_23 : decode cL_valueAt 23 = .ok (.ireturn, 1) := by decide +kernel
abbrev vwCl : List vw_C := [(RJx4a65c, TJx4a65c, 3), (RX0, TX0, 2), (RX1, TX1, 1), (RX2, TX2, 3), (RX3, TX3, 9), (RX4, TX4, 7), (RX5, TX5, 2), (RX6, TX6, 5), (RX7, TX7, 26)]
