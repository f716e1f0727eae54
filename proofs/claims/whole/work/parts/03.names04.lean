theorem dX7_versions_10 : decode cX7_versions 10 = .ok (.iconst 0, 1) := by decide +kernel
theorem dX7_versions_11 : decode cX7_versions 11 = .ok (.istore_n 1, 1) := by decide +kernel
theorem dX7_versions_12 : decode cX7_versions 12 = .ok (.iload_n 1, 1) := by decide +kernel
theorem dX7_versions_13 : decode cX7_versions 13 = .ok (.sipush 128, 3) := by decide +kernel
theorem dX7_versions_16 : decode cX7_versions 16 = .ok (.if_icmp .ge 30, 3) := by decide +kernel
theorem dX7_versions_19 : decode cX7_versions 19 = .ok (.aload_n 0, 1) := by decide +kernel
theorem dX7_versions_20 : decode cX7_versions 20 = .ok (.getfield 41, 3) := by decide +kernel
theorem dX7_versions_23 : decode cX7_versions 23 = .ok (.sipush 128, 3) := by decide +kernel
theorem dX7_versions_26 : decode cX7_versions 26 = .ok (.aload_n 0, 1) := by decide +kernel
theorem dX7_versions_27 : decode cX7_versions 27 = .ok (.getfield 94, 3) := by decide +kernel
theorem dX7_versions_30 : decode cX7_versions 30 = .ok (.imul, 1) := by decide +kernel
theorem dX7_versions_31 : decode cX7_versions 31 = .ok (.iload_n 1, 1) := by decide +kernel
theorem dX7_versions_32 : decode cX7_versions 32 = .ok (.iadd, 1) := by decide +kernel
theorem dX7_versions_33 : decode cX7_versions 33 = .ok (.aload_n 0, 1) := by decide +kernel
theorem dX7_versions_34 : decode cX7_versions 34 = .ok (.getfield 25, 3) := by decide +kernel
theorem dX7_versions_37 : decode cX7_versions 37 = .ok (.iload_n 1, 1) := by decide +kernel
theorem dX7_versions_38 : decode cX7_versions 38 = .ok (.iaload, 1) := by decide +kernel
theorem dX7_versions_39 : decode cX7_versions 39 = .ok (.iastore, 1) := by decide +kernel
theorem dX7_versions_40 : decode cX7_versions 40 = .ok (.iinc 1 1, 3) := by decide +kernel
theorem dX7_versions_43 : decode cX7_versions 43 = .ok (.goto (-31), 3) := by decide +kernel
theorem dX7_versions_46 : decode cX7_versions 46 = .ok (.return_, 1) := by decide +kernel
set_option maxRecDepth 20000 in
theorem ggX7_puts_X7_versions : GoodIn wsX7_puts wsX7_versions := goodIn_r _ [8, 3, 9, 1, 10, 11, 12, 13, 14, 15, 16, 17, 18, 19, 20, 21, 22, 23, 24, 25, 26, 27, 28, 29, 30, 31, 32, 33, 34, 35] (by decide +kernel) (by decide +kernel)
set_option maxRecDepth 20000 in
theorem gX7_puts_X7_versions : GoodIn wsX7_puts (wsV RX7 97 RX7 yX7_versions wsX7_versions) := goodIn_app (goodIn_of _ (by decide +kernel)) ggX7_puts_X7_versions
theorem dX7_puts_0 : decode cX7_puts 0 = .ok (.aload_n 0, 1) := by decide +kernel
theorem dX7_puts_1 : decode cX7_puts 1 = .ok (.getfield 25, 3) := by decide +kernel
theorem dX7_puts_4 : decode cX7_puts 4 = .ok (.iload_n 1, 1) := by decide +kernel
theorem dX7_puts_5 : decode cX7_puts 5 = .ok (.iaload, 1) := by decide +kernel
theorem dX7_puts_6 : decode cX7_puts 6 = .ok (.iload_n 2, 1) := by decide +kernel
theorem dX7_puts_7 : decode cX7_puts 7 = .ok (.if_icmp .eq 24, 3) := by decide +kernel
theorem dX7_puts_10 : decode cX7_puts 10 = .ok (.aload_n 0, 1) := by decide +kernel
theorem dX7_puts_11 : decode cX7_puts 11 = .ok (.getfield 25, 3) := by decide +kernel
theorem dX7_puts_14 : decode cX7_puts 14 = .ok (.iload_n 1, 1) := by decide +kernel
theorem dX7_puts_15 : decode cX7_puts 15 = .ok (.iload_n 2, 1) := by decide +kernel
theorem dX7_puts_16 : decode cX7_puts 16 = .ok (.iastore, 1) := by decide +kernel
theorem dX7_puts_17 : decode cX7_puts 17 = .ok (.aload_n 0, 1) := by decide +kernel
theorem dX7_puts_18 : decode cX7_puts 18 = .ok (.invokevirtual 97, 3) := by decide +kernel
theorem dX7_puts_21 : decode cX7_puts 21 = .ok (.aload_n 0, 1) := by decide +kernel
theorem dX7_puts_22 : decode cX7_puts 22 = .ok (.getfield 28, 3) := by decide +kernel
theorem dX7_puts_25 : decode cX7_puts 25 = .ok (.iload_n 1, 1) := by decide +kernel
theorem dX7_puts_26 : decode cX7_puts 26 = .ok (.aload_n 0, 1) := by decide +kernel
theorem dX7_puts_27 : decode cX7_puts 27 = .ok (.getfield 94, 3) := by decide +kernel
theorem dX7_puts_30 : decode cX7_puts 30 = .ok (.iastore, 1) := by decide +kernel
theorem dX7_puts_31 : decode cX7_puts 31 = .ok (.aload_n 0, 1) := by decide +kernel
theorem dX7_puts_32 : decode cX7_puts 32 = .ok (.getfield 94, 3) := by decide +kernel
theorem dX7_puts_35 : decode cX7_puts 35 = .ok (.ireturn, 1) := by decide +kernel
set_option maxRecDepth 20000 in
theorem ggX7_areSettings_X7_isSetting : GoodIn wsX7_areSettings wsX7_isSetting := goodIn_r _ [4, 5, 6, 3, 7] (by decide +kernel) (by decide +kernel)
set_option maxRecDepth 20000 in
theorem gX7_areSettings_X7_isSetting : GoodIn wsX7_areSettings (va_wsS RX7 100 yX7_isSetting wsX7_isSetting) := goodIn_app (goodIn_of _ (by decide +kernel)) ggX7_areSettings_X7_isSetting
theorem dX7_areSettings_0 : decode cX7_areSettings 0 = .ok (.iload_n 0, 1) := by decide +kernel
theorem dX7_areSettings_1 : decode cX7_areSettings 1 = .ok (.invokestatic 100, 3) := by decide +kernel
theorem dX7_areSettings_4 : decode cX7_areSettings 4 = .ok (.ifCond .eq 19, 3) := by decide +kernel
theorem dX7_areSettings_7 : decode cX7_areSettings 7 = .ok (.iload_n 1, 1) := by decide +kernel
theorem dX7_areSettings_8 : decode cX7_areSettings 8 = .ok (.iconst (-1), 1) := by decide +kernel
theorem dX7_areSettings_9 : decode cX7_areSettings 9 = .ok (.if_icmp .eq 10, 3) := by decide +kernel
theorem dX7_areSettings_12 : decode cX7_areSettings 12 = .ok (.iload_n 1, 1) := by decide +kernel
theorem dX7_areSettings_13 : decode cX7_areSettings 13 = .ok (.invokestatic 100, 3) := by decide +kernel
theorem dX7_areSettings_16 : decode cX7_areSettings 16 = .ok (.ifCond .eq 7, 3) := by decide +kernel
theorem dX7_areSettings_19 : decode cX7_areSettings 19 = .ok (.iconst 1, 1) := by decide +kernel
theorem dX7_areSettings_20 : decode cX7_areSettings 20 = .ok (.goto 4, 3) := by decide +kernel
theorem dX7_areSettings_23 : decode cX7_areSettings 23 = .ok (.iconst 0, 1) := by decide +kernel
theorem dX7_areSettings_24 : decode cX7_areSettings 24 = .ok (.ireturn, 1) := by decide +kernel
set_option maxRecDepth 20000 in
theorem ggX7_wrong_X7_isLayer : GoodIn wsX7_wrong wsX7_isLayer := goodIn_r _ [6, 7, 8, 9, 5, 10, 25, 26, 27, 28, 29, 30, 31, 32, 33, 34, 35, 36, 37, 38, 39, 40, 41, 42, 43, 44, 45, 46, 47, 48, 49, 50] (by decide +kernel) (by decide +kernel)
set_option maxRecDepth 20000 in
theorem gX7_wrong_X7_isLayer : GoodIn wsX7_wrong (wsV RX7 84 RX7 yX7_isLayer wsX7_isLayer) := goodIn_app (goodIn_of _ (by decide +kernel)) ggX7_wrong_X7_isLayer
set_option maxRecDepth 20000 in
theorem ggX7_wrong_X7_isSetting : GoodIn wsX7_wrong wsX7_isSetting := goodIn_r _ [13, 8, 9, 5, 10] (by decide +kernel) (by decide +kernel)
set_option maxRecDepth 20000 in
theorem gX7_wrong_X7_isSetting : GoodIn wsX7_wrong (va_wsS RX7 100 yX7_isSetting wsX7_isSetting) := goodIn_app (goodIn_of _ (by decide +kernel)) ggX7_wrong_X7_isSetting
set_option maxRecDepth 20000 in
theorem ggX7_wrong_X7_cell : GoodIn wsX7_wrong wsX7_cell := goodIn_r _ [16] (by decide +kernel) (by decide +kernel)
set_option maxRecDepth 20000 in
theorem gX7_wrong_X7_cell : GoodIn wsX7_wrong (va_wsS RX7 103 yX7_cell wsX7_cell) := goodIn_app (goodIn_of _ (by decide +kernel)) ggX7_wrong_X7_cell
set_option maxRecDepth 20000 in
theorem ggX7_wrong_X7_isOwner : GoodIn wsX7_wrong wsX7_isOwner := goodIn_r _ [19, 8, 9, 5, 10] (by decide +kernel) (by decide +kernel)
set_option maxRecDepth 20000 in
theorem gX7_wrong_X7_isOwner : GoodIn wsX7_wrong (va_wsS RX7 107 yX7_isOwner wsX7_isOwner) := goodIn_app (goodIn_of _ (by decide +kernel)) ggX7_wrong_X7_isOwner
set_option maxRecDepth 20000 in
theorem ggX7_wrong_X7_isLockedFor : GoodIn wsX7_wrong wsX7_isLockedFor := goodIn_r _ [23, 24, 25, 26, 27, 28, 29, 30, 31, 32, 33, 34, 35, 36, 37, 38, 39, 40, 41, 42, 43, 44, 45, 46, 47, 48, 49, 50] (by decide +kernel) (by decide +kernel)
set_option maxRecDepth 20000 in
theorem gX7_wrong_X7_isLockedFor : GoodIn wsX7_wrong (wsV RX7 110 RX7 yX7_isLockedFor wsX7_isLockedFor) := goodIn_app (goodIn_of _ (by decide +kernel)) ggX7_wrong_X7_isLockedFor
theorem dX7_wrong_0 : decode cX7_wrong 0 = .ok (.aload_n 0, 1) := by decide +kernel
theorem dX7_wrong_1 : decode cX7_wrong 1 = .ok (.iload_n 1, 1) := by decide +kernel
theorem dX7_wrong_2 : decode cX7_wrong 2 = .ok (.invokevirtual 84, 3) := by decide +kernel
theorem dX7_wrong_5 : decode cX7_wrong 5 = .ok (.ifCond .eq 10, 3) := by decide +kernel
theorem dX7_wrong_8 : decode cX7_wrong 8 = .ok (.iload_n 2, 1) := by decide +kernel
theorem dX7_wrong_9 : decode cX7_wrong 9 = .ok (.invokestatic 100, 3) := by decide +kernel
theorem dX7_wrong_12 : decode cX7_wrong 12 = .ok (.ifCond .ne 5, 3) := by decide +kernel
theorem dX7_wrong_15 : decode cX7_wrong 15 = .ok (.iconst 1, 1) := by decide +kernel
theorem dX7_wrong_16 : decode cX7_wrong 16 = .ok (.ireturn, 1) := by decide +kernel
theorem dX7_wrong_17 : decode cX7_wrong 17 = .ok (.iload_n 1, 1) := by decide +kernel
theorem dX7_wrong_18 : decode cX7_wrong 18 = .ok (.iload_n 2, 1) := by decide +kernel
theorem dX7_wrong_19 : decode cX7_wrong 19 = .ok (.invokestatic 103, 3) := by decide +kernel
theorem dX7_wrong_22 : decode cX7_wrong 22 = .ok (.istore 6, 2) := by decide +kernel
theorem dX7_wrong_24 : decode cX7_wrong 24 = .ok (.iload_n 3, 1) := by decide +kernel
theorem dX7_wrong_25 : decode cX7_wrong 25 = .ok (.ifCond .eq 11, 3) := by decide +kernel
theorem dX7_wrong_28 : decode cX7_wrong 28 = .ok (.iload 4, 2) := by decide +kernel
theorem dX7_wrong_30 : decode cX7_wrong 30 = .ok (.invokestatic 107, 3) := by decide +kernel
theorem dX7_wrong_33 : decode cX7_wrong 33 = .ok (.ifCond .ne 7, 3) := by decide +kernel
theorem dX7_wrong_36 : decode cX7_wrong 36 = .ok (.iconst 2, 1) := by decide +kernel
theorem dX7_wrong_37 : decode cX7_wrong 37 = .ok (.goto 39, 3) := by decide +kernel
theorem dX7_wrong_40 : decode cX7_wrong 40 = .ok (.aload_n 0, 1) := by decide +kernel
theorem dX7_wrong_41 : decode cX7_wrong 41 = .ok (.iload 6, 2) := by decide +kernel
theorem dX7_wrong_43 : decode cX7_wrong 43 = .ok (.iload 4, 2) := by decide +kernel
theorem dX7_wrong_45 : decode cX7_wrong 45 = .ok (.invokevirtual 110, 3) := by decide +kernel
theorem dX7_wrong_48 : decode cX7_wrong 48 = .ok (.ifCond .ne 23, 3) := by decide +kernel
theorem dX7_wrong_51 : decode cX7_wrong 51 = .ok (.aload_n 0, 1) := by decide +kernel
theorem dX7_wrong_52 : decode cX7_wrong 52 = .ok (.getfield 34, 3) := by decide +kernel
theorem dX7_wrong_55 : decode cX7_wrong 55 = .ok (.iload 6, 2) := by decide +kernel
theorem dX7_wrong_57 : decode cX7_wrong 57 = .ok (.iaload, 1) := by decide +kernel
theorem dX7_wrong_58 : decode cX7_wrong 58 = .ok (.ifCond .lt 7, 3) := by decide +kernel
theorem dX7_wrong_61 : decode cX7_wrong 61 = .ok (.iconst 1, 1) := by decide +kernel
theorem dX7_wrong_62 : decode cX7_wrong 62 = .ok (.goto 4, 3) := by decide +kernel
theorem dX7_wrong_65 : decode cX7_wrong 65 = .ok (.iconst 0, 1) := by decide +kernel
theorem dX7_wrong_66 : decode cX7_wrong 66 = .ok (.iload 5, 2) := by decide +kernel
theorem dX7_wrong_68 : decode cX7_wrong 68 = .ok (.if_icmp .eq 7, 3) := by decide +kernel
theorem dX7_wrong_71 : decode cX7_wrong 71 = .ok (.iconst 3, 1) := by decide +kernel
theorem dX7_wrong_72 : decode cX7_wrong 72 = .ok (.goto 4, 3) := by decide +kernel
theorem dX7_wrong_75 : decode cX7_wrong 75 = .ok (.iconst 0, 1) := by decide +kernel
theorem dX7_wrong_76 : decode cX7_wrong 76 = .ok (.ireturn, 1) := by decide +kernel
set_option maxRecDepth 20000 in
theorem ggX7_set_X7_isBase : GoodIn wsX7_set wsX7_isBase := goodIn_r _ [4, 5, 6, 3, 7] (by decide +kernel) (by decide +kernel)
set_option maxRecDepth 20000 in
theorem gX7_set_X7_isBase : GoodIn wsX7_set (va_wsS RX7 113 yX7_isBase wsX7_isBase) := goodIn_app (goodIn_of _ (by decide +kernel)) ggX7_set_X7_isBase
set_option maxRecDepth 20000 in
theorem ggX7_set_X7_wrong : GoodIn wsX7_set wsX7_wrong := goodIn_r _ [11, 12, 13, 14, 15, 3, 16, 17, 5, 6, 7, 18, 19, 20, 21, 22, 23, 24, 25, 26, 27, 28, 29, 30, 31, 52, 53, 54, 55, 56, 57, 58, 59, 60, 61, 62, 63, 64, 65, 66, 67, 68, 69, 70, 71, 72, 73, 74, 75, 76, 77] (by decide +kernel) (by decide +kernel)
set_option maxRecDepth 20000 in
theorem gX7_set_X7_wrong : GoodIn wsX7_set (wsV RX7 116 RX7 yX7_wrong wsX7_wrong) := goodIn_app (goodIn_of _ (by decide +kernel)) ggX7_set_X7_wrong
set_option maxRecDepth 20000 in
theorem ggX7_set_X7_goes : GoodIn wsX7_set wsX7_goes := goodIn_r _ [35, 36, 52, 53, 54, 55, 56, 57, 58, 59, 60, 61, 62, 63, 64, 65, 66, 67, 68, 69, 70, 71, 72, 73, 74, 75, 76, 77] (by decide +kernel) (by decide +kernel)
set_option maxRecDepth 20000 in
theorem gX7_set_X7_goes : GoodIn wsX7_set (wsV RX7 78 RX7 yX7_goes wsX7_goes) := goodIn_app (goodIn_of _ (by decide +kernel)) ggX7_set_X7_goes
set_option maxRecDepth 20000 in
theorem ggX7_set_X7_cell : GoodIn wsX7_set wsX7_cell := goodIn_r _ [23] (by decide +kernel) (by decide +kernel)
set_option maxRecDepth 20000 in
theorem gX7_set_X7_cell : GoodIn wsX7_set (va_wsS RX7 103 yX7_cell wsX7_cell) := goodIn_app (goodIn_of _ (by decide +kernel)) ggX7_set_X7_cell
set_option maxRecDepth 20000 in
theorem ggX7_set_X7_entry : GoodIn wsX7_set wsX7_entry := goodIn_r _ [39] (by decide +kernel) (by decide +kernel)
set_option maxRecDepth 20000 in
theorem gX7_set_X7_entry : GoodIn wsX7_set (va_wsS RX7 120 yX7_entry wsX7_entry) := goodIn_app (goodIn_of _ (by decide +kernel)) ggX7_set_X7_entry
set_option maxRecDepth 20000 in
theorem ggX7_set_X7_puts : GoodIn wsX7_set wsX7_puts := goodIn_r _ [43, 44, 45, 46, 47, 48, 49, 3, 50, 51, 52, 53, 54, 55, 56, 57, 58, 59, 60, 61, 62, 63, 64, 65, 66, 67, 68, 69, 70, 71, 72, 73, 74, 75, 76, 77] (by decide +kernel) (by decide +kernel)
set_option maxRecDepth 20000 in
theorem gX7_set_X7_puts : GoodIn wsX7_set (wsV RX7 124 RX7 yX7_puts wsX7_puts) := goodIn_app (goodIn_of _ (by decide +kernel)) ggX7_set_X7_puts
theorem dX7_set_0 : decode cX7_set 0 = .ok (.aload_n 0, 1) := by decide +kernel
theorem dX7_set_1 : decode cX7_set 1 = .ok (.aload_n 0, 1) := by decide +kernel
theorem dX7_set_2 : decode cX7_set 2 = .ok (.iload_n 1, 1) := by decide +kernel
theorem dX7_set_3 : decode cX7_set 3 = .ok (.iload_n 2, 1) := by decide +kernel
theorem dX7_set_4 : decode cX7_set 4 = .ok (.iload_n 3, 1) := by decide +kernel
theorem dX7_set_5 : decode cX7_set 5 = .ok (.invokestatic 113, 3) := by decide +kernel
theorem dX7_set_8 : decode cX7_set 8 = .ok (.iload 4, 2) := by decide +kernel
theorem dX7_set_10 : decode cX7_set 10 = .ok (.iconst 0, 1) := by decide +kernel
theorem dX7_set_11 : decode cX7_set 11 = .ok (.invokevirtual 116, 3) := by decide +kernel
theorem dX7_set_14 : decode cX7_set 14 = .ok (.invokevirtual 78, 3) := by decide +kernel
theorem dX7_set_17 : decode cX7_set 17 = .ok (.ifCond .eq 21, 3) := by decide +kernel
theorem dX7_set_20 : decode cX7_set 20 = .ok (.aload_n 0, 1) := by decide +kernel
theorem dX7_set_21 : decode cX7_set 21 = .ok (.iload_n 1, 1) := by decide +kernel
theorem dX7_set_22 : decode cX7_set 22 = .ok (.iload_n 2, 1) := by decide +kernel
theorem dX7_set_23 : decode cX7_set 23 = .ok (.invokestatic 103, 3) := by decide +kernel
theorem dX7_set_26 : decode cX7_set 26 = .ok (.iload_n 3, 1) := by decide +kernel
theorem dX7_set_27 : decode cX7_set 27 = .ok (.iconst (-1), 1) := by decide +kernel
theorem dX7_set_28 : decode cX7_set 28 = .ok (.iconst (-1), 1) := by decide +kernel
theorem dX7_set_29 : decode cX7_set 29 = .ok (.invokestatic 120, 3) := by decide +kernel
theorem dX7_set_32 : decode cX7_set 32 = .ok (.invokevirtual 124, 3) := by decide +kernel
theorem dX7_set_35 : decode cX7_set 35 = .ok (.goto 4, 3) := by decide +kernel
theorem dX7_set_38 : decode cX7_set 38 = .ok (.iconst 0, 1) := by decide +kernel
theorem dX7_set_39 : decode cX7_set 39 = .ok (.ireturn, 1) := by decide +kernel
set_option maxRecDepth 20000 in
theorem ggX7_template_X7_isBase : GoodIn wsX7_template wsX7_isBase := goodIn_r _ [4, 5, 6, 3, 7] (by decide +kernel) (by decide +kernel)
set_option maxRecDepth 20000 in
theorem gX7_template_X7_isBase : GoodIn wsX7_template (va_wsS RX7 113 yX7_isBase wsX7_isBase) := goodIn_app (goodIn_of _ (by decide +kernel)) ggX7_template_X7_isBase
set_option maxRecDepth 20000 in
theorem ggX7_template_X7_areSettings : GoodIn wsX7_template wsX7_areSettings := goodIn_r _ [10, 11, 12, 3, 13, 5, 6, 7] (by decide +kernel) (by decide +kernel)
set_option maxRecDepth 20000 in
theorem gX7_template_X7_areSettings : GoodIn wsX7_template (va_wsS RX7 127 yX7_areSettings wsX7_areSettings) := goodIn_app (goodIn_of _ (by decide +kernel)) ggX7_template_X7_areSettings
set_option maxRecDepth 20000 in
theorem ggX7_template_X7_wrong : GoodIn wsX7_template wsX7_wrong := goodIn_r _ [17, 18, 19, 20, 21, 3, 22, 23, 5, 6, 7, 11, 12, 13, 24, 25, 26, 27, 28, 29, 30, 31, 32, 33, 34, 55, 56, 57, 58, 59, 60, 61, 62, 63, 64, 65, 66, 67, 68, 69, 70, 71, 72, 73, 74, 75, 76, 77, 78, 79, 80] (by decide +kernel) (by decide +kernel)
set_option maxRecDepth 20000 in
theorem gX7_template_X7_wrong : GoodIn wsX7_template (wsV RX7 116 RX7 yX7_wrong wsX7_wrong) := goodIn_app (goodIn_of _ (by decide +kernel)) ggX7_template_X7_wrong
set_option maxRecDepth 20000 in
theorem ggX7_template_X7_goes : GoodIn wsX7_template wsX7_goes := goodIn_r _ [38, 39, 55, 56, 57, 58, 59, 60, 61, 62, 63, 64, 65, 66, 67, 68, 69, 70, 71, 72, 73, 74, 75, 76, 77, 78, 79, 80] (by decide +kernel) (by decide +kernel)
set_option maxRecDepth 20000 in
theorem gX7_template_X7_goes : GoodIn wsX7_template (wsV RX7 78 RX7 yX7_goes wsX7_goes) := goodIn_app (goodIn_of _ (by decide +kernel)) ggX7_template_X7_goes
set_option maxRecDepth 20000 in
theorem ggX7_template_X7_cell : GoodIn wsX7_template wsX7_cell := goodIn_r _ [26] (by decide +kernel) (by decide +kernel)
set_option maxRecDepth 20000 in
theorem gX7_template_X7_cell : GoodIn wsX7_template (va_wsS RX7 103 yX7_cell wsX7_cell) := goodIn_app (goodIn_of _ (by decide +kernel)) ggX7_template_X7_cell
set_option maxRecDepth 20000 in
theorem ggX7_template_X7_entry : GoodIn wsX7_template wsX7_entry := goodIn_r _ [42] (by decide +kernel) (by decide +kernel)
set_option maxRecDepth 20000 in
theorem gX7_template_X7_entry : GoodIn wsX7_template (va_wsS RX7 120 yX7_entry wsX7_entry) := goodIn_app (goodIn_of _ (by decide +kernel)) ggX7_template_X7_entry
set_option maxRecDepth 20000 in
theorem ggX7_template_X7_puts : GoodIn wsX7_template wsX7_puts := goodIn_r _ [46, 47, 48, 49, 50, 51, 52, 3, 53, 54, 55, 56, 57, 58, 59, 60, 61, 62, 63, 64, 65, 66, 67, 68, 69, 70, 71, 72, 73, 74, 75, 76, 77, 78, 79, 80] (by decide +kernel) (by decide +kernel)
set_option maxRecDepth 20000 in
theorem gX7_template_X7_puts : GoodIn wsX7_template (wsV RX7 124 RX7 yX7_puts wsX7_puts) := goodIn_app (goodIn_of _ (by decide +kernel)) ggX7_template_X7_puts
theorem dX7_template_0 : decode cX7_template 0 = .ok (.aload_n 0, 1) := by decide +kernel
theorem dX7_template_1 : decode cX7_template 1 = .ok (.aload_n 0, 1) := by decide +kernel
theorem dX7_template_2 : decode cX7_template 2 = .ok (.iload_n 1, 1) := by decide +kernel
theorem dX7_template_3 : decode cX7_template 3 = .ok (.iload_n 2, 1) := by decide +kernel
theorem dX7_template_4 : decode cX7_template 4 = .ok (.iload_n 3, 1) := by decide +kernel
theorem dX7_template_5 : decode cX7_template 5 = .ok (.invokestatic 113, 3) := by decide +kernel
theorem dX7_template_8 : decode cX7_template 8 = .ok (.ifCond .eq 17, 3) := by decide +kernel
theorem dX7_template_11 : decode cX7_template 11 = .ok (.iload 4, 2) := by decide +kernel
theorem dX7_template_13 : decode cX7_template 13 = .ok (.iload 5, 2) := by decide +kernel
theorem dX7_template_15 : decode cX7_template 15 = .ok (.invokestatic 127, 3) := by decide +kernel
theorem dX7_template_18 : decode cX7_template 18 = .ok (.ifCond .eq 7, 3) := by decide +kernel
theorem dX7_template_21 : decode cX7_template 21 = .ok (.iconst 1, 1) := by decide +kernel
theorem dX7_template_22 : decode cX7_template 22 = .ok (.goto 4, 3) := by decide +kernel
theorem dX7_template_25 : decode cX7_template 25 = .ok (.iconst 0, 1) := by decide +kernel
theorem dX7_template_26 : decode cX7_template 26 = .ok (.iload 6, 2) := by decide +kernel
theorem dX7_template_28 : decode cX7_template 28 = .ok (.iconst 0, 1) := by decide +kernel
theorem dX7_template_29 : decode cX7_template 29 = .ok (.invokevirtual 116, 3) := by decide +kernel
theorem dX7_template_32 : decode cX7_template 32 = .ok (.invokevirtual 78, 3) := by decide +kernel
theorem dX7_template_35 : decode cX7_template 35 = .ok (.ifCond .eq 23, 3) := by decide +kernel
theorem dX7_template_38 : decode cX7_template 38 = .ok (.aload_n 0, 1) := by decide +kernel
theorem dX7_template_39 : decode cX7_template 39 = .ok (.iload_n 1, 1) := by decide +kernel
theorem dX7_template_40 : decode cX7_template 40 = .ok (.iload_n 2, 1) := by decide +kernel
theorem dX7_template_41 : decode cX7_template 41 = .ok (.invokestatic 103, 3) := by decide +kernel
theorem dX7_template_44 : decode cX7_template 44 = .ok (.iload_n 3, 1) := by decide +kernel
theorem dX7_template_45 : decode cX7_template 45 = .ok (.iload 4, 2) := by decide +kernel
theorem dX7_template_47 : decode cX7_template 47 = .ok (.iload 5, 2) := by decide +kernel
theorem dX7_template_49 : decode cX7_template 49 = .ok (.invokestatic 120, 3) := by decide +kernel
theorem dX7_template_52 : decode cX7_template 52 = .ok (.invokevirtual 124, 3) := by decide +kernel
theorem dX7_template_55 : decode cX7_template 55 = .ok (.goto 4, 3) := by decide +kernel
theorem dX7_template_58 : decode cX7_template 58 = .ok (.iconst 0, 1) := by decide +kernel
theorem dX7_template_59 : decode cX7_template 59 = .ok (.ireturn, 1) := by decide +kernel
set_option maxRecDepth 20000 in
theorem ggX7_remove_X7_wrong : GoodIn wsX7_remove wsX7_wrong := goodIn_r _ [6, 7, 8, 9, 10, 5, 11, 12, 13, 14, 15, 16, 17, 18, 19, 20, 21, 22, 23, 24, 25, 26, 27, 28, 29, 46, 47, 48, 49, 50, 51, 52, 53, 54, 55, 56, 57, 58, 59, 60, 61, 62, 63, 64, 65, 66, 67, 68, 69, 70, 71] (by decide +kernel) (by decide +kernel)
set_option maxRecDepth 20000 in
theorem gX7_remove_X7_wrong : GoodIn wsX7_remove (wsV RX7 116 RX7 yX7_wrong wsX7_wrong) := goodIn_app (goodIn_of _ (by decide +kernel)) ggX7_remove_X7_wrong
set_option maxRecDepth 20000 in
theorem ggX7_remove_X7_goes : GoodIn wsX7_remove wsX7_goes := goodIn_r _ [33, 34, 46, 47, 48, 49, 50, 51, 52, 53, 54, 55, 56, 57, 58, 59, 60, 61, 62, 63, 64, 65, 66, 67, 68, 69, 70, 71] (by decide +kernel) (by decide +kernel)
set_option maxRecDepth 20000 in
theorem gX7_remove_X7_goes : GoodIn wsX7_remove (wsV RX7 78 RX7 yX7_goes wsX7_goes) := goodIn_app (goodIn_of _ (by decide +kernel)) ggX7_remove_X7_goes
set_option maxRecDepth 20000 in
theorem ggX7_remove_X7_cell : GoodIn wsX7_remove wsX7_cell := goodIn_r _ [21] (by decide +kernel) (by decide +kernel)
set_option maxRecDepth 20000 in
theorem gX7_remove_X7_cell : GoodIn wsX7_remove (va_wsS RX7 103 yX7_cell wsX7_cell) := goodIn_app (goodIn_of _ (by decide +kernel)) ggX7_remove_X7_cell
set_option maxRecDepth 20000 in
theorem ggX7_remove_X7_puts : GoodIn wsX7_remove wsX7_puts := goodIn_r _ [38, 1, 39, 40, 41, 42, 43, 5, 44, 45, 46, 47, 48, 49, 50, 51, 52, 53, 54, 55, 56, 57, 58, 59, 60, 61, 62, 63, 64, 65, 66, 67, 68, 69, 70, 71] (by decide +kernel) (by decide +kernel)
set_option maxRecDepth 20000 in
theorem gX7_remove_X7_puts : GoodIn wsX7_remove (wsV RX7 124 RX7 yX7_puts wsX7_puts) := goodIn_app (goodIn_of _ (by decide +kernel)) ggX7_remove_X7_puts
theorem dX7_remove_0 : decode cX7_remove 0 = .ok (.aload_n 0, 1) := by decide +kernel
theorem dX7_remove_1 : decode cX7_remove 1 = .ok (.aload_n 0, 1) := by decide +kernel
theorem dX7_remove_2 : decode cX7_remove 2 = .ok (.iload_n 1, 1) := by decide +kernel
theorem dX7_remove_3 : decode cX7_remove 3 = .ok (.iload_n 2, 1) := by decide +kernel
theorem dX7_remove_4 : decode cX7_remove 4 = .ok (.iconst 1, 1) := by decide +kernel
theorem dX7_remove_5 : decode cX7_remove 5 = .ok (.iload_n 3, 1) := by decide +kernel
theorem dX7_remove_6 : decode cX7_remove 6 = .ok (.iconst 0, 1) := by decide +kernel
theorem dX7_remove_7 : decode cX7_remove 7 = .ok (.invokevirtual 116, 3) := by decide +kernel
theorem dX7_remove_10 : decode cX7_remove 10 = .ok (.invokevirtual 78, 3) := by decide +kernel
theorem dX7_remove_13 : decode cX7_remove 13 = .ok (.ifCond .ne 5, 3) := by decide +kernel
theorem dX7_remove_16 : decode cX7_remove 16 = .ok (.iconst 0, 1) := by decide +kernel
theorem dX7_remove_17 : decode cX7_remove 17 = .ok (.ireturn, 1) := by decide +kernel
theorem dX7_remove_18 : decode cX7_remove 18 = .ok (.aload_n 0, 1) := by decide +kernel
theorem dX7_remove_19 : decode cX7_remove 19 = .ok (.aload_n 0, 1) := by decide +kernel
theorem dX7_remove_20 : decode cX7_remove 20 = .ok (.getfield 25, 3) := by decide +kernel
theorem dX7_remove_23 : decode cX7_remove 23 = .ok (.iload_n 1, 1) := by decide +kernel
theorem dX7_remove_24 : decode cX7_remove 24 = .ok (.iload_n 2, 1) := by decide +kernel
theorem dX7_remove_25 : decode cX7_remove 25 = .ok (.invokestatic 103, 3) := by decide +kernel
theorem dX7_remove_28 : decode cX7_remove 28 = .ok (.iaload, 1) := by decide +kernel
theorem dX7_remove_29 : decode cX7_remove 29 = .ok (.ifCond .ne 7, 3) := by decide +kernel
theorem dX7_remove_32 : decode cX7_remove 32 = .ok (.iconst 3, 1) := by decide +kernel
theorem dX7_remove_33 : decode cX7_remove 33 = .ok (.goto 4, 3) := by decide +kernel
theorem dX7_remove_36 : decode cX7_remove 36 = .ok (.iconst 0, 1) := by decide +kernel
theorem dX7_remove_37 : decode cX7_remove 37 = .ok (.invokevirtual 78, 3) := by decide +kernel
theorem dX7_remove_40 : decode cX7_remove 40 = .ok (.ifCond .eq 16, 3) := by decide +kernel
theorem dX7_remove_43 : decode cX7_remove 43 = .ok (.aload_n 0, 1) := by decide +kernel
theorem dX7_remove_44 : decode cX7_remove 44 = .ok (.iload_n 1, 1) := by decide +kernel
theorem dX7_remove_45 : decode cX7_remove 45 = .ok (.iload_n 2, 1) := by decide +kernel
theorem dX7_remove_46 : decode cX7_remove 46 = .ok (.invokestatic 103, 3) := by decide +kernel
theorem dX7_remove_49 : decode cX7_remove 49 = .ok (.iconst 0, 1) := by decide +kernel
theorem dX7_remove_50 : decode cX7_remove 50 = .ok (.invokevirtual 124, 3) := by decide +kernel
theorem dX7_remove_53 : decode cX7_remove 53 = .ok (.goto 4, 3) := by decide +kernel
theorem dX7_remove_56 : decode cX7_remove 56 = .ok (.iconst 0, 1) := by decide +kernel
theorem dX7_remove_57 : decode cX7_remove 57 = .ok (.ireturn, 1) := by decide +kernel
set_option maxRecDepth 20000 in
theorem ggX7_asksCell_X7_isLayer : GoodIn wsX7_asksCell wsX7_isLayer := goodIn_r _ [5, 6, 7, 8, 4, 9, 18, 19, 20, 21, 22, 23, 24, 25, 26, 27, 28, 29, 30, 31, 32, 33, 34, 35, 36, 37, 38, 39, 40, 41, 42, 43] (by decide +kernel) (by decide +kernel)
set_option maxRecDepth 20000 in
theorem gX7_asksCell_X7_isLayer : GoodIn wsX7_asksCell (wsV RX7 84 RX7 yX7_isLayer wsX7_isLayer) := goodIn_app (goodIn_of _ (by decide +kernel)) ggX7_asksCell_X7_isLayer
set_option maxRecDepth 20000 in
theorem ggX7_asksCell_X7_isSetting : GoodIn wsX7_asksCell wsX7_isSetting := goodIn_r _ [12, 7, 8, 4, 9] (by decide +kernel) (by decide +kernel)
set_option maxRecDepth 20000 in
theorem gX7_asksCell_X7_isSetting : GoodIn wsX7_asksCell (va_wsS RX7 100 yX7_isSetting wsX7_isSetting) := goodIn_app (goodIn_of _ (by decide +kernel)) ggX7_asksCell_X7_isSetting
set_option maxRecDepth 20000 in
theorem ggX7_asksCell_X7_goes : GoodIn wsX7_asksCell wsX7_goes := goodIn_r _ [16, 17, 18, 19, 20, 21, 22, 23, 24, 25, 26, 27, 28, 29, 30, 31, 32, 33, 34, 35, 36, 37, 38, 39, 40, 41, 42, 43] (by decide +kernel) (by decide +kernel)
set_option maxRecDepth 20000 in
theorem gX7_asksCell_X7_goes : GoodIn wsX7_asksCell (wsV RX7 78 RX7 yX7_goes wsX7_goes) := goodIn_app (goodIn_of _ (by decide +kernel)) ggX7_asksCell_X7_goes
theorem dX7_asksCell_0 : decode cX7_asksCell 0 = .ok (.aload_n 0, 1) := by decide +kernel
theorem dX7_asksCell_1 : decode cX7_asksCell 1 = .ok (.aload_n 0, 1) := by decide +kernel
theorem dX7_asksCell_2 : decode cX7_asksCell 2 = .ok (.iload_n 1, 1) := by decide +kernel
theorem dX7_asksCell_3 : decode cX7_asksCell 3 = .ok (.invokevirtual 84, 3) := by decide +kernel
theorem dX7_asksCell_6 : decode cX7_asksCell 6 = .ok (.ifCond .eq 14, 3) := by decide +kernel
theorem dX7_asksCell_9 : decode cX7_asksCell 9 = .ok (.iload_n 2, 1) := by decide +kernel
theorem dX7_asksCell_10 : decode cX7_asksCell 10 = .ok (.invokestatic 100, 3) := by decide +kernel
theorem dX7_asksCell_13 : decode cX7_asksCell 13 = .ok (.ifCond .eq 7, 3) := by decide +kernel
theorem dX7_asksCell_16 : decode cX7_asksCell 16 = .ok (.iconst 0, 1) := by decide +kernel
theorem dX7_asksCell_17 : decode cX7_asksCell 17 = .ok (.goto 4, 3) := by decide +kernel
theorem dX7_asksCell_20 : decode cX7_asksCell 20 = .ok (.iconst 1, 1) := by decide +kernel
theorem dX7_asksCell_21 : decode cX7_asksCell 21 = .ok (.invokevirtual 78, 3) := by decide +kernel
theorem dX7_asksCell_24 : decode cX7_asksCell 24 = .ok (.ireturn, 1) := by decide +kernel
set_option maxRecDepth 20000 in
theorem ggX7_has_X7_asksCell : GoodIn wsX7_has wsX7_asksCell := goodIn_r _ [6, 7, 8, 9, 5, 10, 11, 12, 13, 14, 15, 16, 17, 18, 19, 20, 21, 22, 26, 27, 28, 29, 30, 31, 32, 33, 34, 35, 36, 37, 38, 39, 40, 41, 42, 43, 44, 45, 46, 47, 48, 49, 50, 51] (by decide +kernel) (by decide +kernel)
set_option maxRecDepth 20000 in
theorem gX7_has_X7_asksCell : GoodIn wsX7_has (wsV RX7 130 RX7 yX7_asksCell wsX7_asksCell) := goodIn_app (goodIn_of _ (by decide +kernel)) ggX7_has_X7_asksCell
set_option maxRecDepth 20000 in
theorem ggX7_has_X7_cell : GoodIn wsX7_has wsX7_cell := goodIn_r _ [25] (by decide +kernel) (by decide +kernel)
set_option maxRecDepth 20000 in
theorem gX7_has_X7_cell : GoodIn wsX7_has (va_wsS RX7 103 yX7_cell wsX7_cell) := goodIn_app (goodIn_of _ (by decide +kernel)) ggX7_has_X7_cell
theorem dX7_has_0 : decode cX7_has 0 = .ok (.aload_n 0, 1) := by decide +kernel
theorem dX7_has_1 : decode cX7_has 1 = .ok (.iload_n 1, 1) := by decide +kernel
theorem dX7_has_2 : decode cX7_has 2 = .ok (.iload_n 2, 1) := by decide +kernel
theorem dX7_has_3 : decode cX7_has 3 = .ok (.invokevirtual 130, 3) := by decide +kernel
theorem dX7_has_6 : decode cX7_has 6 = .ok (.ifCond .eq 20, 3) := by decide +kernel
theorem dX7_has_9 : decode cX7_has 9 = .ok (.aload_n 0, 1) := by decide +kernel
theorem dX7_has_10 : decode cX7_has 10 = .ok (.getfield 25, 3) := by decide +kernel
theorem dX7_has_13 : decode cX7_has 13 = .ok (.iload_n 1, 1) := by decide +kernel
theorem dX7_has_14 : decode cX7_has 14 = .ok (.iload_n 2, 1) := by decide +kernel
theorem dX7_has_15 : decode cX7_has 15 = .ok (.invokestatic 103, 3) := by decide +kernel
theorem dX7_has_18 : decode cX7_has 18 = .ok (.iaload, 1) := by decide +kernel
theorem dX7_has_19 : decode cX7_has 19 = .ok (.ifCond .le 7, 3) := by decide +kernel
theorem dX7_has_22 : decode cX7_has 22 = .ok (.iconst 1, 1) := by decide +kernel
theorem dX7_has_23 : decode cX7_has 23 = .ok (.goto 4, 3) := by decide +kernel
theorem dX7_has_26 : decode cX7_has 26 = .ok (.iconst 0, 1) := by decide +kernel
theorem dX7_has_27 : decode cX7_has 27 = .ok (.ireturn, 1) := by decide +kernel
theorem dX7_rolls_0 : decode cX7_rolls 0 = .ok (.aload_n 0, 1) := by decide +kernel
theorem dX7_rolls_1 : decode cX7_rolls 1 = .ok (.getfield 31, 3) := by decide +kernel
theorem dX7_rolls_4 : decode cX7_rolls 4 = .ok (.iload_n 1, 1) := by decide +kernel
theorem dX7_rolls_5 : decode cX7_rolls 5 = .ok (.iload_n 2, 1) := by decide +kernel
theorem dX7_rolls_6 : decode cX7_rolls 6 = .ok (.iastore, 1) := by decide +kernel
theorem dX7_rolls_7 : decode cX7_rolls 7 = .ok (.aload_n 0, 1) := by decide +kernel
theorem dX7_rolls_8 : decode cX7_rolls 8 = .ok (.getfield 34, 3) := by decide +kernel
theorem dX7_rolls_11 : decode cX7_rolls 11 = .ok (.iload_n 1, 1) := by decide +kernel
theorem dX7_rolls_12 : decode cX7_rolls 12 = .ok (.iconst 0, 1) := by decide +kernel
theorem dX7_rolls_13 : decode cX7_rolls 13 = .ok (.iastore, 1) := by decide +kernel
theorem dX7_rolls_14 : decode cX7_rolls 14 = .ok (.return_, 1) := by decide +kernel
set_option maxRecDepth 20000 in
theorem ggX7_roll_X7_isBase : GoodIn wsX7_roll wsX7_isBase := goodIn_r _ [4, 5, 6, 3, 7] (by decide +kernel) (by decide +kernel)
set_option maxRecDepth 20000 in
theorem gX7_roll_X7_isBase : GoodIn wsX7_roll (va_wsS RX7 113 yX7_isBase wsX7_isBase) := goodIn_app (goodIn_of _ (by decide +kernel)) ggX7_roll_X7_isBase
set_option maxRecDepth 20000 in
theorem ggX7_roll_X7_wrong : GoodIn wsX7_roll wsX7_wrong := goodIn_r _ [11, 12, 13, 14, 15, 3, 16, 17, 5, 6, 7, 18, 19, 20, 21, 22, 23, 24, 25, 26, 27, 28, 29, 30, 31, 45, 46, 47, 48, 49, 50, 51, 52, 53, 54, 55, 56, 57, 58, 59, 60, 61, 62, 63, 64, 65, 66, 67, 68, 69, 70] (by decide +kernel) (by decide +kernel)
set_option maxRecDepth 20000 in
theorem gX7_roll_X7_wrong : GoodIn wsX7_roll (wsV RX7 116 RX7 yX7_wrong wsX7_wrong) := goodIn_app (goodIn_of _ (by decide +kernel)) ggX7_roll_X7_wrong
set_option maxRecDepth 20000 in
theorem ggX7_roll_X7_goes : GoodIn wsX7_roll wsX7_goes := goodIn_r _ [35, 36, 45, 46, 47, 48, 49, 50, 51, 52, 53, 54, 55, 56, 57, 58, 59, 60, 61, 62, 63, 64, 65, 66, 67, 68, 69, 70] (by decide +kernel) (by decide +kernel)
set_option maxRecDepth 20000 in
theorem gX7_roll_X7_goes : GoodIn wsX7_roll (wsV RX7 78 RX7 yX7_goes wsX7_goes) := goodIn_app (goodIn_of _ (by decide +kernel)) ggX7_roll_X7_goes
set_option maxRecDepth 20000 in
theorem ggX7_roll_X7_cell : GoodIn wsX7_roll wsX7_cell := goodIn_r _ [23] (by decide +kernel) (by decide +kernel)
set_option maxRecDepth 20000 in
theorem gX7_roll_X7_cell : GoodIn wsX7_roll (va_wsS RX7 103 yX7_cell wsX7_cell) := goodIn_app (goodIn_of _ (by decide +kernel)) ggX7_roll_X7_cell
set_option maxRecDepth 20000 in
theorem ggX7_roll_X7_entry : GoodIn wsX7_roll wsX7_entry := goodIn_r _ [39] (by decide +kernel) (by decide +kernel)
set_option maxRecDepth 20000 in
theorem gX7_roll_X7_entry : GoodIn wsX7_roll (va_wsS RX7 120 yX7_entry wsX7_entry) := goodIn_app (goodIn_of _ (by decide +kernel)) ggX7_roll_X7_entry
set_option maxRecDepth 20000 in
theorem ggX7_roll_X7_rolls : GoodIn wsX7_roll wsX7_rolls := goodIn_r _ [43, 44, 12, 45, 46, 47, 48, 49, 50, 51, 52, 53, 54, 55, 56, 57, 58, 59, 60, 61, 62, 63, 64, 65, 66, 67, 68, 69, 70] (by decide +kernel) (by decide +kernel)
set_option maxRecDepth 20000 in
theorem gX7_roll_X7_rolls : GoodIn wsX7_roll (wsV RX7 133 RX7 yX7_rolls wsX7_rolls) := goodIn_app (goodIn_of _ (by decide +kernel)) ggX7_roll_X7_rolls
theorem dX7_roll_0 : decode cX7_roll 0 = .ok (.aload_n 0, 1) := by decide +kernel
theorem dX7_roll_1 : decode cX7_roll 1 = .ok (.aload_n 0, 1) := by decide +kernel
theorem dX7_roll_2 : decode cX7_roll 2 = .ok (.iload_n 1, 1) := by decide +kernel
theorem dX7_roll_3 : decode cX7_roll 3 = .ok (.iload_n 2, 1) := by decide +kernel
theorem dX7_roll_4 : decode cX7_roll 4 = .ok (.iload_n 3, 1) := by decide +kernel
theorem dX7_roll_5 : decode cX7_roll 5 = .ok (.invokestatic 113, 3) := by decide +kernel
theorem dX7_roll_8 : decode cX7_roll 8 = .ok (.iload 4, 2) := by decide +kernel
theorem dX7_roll_10 : decode cX7_roll 10 = .ok (.iconst 0, 1) := by decide +kernel
theorem dX7_roll_11 : decode cX7_roll 11 = .ok (.invokevirtual 116, 3) := by decide +kernel
theorem dX7_roll_14 : decode cX7_roll 14 = .ok (.invokevirtual 78, 3) := by decide +kernel
theorem dX7_roll_17 : decode cX7_roll 17 = .ok (.ifCond .eq 18, 3) := by decide +kernel
theorem dX7_roll_20 : decode cX7_roll 20 = .ok (.aload_n 0, 1) := by decide +kernel
theorem dX7_roll_21 : decode cX7_roll 21 = .ok (.iload_n 1, 1) := by decide +kernel
theorem dX7_roll_22 : decode cX7_roll 22 = .ok (.iload_n 2, 1) := by decide +kernel
theorem dX7_roll_23 : decode cX7_roll 23 = .ok (.invokestatic 103, 3) := by decide +kernel
theorem dX7_roll_26 : decode cX7_roll 26 = .ok (.iload_n 3, 1) := by decide +kernel
theorem dX7_roll_27 : decode cX7_roll 27 = .ok (.iconst (-1), 1) := by decide +kernel
theorem dX7_roll_28 : decode cX7_roll 28 = .ok (.iconst (-1), 1) := by decide +kernel
theorem dX7_roll_29 : decode cX7_roll 29 = .ok (.invokestatic 120, 3) := by decide +kernel
theorem dX7_roll_32 : decode cX7_roll 32 = .ok (.invokevirtual 133, 3) := by decide +kernel
theorem dX7_roll_35 : decode cX7_roll 35 = .ok (.return_, 1) := by decide +kernel
set_option maxRecDepth 20000 in
theorem ggX7_rollTemplate_X7_isBase : GoodIn wsX7_rollTemplate wsX7_isBase := goodIn_r _ [4, 5, 6, 3, 7] (by decide +kernel) (by decide +kernel)
set_option maxRecDepth 20000 in
theorem gX7_rollTemplate_X7_isBase : GoodIn wsX7_rollTemplate (va_wsS RX7 113 yX7_isBase wsX7_isBase) := goodIn_app (goodIn_of _ (by decide +kernel)) ggX7_rollTemplate_X7_isBase
set_option maxRecDepth 20000 in
theorem ggX7_rollTemplate_X7_areSettings : GoodIn wsX7_rollTemplate wsX7_areSettings := goodIn_r _ [10, 11, 12, 3, 13, 5, 6, 7] (by decide +kernel) (by decide +kernel)
set_option maxRecDepth 20000 in
theorem gX7_rollTemplate_X7_areSettings : GoodIn wsX7_rollTemplate (va_wsS RX7 127 yX7_areSettings wsX7_areSettings) := goodIn_app (goodIn_of _ (by decide +kernel)) ggX7_rollTemplate_X7_areSettings
set_option maxRecDepth 20000 in
theorem ggX7_rollTemplate_X7_wrong : GoodIn wsX7_rollTemplate wsX7_wrong := goodIn_r _ [17, 18, 19, 20, 21, 3, 22, 23, 5, 6, 7, 11, 12, 13, 24, 25, 26, 27, 28, 29, 30, 31, 32, 33, 34, 48, 49, 50, 51, 52, 53, 54, 55, 56, 57, 58, 59, 60, 61, 62, 63, 64, 65, 66, 67, 68, 69, 70, 71, 72, 73] (by decide +kernel) (by decide +kernel)
set_option maxRecDepth 20000 in
theorem gX7_rollTemplate_X7_wrong : GoodIn wsX7_rollTemplate (wsV RX7 116 RX7 yX7_wrong wsX7_wrong) := goodIn_app (goodIn_of _ (by decide +kernel)) ggX7_rollTemplate_X7_wrong
set_option maxRecDepth 20000 in
theorem ggX7_rollTemplate_X7_goes : GoodIn wsX7_rollTemplate wsX7_goes := goodIn_r _ [38, 39, 48, 49, 50, 51, 52, 53, 54, 55, 56, 57, 58, 59, 60, 61, 62, 63, 64, 65, 66, 67, 68, 69, 70, 71, 72, 73] (by decide +kernel) (by decide +kernel)
set_option maxRecDepth 20000 in
theorem gX7_rollTemplate_X7_goes : GoodIn wsX7_rollTemplate (wsV RX7 78 RX7 yX7_goes wsX7_goes) := goodIn_app (goodIn_of _ (by decide +kernel)) ggX7_rollTemplate_X7_goes
set_option maxRecDepth 20000 in
theorem ggX7_rollTemplate_X7_cell : GoodIn wsX7_rollTemplate wsX7_cell := goodIn_r _ [26] (by decide +kernel) (by decide +kernel)
set_option maxRecDepth 20000 in
theorem gX7_rollTemplate_X7_cell : GoodIn wsX7_rollTemplate (va_wsS RX7 103 yX7_cell wsX7_cell) := goodIn_app (goodIn_of _ (by decide +kernel)) ggX7_rollTemplate_X7_cell
set_option maxRecDepth 20000 in
theorem ggX7_rollTemplate_X7_entry : GoodIn wsX7_rollTemplate wsX7_entry := goodIn_r _ [42] (by decide +kernel) (by decide +kernel)
set_option maxRecDepth 20000 in
theorem gX7_rollTemplate_X7_entry : GoodIn wsX7_rollTemplate (va_wsS RX7 120 yX7_entry wsX7_entry) := goodIn_app (goodIn_of _ (by decide +kernel)) ggX7_rollTemplate_X7_entry
set_option maxRecDepth 20000 in
theorem ggX7_rollTemplate_X7_rolls : GoodIn wsX7_rollTemplate wsX7_rolls := goodIn_r _ [46, 47, 18, 48, 49, 50, 51, 52, 53, 54, 55, 56, 57, 58, 59, 60, 61, 62, 63, 64, 65, 66, 67, 68, 69, 70, 71, 72, 73] (by decide +kernel) (by decide +kernel)
set_option maxRecDepth 20000 in
theorem gX7_rollTemplate_X7_rolls : GoodIn wsX7_rollTemplate (wsV RX7 133 RX7 yX7_rolls wsX7_rolls) := goodIn_app (goodIn_of _ (by decide +kernel)) ggX7_rollTemplate_X7_rolls
theorem dX7_rollTemplate_0 : decode cX7_rollTemplate 0 = .ok (.aload_n 0, 1) := by decide +kernel
theorem dX7_rollTemplate_1 : decode cX7_rollTemplate 1 = .ok (.aload_n 0, 1) := by decide +kernel
theorem dX7_rollTemplate_2 : decode cX7_rollTemplate 2 = .ok (.iload_n 1, 1) := by decide +kernel
theorem dX7_rollTemplate_3 : decode cX7_rollTemplate 3 = .ok (.iload_n 2, 1) := by decide +kernel
theorem dX7_rollTemplate_4 : decode cX7_rollTemplate 4 = .ok (.iload_n 3, 1) := by decide +kernel
theorem dX7_rollTemplate_5 : decode cX7_rollTemplate 5 = .ok (.invokestatic 113, 3) := by decide +kernel
theorem dX7_rollTemplate_8 : decode cX7_rollTemplate 8 = .ok (.ifCond .eq 17, 3) := by decide +kernel
theorem dX7_rollTemplate_11 : decode cX7_rollTemplate 11 = .ok (.iload 4, 2) := by decide +kernel
theorem dX7_rollTemplate_13 : decode cX7_rollTemplate 13 = .ok (.iload 5, 2) := by decide +kernel
theorem dX7_rollTemplate_15 : decode cX7_rollTemplate 15 = .ok (.invokestatic 127, 3) := by decide +kernel
theorem dX7_rollTemplate_18 : decode cX7_rollTemplate 18 = .ok (.ifCond .eq 7, 3) := by decide +kernel
theorem dX7_rollTemplate_21 : decode cX7_rollTemplate 21 = .ok (.iconst 1, 1) := by decide +kernel
theorem dX7_rollTemplate_22 : decode cX7_rollTemplate 22 = .ok (.goto 4, 3) := by decide +kernel
theorem dX7_rollTemplate_25 : decode cX7_rollTemplate 25 = .ok (.iconst 0, 1) := by decide +kernel
theorem dX7_rollTemplate_26 : decode cX7_rollTemplate 26 = .ok (.iload 6, 2) := by decide +kernel
theorem dX7_rollTemplate_28 : decode cX7_rollTemplate 28 = .ok (.iconst 0, 1) := by decide +kernel
theorem dX7_rollTemplate_29 : decode cX7_rollTemplate 29 = .ok (.invokevirtual 116, 3) := by decide +kernel
theorem dX7_rollTemplate_32 : decode cX7_rollTemplate 32 = .ok (.invokevirtual 78, 3) := by decide +kernel
theorem dX7_rollTemplate_35 : decode cX7_rollTemplate 35 = .ok (.ifCond .eq 20, 3) := by decide +kernel
theorem dX7_rollTemplate_38 : decode cX7_rollTemplate 38 = .ok (.aload_n 0, 1) := by decide +kernel
theorem dX7_rollTemplate_39 : decode cX7_rollTemplate 39 = .ok (.iload_n 1, 1) := by decide +kernel
theorem dX7_rollTemplate_40 : decode cX7_rollTemplate 40 = .ok (.iload_n 2, 1) := by decide +kernel
theorem dX7_rollTemplate_41 : decode cX7_rollTemplate 41 = .ok (.invokestatic 103, 3) := by decide +kernel
theorem dX7_rollTemplate_44 : decode cX7_rollTemplate 44 = .ok (.iload_n 3, 1) := by decide +kernel
theorem dX7_rollTemplate_45 : decode cX7_rollTemplate 45 = .ok (.iload 4, 2) := by decide +kernel
theorem dX7_rollTemplate_47 : decode cX7_rollTemplate 47 = .ok (.iload 5, 2) := by decide +kernel
theorem dX7_rollTemplate_49 : decode cX7_rollTemplate 49 = .ok (.invokestatic 120, 3) := by decide +kernel
theorem dX7_rollTemplate_52 : decode cX7_rollTemplate 52 = .ok (.invokevirtual 133, 3) := by decide +kernel
theorem dX7_rollTemplate_55 : decode cX7_rollTemplate 55 = .ok (.return_, 1) := by decide +kernel
theorem dX7_bucket_0 : decode cX7_bucket 0 = .ok (.bipush 31, 2) := by decide +kernel
theorem dX7_bucket_2 : decode cX7_bucket 2 = .ok (.iload_n 0, 1) := by decide +kernel
theorem dX7_bucket_3 : decode cX7_bucket 3 = .ok (.imul, 1) := by decide +kernel
theorem dX7_bucket_4 : decode cX7_bucket 4 = .ok (.bipush 17, 2) := by decide +kernel
theorem dX7_bucket_6 : decode cX7_bucket 6 = .ok (.iload_n 1, 1) := by decide +kernel
theorem dX7_bucket_7 : decode cX7_bucket 7 = .ok (.bipush 16, 2) := by decide +kernel
theorem dX7_bucket_9 : decode cX7_bucket 9 = .ok (.irem, 1) := by decide +kernel
theorem dX7_bucket_10 : decode cX7_bucket 10 = .ok (.imul, 1) := by decide +kernel
theorem dX7_bucket_11 : decode cX7_bucket 11 = .ok (.iadd, 1) := by decide +kernel
theorem dX7_bucket_12 : decode cX7_bucket 12 = .ok (.bipush 7, 2) := by decide +kernel
theorem dX7_bucket_14 : decode cX7_bucket 14 = .ok (.iload_n 1, 1) := by decide +kernel
theorem dX7_bucket_15 : decode cX7_bucket 15 = .ok (.bipush 16, 2) := by decide +kernel
theorem dX7_bucket_17 : decode cX7_bucket 17 = .ok (.idiv, 1) := by decide +kernel
theorem dX7_bucket_18 : decode cX7_bucket 18 = .ok (.imul, 1) := by decide +kernel
theorem dX7_bucket_19 : decode cX7_bucket 19 = .ok (.iadd, 1) := by decide +kernel
theorem dX7_bucket_20 : decode cX7_bucket 20 = .ok (.bipush 100, 2) := by decide +kernel
theorem dX7_bucket_22 : decode cX7_bucket 22 = .ok (.irem, 1) := by decide +kernel
theorem dX7_bucket_23 : decode cX7_bucket 23 = .ok (.ireturn, 1) := by decide +kernel
set_option maxRecDepth 20000 in
theorem ggX7_advance_X7_isIn : GoodIn wsX7_advance wsX7_isIn := goodIn_r _ [7] (by decide +kernel) (by decide +kernel)
set_option maxRecDepth 20000 in
theorem gX7_advance_X7_isIn : GoodIn wsX7_advance (va_wsS RX7 67 yX7_isIn wsX7_isIn) := goodIn_app (goodIn_of _ (by decide +kernel)) ggX7_advance_X7_isIn
set_option maxRecDepth 20000 in
theorem ggX7_advance_X7_wrong : GoodIn wsX7_advance wsX7_wrong := goodIn_r _ [11, 1, 12, 13, 14, 6, 15, 16, 4, 5, 7, 17, 18, 19, 20, 21, 22, 23, 24, 25, 26, 27, 28, 29, 30, 59, 60, 61, 62, 63, 64, 65, 66, 67, 68, 69, 70, 71, 72, 73, 74, 75, 76, 77, 78, 79, 80, 81, 82, 83, 84] (by decide +kernel) (by decide +kernel)
set_option maxRecDepth 20000 in
theorem gX7_advance_X7_wrong : GoodIn wsX7_advance (wsV RX7 116 RX7 yX7_wrong wsX7_wrong) := goodIn_app (goodIn_of _ (by decide +kernel)) ggX7_advance_X7_wrong
set_option maxRecDepth 20000 in
theorem ggX7_advance_X7_goes : GoodIn wsX7_advance wsX7_goes := goodIn_r _ [34, 35, 59, 60, 61, 62, 63, 64, 65, 66, 67, 68, 69, 70, 71, 72, 73, 74, 75, 76, 77, 78, 79, 80, 81, 82, 83, 84] (by decide +kernel) (by decide +kernel)
set_option maxRecDepth 20000 in
theorem gX7_advance_X7_goes : GoodIn wsX7_advance (wsV RX7 78 RX7 yX7_goes wsX7_goes) := goodIn_app (goodIn_of _ (by decide +kernel)) ggX7_advance_X7_goes
set_option maxRecDepth 20000 in
theorem ggX7_advance_X7_cell : GoodIn wsX7_advance wsX7_cell := goodIn_r _ [22] (by decide +kernel) (by decide +kernel)
set_option maxRecDepth 20000 in
theorem gX7_advance_X7_cell : GoodIn wsX7_advance (va_wsS RX7 103 yX7_cell wsX7_cell) := goodIn_app (goodIn_of _ (by decide +kernel)) ggX7_advance_X7_cell
set_option maxRecDepth 20000 in
theorem ggX7_advance_X7_puts : GoodIn wsX7_advance wsX7_puts := goodIn_r _ [39, 40, 41, 42, 43, 44, 45, 6, 46, 47, 59, 60, 61, 62, 63, 64, 65, 66, 67, 68, 69, 70, 71, 72, 73, 74, 75, 76, 77, 78, 79, 80, 81, 82, 83, 84] (by decide +kernel) (by decide +kernel)
set_option maxRecDepth 20000 in
theorem gX7_advance_X7_puts : GoodIn wsX7_advance (wsV RX7 124 RX7 yX7_puts wsX7_puts) := goodIn_app (goodIn_of _ (by decide +kernel)) ggX7_advance_X7_puts
set_option maxRecDepth 20000 in
theorem ggX7_advance_X7_isFor : GoodIn wsX7_advance wsX7_isFor := goodIn_r _ [51, 52, 53, 54, 55, 59, 60, 61, 62, 63, 64, 65, 66, 67, 68, 69, 70, 71, 72, 73, 74, 75, 76, 77, 78, 79, 80, 81, 82, 83, 84] (by decide +kernel) (by decide +kernel)
set_option maxRecDepth 20000 in
theorem gX7_advance_X7_isFor : GoodIn wsX7_advance (wsV RX7 91 RX7 yX7_isFor wsX7_isFor) := goodIn_app (goodIn_of _ (by decide +kernel)) ggX7_advance_X7_isFor
set_option maxRecDepth 20000 in
theorem ggX7_advance_X7_bucket : GoodIn wsX7_advance wsX7_bucket := goodIn_r _ [58] (by decide +kernel) (by decide +kernel)
set_option maxRecDepth 20000 in
theorem gX7_advance_X7_bucket : GoodIn wsX7_advance (va_wsS RX7 137 yX7_bucket wsX7_bucket) := goodIn_app (goodIn_of _ (by decide +kernel)) ggX7_advance_X7_bucket
theorem dX7_advance_0 : decode cX7_advance 0 = .ok (.aload_n 0, 1) := by decide +kernel
theorem dX7_advance_1 : decode cX7_advance 1 = .ok (.aload_n 0, 1) := by decide +kernel
theorem dX7_advance_2 : decode cX7_advance 2 = .ok (.iload_n 1, 1) := by decide +kernel
theorem dX7_advance_3 : decode cX7_advance 3 = .ok (.iload_n 2, 1) := by decide +kernel
theorem dX7_advance_4 : decode cX7_advance 4 = .ok (.iload_n 3, 1) := by decide +kernel
theorem dX7_advance_5 : decode cX7_advance 5 = .ok (.iconst 1, 1) := by decide +kernel
theorem dX7_advance_6 : decode cX7_advance 6 = .ok (.bipush 100, 2) := by decide +kernel
theorem dX7_advance_8 : decode cX7_advance 8 = .ok (.invokestatic 67, 3) := by decide +kernel
theorem dX7_advance_11 : decode cX7_advance 11 = .ok (.iload 4, 2) := by decide +kernel
theorem dX7_advance_13 : decode cX7_advance 13 = .ok (.iconst 1, 1) := by decide +kernel
theorem dX7_advance_14 : decode cX7_advance 14 = .ok (.invokevirtual 116, 3) := by decide +kernel
theorem dX7_advance_17 : decode cX7_advance 17 = .ok (.invokevirtual 78, 3) := by decide +kernel
theorem dX7_advance_20 : decode cX7_advance 20 = .ok (.ifCond .ne 5, 3) := by decide +kernel
theorem dX7_advance_23 : decode cX7_advance 23 = .ok (.iconst 0, 1) := by decide +kernel
theorem dX7_advance_24 : decode cX7_advance 24 = .ok (.ireturn, 1) := by decide +kernel
theorem dX7_advance_25 : decode cX7_advance 25 = .ok (.iload_n 1, 1) := by decide +kernel
theorem dX7_advance_26 : decode cX7_advance 26 = .ok (.iload_n 2, 1) := by decide +kernel
theorem dX7_advance_27 : decode cX7_advance 27 = .ok (.invokestatic 103, 3) := by decide +kernel
theorem dX7_advance_30 : decode cX7_advance 30 = .ok (.istore 5, 2) := by decide +kernel
theorem dX7_advance_32 : decode cX7_advance 32 = .ok (.aload_n 0, 1) := by decide +kernel
theorem dX7_advance_33 : decode cX7_advance 33 = .ok (.iload_n 3, 1) := by decide +kernel
theorem dX7_advance_34 : decode cX7_advance 34 = .ok (.aload_n 0, 1) := by decide +kernel
theorem dX7_advance_35 : decode cX7_advance 35 = .ok (.getfield 34, 3) := by decide +kernel
theorem dX7_advance_38 : decode cX7_advance 38 = .ok (.iload 5, 2) := by decide +kernel
theorem dX7_advance_40 : decode cX7_advance 40 = .ok (.iaload, 1) := by decide +kernel
theorem dX7_advance_41 : decode cX7_advance 41 = .ok (.if_icmp .le 7, 3) := by decide +kernel
theorem dX7_advance_44 : decode cX7_advance 44 = .ok (.iconst 0, 1) := by decide +kernel
theorem dX7_advance_45 : decode cX7_advance 45 = .ok (.goto 4, 3) := by decide +kernel
theorem dX7_advance_48 : decode cX7_advance 48 = .ok (.iconst 3, 1) := by decide +kernel
theorem dX7_advance_49 : decode cX7_advance 49 = .ok (.invokevirtual 78, 3) := by decide +kernel
theorem dX7_advance_52 : decode cX7_advance 52 = .ok (.ifCond .ne 5, 3) := by decide +kernel
theorem dX7_advance_55 : decode cX7_advance 55 = .ok (.iconst 0, 1) := by decide +kernel
theorem dX7_advance_56 : decode cX7_advance 56 = .ok (.ireturn, 1) := by decide +kernel
theorem dX7_advance_57 : decode cX7_advance 57 = .ok (.aload_n 0, 1) := by decide +kernel
theorem dX7_advance_58 : decode cX7_advance 58 = .ok (.getfield 34, 3) := by decide +kernel
theorem dX7_advance_61 : decode cX7_advance 61 = .ok (.iload 5, 2) := by decide +kernel
theorem dX7_advance_63 : decode cX7_advance 63 = .ok (.iload_n 3, 1) := by decide +kernel
theorem dX7_advance_64 : decode cX7_advance 64 = .ok (.bipush 100, 2) := by decide +kernel
theorem dX7_advance_66 : decode cX7_advance 66 = .ok (.if_icmp .ge 7, 3) := by decide +kernel
theorem dX7_advance_69 : decode cX7_advance 69 = .ok (.iload_n 3, 1) := by decide +kernel
theorem dX7_advance_70 : decode cX7_advance 70 = .ok (.goto 4, 3) := by decide +kernel
theorem dX7_advance_73 : decode cX7_advance 73 = .ok (.iconst (-1), 1) := by decide +kernel
theorem dX7_advance_74 : decode cX7_advance 74 = .ok (.iastore, 1) := by decide +kernel
theorem dX7_advance_75 : decode cX7_advance 75 = .ok (.iload_n 3, 1) := by decide +kernel
theorem dX7_advance_76 : decode cX7_advance 76 = .ok (.bipush 100, 2) := by decide +kernel
theorem dX7_advance_78 : decode cX7_advance 78 = .ok (.if_icmp .ge 7, 3) := by decide +kernel
theorem dX7_advance_81 : decode cX7_advance 81 = .ok (.iconst 0, 1) := by decide +kernel
theorem dX7_advance_82 : decode cX7_advance 82 = .ok (.goto 16, 3) := by decide +kernel
theorem dX7_advance_85 : decode cX7_advance 85 = .ok (.aload_n 0, 1) := by decide +kernel
theorem dX7_advance_86 : decode cX7_advance 86 = .ok (.iload 5, 2) := by decide +kernel
theorem dX7_advance_88 : decode cX7_advance 88 = .ok (.aload_n 0, 1) := by decide +kernel
theorem dX7_advance_89 : decode cX7_advance 89 = .ok (.getfield 31, 3) := by decide +kernel
theorem dX7_advance_92 : decode cX7_advance 92 = .ok (.iload 5, 2) := by decide +kernel
theorem dX7_advance_94 : decode cX7_advance 94 = .ok (.iaload, 1) := by decide +kernel
theorem dX7_advance_95 : decode cX7_advance 95 = .ok (.invokevirtual 124, 3) := by decide +kernel
theorem dX7_advance_98 : decode cX7_advance 98 = .ok (.istore 6, 2) := by decide +kernel
theorem dX7_advance_100 : decode cX7_advance 100 = .ok (.iconst 0, 1) := by decide +kernel
theorem dX7_advance_101 : decode cX7_advance 101 = .ok (.istore 7, 2) := by decide +kernel
theorem dX7_advance_103 : decode cX7_advance 103 = .ok (.iconst 0, 1) := by decide +kernel
theorem dX7_advance_104 : decode cX7_advance 104 = .ok (.istore 8, 2) := by decide +kernel
theorem dX7_advance_106 : decode cX7_advance 106 = .ok (.iload 8, 2) := by decide +kernel
theorem dX7_advance_108 : decode cX7_advance 108 = .ok (.aload_n 0, 1) := by decide +kernel
theorem dX7_advance_109 : decode cX7_advance 109 = .ok (.getfield 64, 3) := by decide +kernel
theorem dX7_advance_112 : decode cX7_advance 112 = .ok (.if_icmp .ge 40, 3) := by decide +kernel
theorem dX7_advance_115 : decode cX7_advance 115 = .ok (.iload 7, 2) := by decide +kernel
theorem dX7_advance_117 : decode cX7_advance 117 = .ok (.aload_n 0, 1) := by decide +kernel
theorem dX7_advance_118 : decode cX7_advance 118 = .ok (.iload_n 1, 1) := by decide +kernel
theorem dX7_advance_119 : decode cX7_advance 119 = .ok (.iload 8, 2) := by decide +kernel
theorem dX7_advance_121 : decode cX7_advance 121 = .ok (.invokevirtual 91, 3) := by decide +kernel
theorem dX7_advance_124 : decode cX7_advance 124 = .ok (.ifCond .eq 18, 3) := by decide +kernel
theorem dX7_advance_127 : decode cX7_advance 127 = .ok (.iload 8, 2) := by decide +kernel
theorem dX7_advance_129 : decode cX7_advance 129 = .ok (.iload 5, 2) := by decide +kernel
theorem dX7_advance_131 : decode cX7_advance 131 = .ok (.invokestatic 137, 3) := by decide +kernel
theorem dX7_advance_134 : decode cX7_advance 134 = .ok (.iload_n 3, 1) := by decide +kernel
theorem dX7_advance_135 : decode cX7_advance 135 = .ok (.if_icmp .ge 7, 3) := by decide +kernel
theorem dX7_advance_138 : decode cX7_advance 138 = .ok (.iconst 1, 1) := by decide +kernel
theorem dX7_advance_139 : decode cX7_advance 139 = .ok (.goto 4, 3) := by decide +kernel
theorem dX7_advance_142 : decode cX7_advance 142 = .ok (.iconst 0, 1) := by decide +kernel
theorem dX7_advance_143 : decode cX7_advance 143 = .ok (.iadd, 1) := by decide +kernel
theorem dX7_advance_144 : decode cX7_advance 144 = .ok (.istore 7, 2) := by decide +kernel
theorem dX7_advance_146 : decode cX7_advance 146 = .ok (.iinc 8 1, 3) := by decide +kernel
theorem dX7_advance_149 : decode cX7_advance 149 = .ok (.goto (-43), 3) := by decide +kernel
theorem dX7_advance_152 : decode cX7_advance 152 = .ok (.iload 7, 2) := by decide +kernel
theorem dX7_advance_154 : decode cX7_advance 154 = .ok (.ireturn, 1) := by decide +kernel
set_option maxRecDepth 20000 in
theorem ggX7_abort_X7_wrong : GoodIn wsX7_abort wsX7_wrong := goodIn_r _ [6, 1, 7, 8, 9, 5, 10, 11, 12, 13, 14, 15, 16, 17, 18, 19, 20, 21, 22, 23, 24, 25, 26, 27, 28, 34, 35, 36, 37, 38, 39, 40, 41, 42, 43, 44, 45, 46, 47, 48, 49, 50, 51, 52, 53, 54, 55, 56, 57, 58, 59] (by decide +kernel) (by decide +kernel)
set_option maxRecDepth 20000 in
theorem gX7_abort_X7_wrong : GoodIn wsX7_abort (wsV RX7 116 RX7 yX7_wrong wsX7_wrong) := goodIn_app (goodIn_of _ (by decide +kernel)) ggX7_abort_X7_wrong
set_option maxRecDepth 20000 in
theorem ggX7_abort_X7_goes : GoodIn wsX7_abort wsX7_goes := goodIn_r _ [32, 33, 34, 35, 36, 37, 38, 39, 40, 41, 42, 43, 44, 45, 46, 47, 48, 49, 50, 51, 52, 53, 54, 55, 56, 57, 58, 59] (by decide +kernel) (by decide +kernel)
set_option maxRecDepth 20000 in
theorem gX7_abort_X7_goes : GoodIn wsX7_abort (wsV RX7 78 RX7 yX7_goes wsX7_goes) := goodIn_app (goodIn_of _ (by decide +kernel)) ggX7_abort_X7_goes
set_option maxRecDepth 20000 in
theorem ggX7_abort_X7_cell : GoodIn wsX7_abort wsX7_cell := goodIn_r _ [20] (by decide +kernel) (by decide +kernel)
set_option maxRecDepth 20000 in
theorem gX7_abort_X7_cell : GoodIn wsX7_abort (va_wsS RX7 103 yX7_cell wsX7_cell) := goodIn_app (goodIn_of _ (by decide +kernel)) ggX7_abort_X7_cell
theorem dX7_abort_0 : decode cX7_abort 0 = .ok (.aload_n 0, 1) := by decide +kernel
theorem dX7_abort_1 : decode cX7_abort 1 = .ok (.aload_n 0, 1) := by decide +kernel
theorem dX7_abort_2 : decode cX7_abort 2 = .ok (.iload_n 1, 1) := by decide +kernel
theorem dX7_abort_3 : decode cX7_abort 3 = .ok (.iload_n 2, 1) := by decide +kernel
theorem dX7_abort_4 : decode cX7_abort 4 = .ok (.iconst 1, 1) := by decide +kernel
theorem dX7_abort_5 : decode cX7_abort 5 = .ok (.iload_n 3, 1) := by decide +kernel
theorem dX7_abort_6 : decode cX7_abort 6 = .ok (.iconst 1, 1) := by decide +kernel
theorem dX7_abort_7 : decode cX7_abort 7 = .ok (.invokevirtual 116, 3) := by decide +kernel
theorem dX7_abort_10 : decode cX7_abort 10 = .ok (.invokevirtual 78, 3) := by decide +kernel
theorem dX7_abort_13 : decode cX7_abort 13 = .ok (.ifCond .ne 5, 3) := by decide +kernel
theorem dX7_abort_16 : decode cX7_abort 16 = .ok (.iconst 0, 1) := by decide +kernel
theorem dX7_abort_17 : decode cX7_abort 17 = .ok (.ireturn, 1) := by decide +kernel
theorem dX7_abort_18 : decode cX7_abort 18 = .ok (.aload_n 0, 1) := by decide +kernel
theorem dX7_abort_19 : decode cX7_abort 19 = .ok (.getfield 34, 3) := by decide +kernel
theorem dX7_abort_22 : decode cX7_abort 22 = .ok (.iload_n 1, 1) := by decide +kernel
theorem dX7_abort_23 : decode cX7_abort 23 = .ok (.iload_n 2, 1) := by decide +kernel
theorem dX7_abort_24 : decode cX7_abort 24 = .ok (.invokestatic 103, 3) := by decide +kernel
theorem dX7_abort_27 : decode cX7_abort 27 = .ok (.iaload, 1) := by decide +kernel
theorem dX7_abort_28 : decode cX7_abort 28 = .ok (.istore 4, 2) := by decide +kernel
theorem dX7_abort_30 : decode cX7_abort 30 = .ok (.aload_n 0, 1) := by decide +kernel
theorem dX7_abort_31 : decode cX7_abort 31 = .ok (.getfield 34, 3) := by decide +kernel
theorem dX7_abort_34 : decode cX7_abort 34 = .ok (.iload_n 1, 1) := by decide +kernel
theorem dX7_abort_35 : decode cX7_abort 35 = .ok (.iload_n 2, 1) := by decide +kernel
theorem dX7_abort_36 : decode cX7_abort 36 = .ok (.invokestatic 103, 3) := by decide +kernel
theorem dX7_abort_39 : decode cX7_abort 39 = .ok (.iconst (-1), 1) := by decide +kernel
theorem dX7_abort_40 : decode cX7_abort 40 = .ok (.iastore, 1) := by decide +kernel
theorem dX7_abort_41 : decode cX7_abort 41 = .ok (.iload 4, 2) := by decide +kernel
theorem dX7_abort_43 : decode cX7_abort 43 = .ok (.ireturn, 1) := by decide +kernel
set_option maxRecDepth 20000 in
theorem ggX7_shareOf_X7_asksCell : GoodIn wsX7_shareOf wsX7_asksCell := goodIn_r _ [6, 7, 8, 9, 5, 10, 11, 12, 13, 14, 15, 16, 17, 18, 19, 20, 21, 22, 26, 27, 28, 29, 30, 31, 32, 33, 34, 35, 36, 37, 38, 39, 40, 41, 42, 43, 44, 45, 46, 47, 48, 49, 50, 51] (by decide +kernel) (by decide +kernel)
set_option maxRecDepth 20000 in
theorem gX7_shareOf_X7_asksCell : GoodIn wsX7_shareOf (wsV RX7 130 RX7 yX7_asksCell wsX7_asksCell) := goodIn_app (goodIn_of _ (by decide +kernel)) ggX7_shareOf_X7_asksCell
set_option maxRecDepth 20000 in
theorem ggX7_shareOf_X7_cell : GoodIn wsX7_shareOf wsX7_cell := goodIn_r _ [25] (by decide +kernel) (by decide +kernel)
set_option maxRecDepth 20000 in
theorem gX7_shareOf_X7_cell : GoodIn wsX7_shareOf (va_wsS RX7 103 yX7_cell wsX7_cell) := goodIn_app (goodIn_of _ (by decide +kernel)) ggX7_shareOf_X7_cell
theorem dX7_shareOf_0 : decode cX7_shareOf 0 = .ok (.aload_n 0, 1) := by decide +kernel
theorem dX7_shareOf_1 : decode cX7_shareOf 1 = .ok (.iload_n 1, 1) := by decide +kernel
theorem dX7_shareOf_2 : decode cX7_shareOf 2 = .ok (.iload_n 2, 1) := by decide +kernel
theorem dX7_shareOf_3 : decode cX7_shareOf 3 = .ok (.invokevirtual 130, 3) := by decide +kernel
theorem dX7_shareOf_6 : decode cX7_shareOf 6 = .ok (.ifCond .eq 16, 3) := by decide +kernel
theorem dX7_shareOf_9 : decode cX7_shareOf 9 = .ok (.aload_n 0, 1) := by decide +kernel
theorem dX7_shareOf_10 : decode cX7_shareOf 10 = .ok (.getfield 34, 3) := by decide +kernel
theorem dX7_shareOf_13 : decode cX7_shareOf 13 = .ok (.iload_n 1, 1) := by decide +kernel
theorem dX7_shareOf_14 : decode cX7_shareOf 14 = .ok (.iload_n 2, 1) := by decide +kernel
theorem dX7_shareOf_15 : decode cX7_shareOf 15 = .ok (.invokestatic 103, 3) := by decide +kernel
theorem dX7_shareOf_18 : decode cX7_shareOf 18 = .ok (.iaload, 1) := by decide +kernel
theorem dX7_shareOf_19 : decode cX7_shareOf 19 = .ok (.goto 4, 3) := by decide +kernel
theorem dX7_shareOf_22 : decode cX7_shareOf 22 = .ok (.iconst 0, 1) := by decide +kernel
theorem dX7_shareOf_23 : decode cX7_shareOf 23 = .ok (.ireturn, 1) := by decide +kernel
theorem dX7_locksOf_0 : decode cX7_locksOf 0 = .ok (.iconst 0, 1) := by decide +kernel
theorem dX7_locksOf_1 : decode cX7_locksOf 1 = .ok (.istore_n 2, 1) := by decide +kernel
theorem dX7_locksOf_2 : decode cX7_locksOf 2 = .ok (.iconst 0, 1) := by decide +kernel
theorem dX7_locksOf_3 : decode cX7_locksOf 3 = .ok (.istore_n 3, 1) := by decide +kernel
theorem dX7_locksOf_4 : decode cX7_locksOf 4 = .ok (.iload_n 3, 1) := by decide +kernel
theorem dX7_locksOf_5 : decode cX7_locksOf 5 = .ok (.sipush 136, 3) := by decide +kernel
theorem dX7_locksOf_8 : decode cX7_locksOf 8 = .ok (.if_icmp .ge 27, 3) := by decide +kernel
theorem dX7_locksOf_11 : decode cX7_locksOf 11 = .ok (.iload_n 2, 1) := by decide +kernel
theorem dX7_locksOf_12 : decode cX7_locksOf 12 = .ok (.aload_n 0, 1) := by decide +kernel
theorem dX7_locksOf_13 : decode cX7_locksOf 13 = .ok (.getfield 37, 3) := by decide +kernel
theorem dX7_locksOf_16 : decode cX7_locksOf 16 = .ok (.iload_n 3, 1) := by decide +kernel
theorem dX7_locksOf_17 : decode cX7_locksOf 17 = .ok (.iaload, 1) := by decide +kernel
theorem dX7_locksOf_18 : decode cX7_locksOf 18 = .ok (.iload_n 1, 1) := by decide +kernel
theorem dX7_locksOf_19 : decode cX7_locksOf 19 = .ok (.if_icmp .ne 7, 3) := by decide +kernel
theorem dX7_locksOf_22 : decode cX7_locksOf 22 = .ok (.iconst 1, 1) := by decide +kernel
theorem dX7_locksOf_23 : decode cX7_locksOf 23 = .ok (.goto 4, 3) := by decide +kernel
theorem dX7_locksOf_26 : decode cX7_locksOf 26 = .ok (.iconst 0, 1) := by decide +kernel
theorem dX7_locksOf_27 : decode cX7_locksOf 27 = .ok (.iadd, 1) := by decide +kernel
theorem dX7_locksOf_28 : decode cX7_locksOf 28 = .ok (.istore_n 2, 1) := by decide +kernel
theorem dX7_locksOf_29 : decode cX7_locksOf 29 = .ok (.iinc 3 1, 3) := by decide +kernel
theorem dX7_locksOf_32 : decode cX7_locksOf 32 = .ok (.goto (-28), 3) := by decide +kernel
theorem dX7_locksOf_35 : decode cX7_locksOf 35 = .ok (.iload_n 2, 1) := by decide +kernel
theorem dX7_locksOf_36 : decode cX7_locksOf 36 = .ok (.ireturn, 1) := by decide +kernel
set_option maxRecDepth 20000 in
theorem ggX7_lockAt_X7_cell : GoodIn wsX7_lockAt wsX7_cell := goodIn_r _ [4] (by decide +kernel) (by decide +kernel)
set_option maxRecDepth 20000 in
theorem gX7_lockAt_X7_cell : GoodIn wsX7_lockAt (va_wsS RX7 103 yX7_cell wsX7_cell) := goodIn_app (goodIn_of _ (by decide +kernel)) ggX7_lockAt_X7_cell
theorem dX7_lockAt_0 : decode cX7_lockAt 0 = .ok (.iload_n 1, 1) := by decide +kernel
theorem dX7_lockAt_1 : decode cX7_lockAt 1 = .ok (.iconst (-1), 1) := by decide +kernel
theorem dX7_lockAt_2 : decode cX7_lockAt 2 = .ok (.if_icmp .ne 11, 3) := by decide +kernel
theorem dX7_lockAt_5 : decode cX7_lockAt 5 = .ok (.sipush 128, 3) := by decide +kernel
theorem dX7_lockAt_8 : decode cX7_lockAt 8 = .ok (.iload_n 0, 1) := by decide +kernel
theorem dX7_lockAt_9 : decode cX7_lockAt 9 = .ok (.iadd, 1) := by decide +kernel
theorem dX7_lockAt_10 : decode cX7_lockAt 10 = .ok (.goto 8, 3) := by decide +kernel
theorem dX7_lockAt_13 : decode cX7_lockAt 13 = .ok (.iload_n 0, 1) := by decide +kernel
theorem dX7_lockAt_14 : decode cX7_lockAt 14 = .ok (.iload_n 1, 1) := by decide +kernel
theorem dX7_lockAt_15 : decode cX7_lockAt 15 = .ok (.invokestatic 103, 3) := by decide +kernel
theorem dX7_lockAt_18 : decode cX7_lockAt 18 = .ok (.ireturn, 1) := by decide +kernel
set_option maxRecDepth 20000 in
theorem ggX7_isBarred_X7_cell : GoodIn wsX7_isBarred wsX7_cell := goodIn_r _ [5] (by decide +kernel) (by decide +kernel)
set_option maxRecDepth 20000 in
theorem gX7_isBarred_X7_cell : GoodIn wsX7_isBarred (va_wsS RX7 103 yX7_cell wsX7_cell) := goodIn_app (goodIn_of _ (by decide +kernel)) ggX7_isBarred_X7_cell
theorem dX7_isBarred_0 : decode cX7_isBarred 0 = .ok (.aload_n 0, 1) := by decide +kernel
theorem dX7_isBarred_1 : decode cX7_isBarred 1 = .ok (.getfield 37, 3) := by decide +kernel
theorem dX7_isBarred_4 : decode cX7_isBarred 4 = .ok (.sipush 128, 3) := by decide +kernel
theorem dX7_isBarred_7 : decode cX7_isBarred 7 = .ok (.iload_n 1, 1) := by decide +kernel
theorem dX7_isBarred_8 : decode cX7_isBarred 8 = .ok (.iadd, 1) := by decide +kernel
theorem dX7_isBarred_9 : decode cX7_isBarred 9 = .ok (.iaload, 1) := by decide +kernel
theorem dX7_isBarred_10 : decode cX7_isBarred 10 = .ok (.ifCond .le 21, 3) := by decide +kernel
theorem dX7_isBarred_13 : decode cX7_isBarred 13 = .ok (.aload_n 0, 1) := by decide +kernel
theorem dX7_isBarred_14 : decode cX7_isBarred 14 = .ok (.getfield 37, 3) := by decide +kernel
theorem dX7_isBarred_17 : decode cX7_isBarred 17 = .ok (.sipush 128, 3) := by decide +kernel
theorem dX7_isBarred_20 : decode cX7_isBarred 20 = .ok (.iload_n 1, 1) := by decide +kernel
theorem dX7_isBarred_21 : decode cX7_isBarred 21 = .ok (.iadd, 1) := by decide +kernel
theorem dX7_isBarred_22 : decode cX7_isBarred 22 = .ok (.iaload, 1) := by decide +kernel
theorem dX7_isBarred_23 : decode cX7_isBarred 23 = .ok (.iload_n 3, 1) := by decide +kernel
theorem dX7_isBarred_24 : decode cX7_isBarred 24 = .ok (.if_icmp .eq 7, 3) := by decide +kernel
theorem dX7_isBarred_27 : decode cX7_isBarred 27 = .ok (.iconst 1, 1) := by decide +kernel
theorem dX7_isBarred_28 : decode cX7_isBarred 28 = .ok (.goto 4, 3) := by decide +kernel
theorem dX7_isBarred_31 : decode cX7_isBarred 31 = .ok (.iconst 0, 1) := by decide +kernel
theorem dX7_isBarred_32 : decode cX7_isBarred 32 = .ok (.istore 4, 2) := by decide +kernel
theorem dX7_isBarred_34 : decode cX7_isBarred 34 = .ok (.iconst 0, 1) := by decide +kernel
theorem dX7_isBarred_35 : decode cX7_isBarred 35 = .ok (.istore 5, 2) := by decide +kernel
theorem dX7_isBarred_37 : decode cX7_isBarred 37 = .ok (.iload 5, 2) := by decide +kernel
theorem dX7_isBarred_39 : decode cX7_isBarred 39 = .ok (.bipush 16, 2) := by decide +kernel
theorem dX7_isBarred_41 : decode cX7_isBarred 41 = .ok (.if_icmp .ge 56, 3) := by decide +kernel
theorem dX7_isBarred_44 : decode cX7_isBarred 44 = .ok (.aload_n 0, 1) := by decide +kernel
theorem dX7_isBarred_45 : decode cX7_isBarred 45 = .ok (.getfield 37, 3) := by decide +kernel
theorem dX7_isBarred_48 : decode cX7_isBarred 48 = .ok (.iload_n 1, 1) := by decide +kernel
theorem dX7_isBarred_49 : decode cX7_isBarred 49 = .ok (.iload 5, 2) := by decide +kernel
theorem dX7_isBarred_51 : decode cX7_isBarred 51 = .ok (.invokestatic 103, 3) := by decide +kernel
theorem dX7_isBarred_54 : decode cX7_isBarred 54 = .ok (.iaload, 1) := by decide +kernel
theorem dX7_isBarred_55 : decode cX7_isBarred 55 = .ok (.istore 6, 2) := by decide +kernel
theorem dX7_isBarred_57 : decode cX7_isBarred 57 = .ok (.iload 4, 2) := by decide +kernel
theorem dX7_isBarred_59 : decode cX7_isBarred 59 = .ok (.ifCond .ne 25, 3) := by decide +kernel
theorem dX7_isBarred_62 : decode cX7_isBarred 62 = .ok (.iload 6, 2) := by decide +kernel
theorem dX7_isBarred_64 : decode cX7_isBarred 64 = .ok (.ifCond .le 24, 3) := by decide +kernel
theorem dX7_isBarred_67 : decode cX7_isBarred 67 = .ok (.iload 6, 2) := by decide +kernel
theorem dX7_isBarred_69 : decode cX7_isBarred 69 = .ok (.iload_n 3, 1) := by decide +kernel
theorem dX7_isBarred_70 : decode cX7_isBarred 70 = .ok (.if_icmp .eq 18, 3) := by decide +kernel
theorem dX7_isBarred_73 : decode cX7_isBarred 73 = .ok (.iload_n 2, 1) := by decide +kernel
theorem dX7_isBarred_74 : decode cX7_isBarred 74 = .ok (.iconst (-1), 1) := by decide +kernel
theorem dX7_isBarred_75 : decode cX7_isBarred 75 = .ok (.if_icmp .eq 9, 3) := by decide +kernel
theorem dX7_isBarred_78 : decode cX7_isBarred 78 = .ok (.iload_n 2, 1) := by decide +kernel
theorem dX7_isBarred_79 : decode cX7_isBarred 79 = .ok (.iload 5, 2) := by decide +kernel
theorem dX7_isBarred_81 : decode cX7_isBarred 81 = .ok (.if_icmp .ne 7, 3) := by decide +kernel
theorem dX7_isBarred_84 : decode cX7_isBarred 84 = .ok (.iconst 1, 1) := by decide +kernel
theorem dX7_isBarred_85 : decode cX7_isBarred 85 = .ok (.goto 4, 3) := by decide +kernel
theorem dX7_isBarred_88 : decode cX7_isBarred 88 = .ok (.iconst 0, 1) := by decide +kernel
theorem dX7_isBarred_89 : decode cX7_isBarred 89 = .ok (.istore 4, 2) := by decide +kernel
theorem dX7_isBarred_91 : decode cX7_isBarred 91 = .ok (.iinc 5 1, 3) := by decide +kernel
theorem dX7_isBarred_94 : decode cX7_isBarred 94 = .ok (.goto (-57), 3) := by decide +kernel
theorem dX7_isBarred_97 : decode cX7_isBarred 97 = .ok (.iload 4, 2) := by decide +kernel
theorem dX7_isBarred_99 : decode cX7_isBarred 99 = .ok (.ireturn, 1) := by decide +kernel
set_option maxRecDepth 20000 in
theorem ggX7_wrongLock_X7_isLayer : GoodIn wsX7_wrongLock wsX7_isLayer := goodIn_r _ [5, 6, 7, 8, 4, 9, 16, 17, 18, 19, 20, 21, 22, 23, 24, 25, 26, 27, 28, 29, 30, 31, 32, 33, 34, 35, 36, 37, 38, 39, 40, 41] (by decide +kernel) (by decide +kernel)
set_option maxRecDepth 20000 in
theorem gX7_wrongLock_X7_isLayer : GoodIn wsX7_wrongLock (wsV RX7 84 RX7 yX7_isLayer wsX7_isLayer) := goodIn_app (goodIn_of _ (by decide +kernel)) ggX7_wrongLock_X7_isLayer
set_option maxRecDepth 20000 in
theorem ggX7_wrongLock_X7_isSetting : GoodIn wsX7_wrongLock wsX7_isSetting := goodIn_r _ [12, 7, 8, 4, 9] (by decide +kernel) (by decide +kernel)
set_option maxRecDepth 20000 in
theorem gX7_wrongLock_X7_isSetting : GoodIn wsX7_wrongLock (va_wsS RX7 100 yX7_isSetting wsX7_isSetting) := goodIn_app (goodIn_of _ (by decide +kernel)) ggX7_wrongLock_X7_isSetting
set_option maxRecDepth 20000 in
theorem ggX7_wrongLock_X7_isOwner : GoodIn wsX7_wrongLock wsX7_isOwner := goodIn_r _ [15, 7, 8, 4, 9] (by decide +kernel) (by decide +kernel)
set_option maxRecDepth 20000 in
theorem gX7_wrongLock_X7_isOwner : GoodIn wsX7_wrongLock (va_wsS RX7 107 yX7_isOwner wsX7_isOwner) := goodIn_app (goodIn_of _ (by decide +kernel)) ggX7_wrongLock_X7_isOwner
theorem dX7_wrongLock_0 : decode cX7_wrongLock 0 = .ok (.aload_n 0, 1) := by decide +kernel
theorem dX7_wrongLock_1 : decode cX7_wrongLock 1 = .ok (.iload_n 1, 1) := by decide +kernel
theorem dX7_wrongLock_2 : decode cX7_wrongLock 2 = .ok (.invokevirtual 84, 3) := by decide +kernel
theorem dX7_wrongLock_5 : decode cX7_wrongLock 5 = .ok (.ifCond .eq 15, 3) := by decide +kernel
theorem dX7_wrongLock_8 : decode cX7_wrongLock 8 = .ok (.iload_n 2, 1) := by decide +kernel
theorem dX7_wrongLock_9 : decode cX7_wrongLock 9 = .ok (.iconst (-1), 1) := by decide +kernel
theorem dX7_wrongLock_10 : decode cX7_wrongLock 10 = .ok (.if_icmp .eq 14, 3) := by decide +kernel
theorem dX7_wrongLock_13 : decode cX7_wrongLock 13 = .ok (.iload_n 2, 1) := by decide +kernel
theorem dX7_wrongLock_14 : decode cX7_wrongLock 14 = .ok (.invokestatic 100, 3) := by decide +kernel
theorem dX7_wrongLock_17 : decode cX7_wrongLock 17 = .ok (.ifCond .ne 7, 3) := by decide +kernel
theorem dX7_wrongLock_20 : decode cX7_wrongLock 20 = .ok (.iconst 1, 1) := by decide +kernel
theorem dX7_wrongLock_21 : decode cX7_wrongLock 21 = .ok (.goto 15, 3) := by decide +kernel
theorem dX7_wrongLock_24 : decode cX7_wrongLock 24 = .ok (.iload_n 3, 1) := by decide +kernel
theorem dX7_wrongLock_25 : decode cX7_wrongLock 25 = .ok (.invokestatic 107, 3) := by decide +kernel
theorem dX7_wrongLock_28 : decode cX7_wrongLock 28 = .ok (.ifCond .ne 7, 3) := by decide +kernel
theorem dX7_wrongLock_31 : decode cX7_wrongLock 31 = .ok (.iconst 2, 1) := by decide +kernel
theorem dX7_wrongLock_32 : decode cX7_wrongLock 32 = .ok (.goto 4, 3) := by decide +kernel
theorem dX7_wrongLock_35 : decode cX7_wrongLock 35 = .ok (.iconst 0, 1) := by decide +kernel
theorem dX7_wrongLock_36 : decode cX7_wrongLock 36 = .ok (.ireturn, 1) := by decide +kernel
set_option maxRecDepth 20000 in
theorem ggX7_lock_X7_wrongLock : GoodIn wsX7_lock wsX7_wrongLock := goodIn_r _ [6, 7, 8, 9, 5, 10, 11, 12, 13, 14, 15, 16, 17, 18, 19, 20, 40, 41, 42, 43, 44, 45, 46, 47, 48, 49, 50, 51, 52, 53, 54, 55, 56, 57, 58, 59, 60, 61, 62, 63, 64, 65] (by decide +kernel) (by decide +kernel)
set_option maxRecDepth 20000 in
theorem gX7_lock_X7_wrongLock : GoodIn wsX7_lock (wsV RX7 140 RX7 yX7_wrongLock wsX7_wrongLock) := goodIn_app (goodIn_of _ (by decide +kernel)) ggX7_lock_X7_wrongLock
set_option maxRecDepth 20000 in
theorem ggX7_lock_X7_goes : GoodIn wsX7_lock wsX7_goes := goodIn_r _ [24, 25, 40, 41, 42, 43, 44, 45, 46, 47, 48, 49, 50, 51, 52, 53, 54, 55, 56, 57, 58, 59, 60, 61, 62, 63, 64, 65] (by decide +kernel) (by decide +kernel)
set_option maxRecDepth 20000 in
theorem gX7_lock_X7_goes : GoodIn wsX7_lock (wsV RX7 78 RX7 yX7_goes wsX7_goes) := goodIn_app (goodIn_of _ (by decide +kernel)) ggX7_lock_X7_goes
set_option maxRecDepth 20000 in
theorem ggX7_lock_X7_isBarred : GoodIn wsX7_lock wsX7_isBarred := goodIn_r _ [29, 1, 30, 31, 5, 32, 40, 41, 42, 43, 44, 45, 46, 47, 48, 49, 50, 51, 52, 53, 54, 55, 56, 57, 58, 59, 60, 61, 62, 63, 64, 65] (by decide +kernel) (by decide +kernel)
set_option maxRecDepth 20000 in
theorem gX7_lock_X7_isBarred : GoodIn wsX7_lock (wsV RX7 143 RX7 yX7_isBarred wsX7_isBarred) := goodIn_app (goodIn_of _ (by decide +kernel)) ggX7_lock_X7_isBarred
set_option maxRecDepth 20000 in
theorem ggX7_lock_X7_lockAt : GoodIn wsX7_lock wsX7_lockAt := goodIn_r _ [35, 30, 31, 5, 32] (by decide +kernel) (by decide +kernel)
set_option maxRecDepth 20000 in
theorem gX7_lock_X7_lockAt : GoodIn wsX7_lock (va_wsS RX7 146 yX7_lockAt wsX7_lockAt) := goodIn_app (goodIn_of _ (by decide +kernel)) ggX7_lock_X7_lockAt
set_option maxRecDepth 20000 in
theorem ggX7_lock_X7_locksOf : GoodIn wsX7_lock wsX7_locksOf := goodIn_r _ [39, 1, 40, 41, 42, 43, 44, 45, 46, 47, 48, 49, 50, 51, 52, 53, 54, 55, 56, 57, 58, 59, 60, 61, 62, 63, 64, 65] (by decide +kernel) (by decide +kernel)
set_option maxRecDepth 20000 in
theorem gX7_lock_X7_locksOf : GoodIn wsX7_lock (wsV RX7 149 RX7 yX7_locksOf wsX7_locksOf) := goodIn_app (goodIn_of _ (by decide +kernel)) ggX7_lock_X7_locksOf
theorem dX7_lock_0 : decode cX7_lock 0 = .ok (.aload_n 0, 1) := by decide +kernel
theorem dX7_lock_1 : decode cX7_lock 1 = .ok (.aload_n 0, 1) := by decide +kernel
theorem dX7_lock_2 : decode cX7_lock 2 = .ok (.iload_n 1, 1) := by decide +kernel
theorem dX7_lock_3 : decode cX7_lock 3 = .ok (.iload_n 2, 1) := by decide +kernel
theorem dX7_lock_4 : decode cX7_lock 4 = .ok (.iload_n 3, 1) := by decide +kernel
theorem dX7_lock_5 : decode cX7_lock 5 = .ok (.invokevirtual 140, 3) := by decide +kernel
theorem dX7_lock_8 : decode cX7_lock 8 = .ok (.invokevirtual 78, 3) := by decide +kernel
theorem dX7_lock_11 : decode cX7_lock 11 = .ok (.ifCond .eq 25, 3) := by decide +kernel
theorem dX7_lock_14 : decode cX7_lock 14 = .ok (.aload_n 0, 1) := by decide +kernel
theorem dX7_lock_15 : decode cX7_lock 15 = .ok (.aload_n 0, 1) := by decide +kernel
theorem dX7_lock_16 : decode cX7_lock 16 = .ok (.iload_n 1, 1) := by decide +kernel
theorem dX7_lock_17 : decode cX7_lock 17 = .ok (.iload_n 2, 1) := by decide +kernel
theorem dX7_lock_18 : decode cX7_lock 18 = .ok (.iload_n 3, 1) := by decide +kernel
theorem dX7_lock_19 : decode cX7_lock 19 = .ok (.invokevirtual 143, 3) := by decide +kernel
theorem dX7_lock_22 : decode cX7_lock 22 = .ok (.ifCond .eq 7, 3) := by decide +kernel
theorem dX7_lock_25 : decode cX7_lock 25 = .ok (.iconst 3, 1) := by decide +kernel
theorem dX7_lock_26 : decode cX7_lock 26 = .ok (.goto 4, 3) := by decide +kernel
theorem dX7_lock_29 : decode cX7_lock 29 = .ok (.iconst 0, 1) := by decide +kernel
theorem dX7_lock_30 : decode cX7_lock 30 = .ok (.invokevirtual 78, 3) := by decide +kernel
theorem dX7_lock_33 : decode cX7_lock 33 = .ok (.ifCond .ne 5, 3) := by decide +kernel
theorem dX7_lock_36 : decode cX7_lock 36 = .ok (.iconst 0, 1) := by decide +kernel
theorem dX7_lock_37 : decode cX7_lock 37 = .ok (.ireturn, 1) := by decide +kernel
theorem dX7_lock_38 : decode cX7_lock 38 = .ok (.aload_n 0, 1) := by decide +kernel
theorem dX7_lock_39 : decode cX7_lock 39 = .ok (.getfield 37, 3) := by decide +kernel
theorem dX7_lock_42 : decode cX7_lock 42 = .ok (.iload_n 1, 1) := by decide +kernel
theorem dX7_lock_43 : decode cX7_lock 43 = .ok (.iload_n 2, 1) := by decide +kernel
theorem dX7_lock_44 : decode cX7_lock 44 = .ok (.invokestatic 146, 3) := by decide +kernel
theorem dX7_lock_47 : decode cX7_lock 47 = .ok (.iload_n 3, 1) := by decide +kernel
theorem dX7_lock_48 : decode cX7_lock 48 = .ok (.iastore, 1) := by decide +kernel
theorem dX7_lock_49 : decode cX7_lock 49 = .ok (.aload_n 0, 1) := by decide +kernel
theorem dX7_lock_50 : decode cX7_lock 50 = .ok (.iload_n 3, 1) := by decide +kernel
theorem dX7_lock_51 : decode cX7_lock 51 = .ok (.invokevirtual 149, 3) := by decide +kernel
theorem dX7_lock_54 : decode cX7_lock 54 = .ok (.ireturn, 1) := by decide +kernel
set_option maxRecDepth 20000 in
theorem ggX7_unlock_X7_wrongLock : GoodIn wsX7_unlock wsX7_wrongLock := goodIn_r _ [6, 7, 8, 9, 5, 10, 11, 12, 13, 14, 15, 16, 17, 18, 19, 20, 36, 37, 38, 39, 40, 41, 42, 43, 44, 45, 46, 47, 48, 49, 50, 51, 52, 53, 54, 55, 56, 57, 58, 59, 60, 61] (by decide +kernel) (by decide +kernel)
set_option maxRecDepth 20000 in
theorem gX7_unlock_X7_wrongLock : GoodIn wsX7_unlock (wsV RX7 140 RX7 yX7_wrongLock wsX7_wrongLock) := goodIn_app (goodIn_of _ (by decide +kernel)) ggX7_unlock_X7_wrongLock
set_option maxRecDepth 20000 in
theorem ggX7_unlock_X7_goes : GoodIn wsX7_unlock wsX7_goes := goodIn_r _ [24, 25, 36, 37, 38, 39, 40, 41, 42, 43, 44, 45, 46, 47, 48, 49, 50, 51, 52, 53, 54, 55, 56, 57, 58, 59, 60, 61] (by decide +kernel) (by decide +kernel)
set_option maxRecDepth 20000 in
theorem gX7_unlock_X7_goes : GoodIn wsX7_unlock (wsV RX7 78 RX7 yX7_goes wsX7_goes) := goodIn_app (goodIn_of _ (by decide +kernel)) ggX7_unlock_X7_goes
set_option maxRecDepth 20000 in
theorem ggX7_unlock_X7_lockAt : GoodIn wsX7_unlock wsX7_lockAt := goodIn_r _ [28, 29, 30, 5, 31] (by decide +kernel) (by decide +kernel)
set_option maxRecDepth 20000 in
theorem gX7_unlock_X7_lockAt : GoodIn wsX7_unlock (va_wsS RX7 146 yX7_lockAt wsX7_lockAt) := goodIn_app (goodIn_of _ (by decide +kernel)) ggX7_unlock_X7_lockAt
set_option maxRecDepth 20000 in
theorem ggX7_unlock_X7_locksOf : GoodIn wsX7_unlock wsX7_locksOf := goodIn_r _ [35, 1, 36, 37, 38, 39, 40, 41, 42, 43, 44, 45, 46, 47, 48, 49, 50, 51, 52, 53, 54, 55, 56, 57, 58, 59, 60, 61] (by decide +kernel) (by decide +kernel)
set_option maxRecDepth 20000 in
theorem gX7_unlock_X7_locksOf : GoodIn wsX7_unlock (wsV RX7 149 RX7 yX7_locksOf wsX7_locksOf) := goodIn_app (goodIn_of _ (by decide +kernel)) ggX7_unlock_X7_locksOf
theorem dX7_unlock_0 : decode cX7_unlock 0 = .ok (.aload_n 0, 1) := by decide +kernel
theorem dX7_unlock_1 : decode cX7_unlock 1 = .ok (.aload_n 0, 1) := by decide +kernel
theorem dX7_unlock_2 : decode cX7_unlock 2 = .ok (.iload_n 1, 1) := by decide +kernel
theorem dX7_unlock_3 : decode cX7_unlock 3 = .ok (.iload_n 2, 1) := by decide +kernel
theorem dX7_unlock_4 : decode cX7_unlock 4 = .ok (.iload_n 3, 1) := by decide +kernel
theorem dX7_unlock_5 : decode cX7_unlock 5 = .ok (.invokevirtual 140, 3) := by decide +kernel
theorem dX7_unlock_8 : decode cX7_unlock 8 = .ok (.invokevirtual 78, 3) := by decide +kernel
theorem dX7_unlock_11 : decode cX7_unlock 11 = .ok (.ifCond .eq 29, 3) := by decide +kernel
theorem dX7_unlock_14 : decode cX7_unlock 14 = .ok (.aload_n 0, 1) := by decide +kernel
theorem dX7_unlock_15 : decode cX7_unlock 15 = .ok (.aload_n 0, 1) := by decide +kernel
theorem dX7_unlock_16 : decode cX7_unlock 16 = .ok (.getfield 37, 3) := by decide +kernel
theorem dX7_unlock_19 : decode cX7_unlock 19 = .ok (.iload_n 1, 1) := by decide +kernel
theorem dX7_unlock_20 : decode cX7_unlock 20 = .ok (.iload_n 2, 1) := by decide +kernel
theorem dX7_unlock_21 : decode cX7_unlock 21 = .ok (.invokestatic 146, 3) := by decide +kernel
theorem dX7_unlock_24 : decode cX7_unlock 24 = .ok (.iaload, 1) := by decide +kernel
theorem dX7_unlock_25 : decode cX7_unlock 25 = .ok (.iload_n 3, 1) := by decide +kernel
theorem dX7_unlock_26 : decode cX7_unlock 26 = .ok (.if_icmp .ne 7, 3) := by decide +kernel
theorem dX7_unlock_29 : decode cX7_unlock 29 = .ok (.iconst 0, 1) := by decide +kernel
theorem dX7_unlock_30 : decode cX7_unlock 30 = .ok (.goto 4, 3) := by decide +kernel
theorem dX7_unlock_33 : decode cX7_unlock 33 = .ok (.iconst 3, 1) := by decide +kernel
theorem dX7_unlock_34 : decode cX7_unlock 34 = .ok (.invokevirtual 78, 3) := by decide +kernel
theorem dX7_unlock_37 : decode cX7_unlock 37 = .ok (.ifCond .ne 5, 3) := by decide +kernel
theorem dX7_unlock_40 : decode cX7_unlock 40 = .ok (.iconst 0, 1) := by decide +kernel
theorem dX7_unlock_41 : decode cX7_unlock 41 = .ok (.ireturn, 1) := by decide +kernel
theorem dX7_unlock_42 : decode cX7_unlock 42 = .ok (.aload_n 0, 1) := by decide +kernel
theorem dX7_unlock_43 : decode cX7_unlock 43 = .ok (.getfield 37, 3) := by decide +kernel
theorem dX7_unlock_46 : decode cX7_unlock 46 = .ok (.iload_n 1, 1) := by decide +kernel
theorem dX7_unlock_47 : decode cX7_unlock 47 = .ok (.iload_n 2, 1) := by decide +kernel
theorem dX7_unlock_48 : decode cX7_unlock 48 = .ok (.invokestatic 146, 3) := by decide +kernel
theorem dX7_unlock_51 : decode cX7_unlock 51 = .ok (.iconst 0, 1) := by decide +kernel
theorem dX7_unlock_52 : decode cX7_unlock 52 = .ok (.iastore, 1) := by decide +kernel
theorem dX7_unlock_53 : decode cX7_unlock 53 = .ok (.aload_n 0, 1) := by decide +kernel
theorem dX7_unlock_54 : decode cX7_unlock 54 = .ok (.iload_n 3, 1) := by decide +kernel
theorem dX7_unlock_55 : decode cX7_unlock 55 = .ok (.invokevirtual 149, 3) := by decide +kernel
theorem dX7_unlock_58 : decode cX7_unlock 58 = .ok (.ireturn, 1) := by decide +kernel
set_option maxRecDepth 20000 in
theorem ggX7_isLocked_X7_isLayer : GoodIn wsX7_isLocked wsX7_isLayer := goodIn_r _ [5, 6, 7, 8, 4, 9, 29, 30, 31, 32, 33, 34, 35, 36, 37, 38, 39, 40, 41, 42, 43, 44, 45, 46, 47, 48, 49, 50, 51, 52, 53, 54] (by decide +kernel) (by decide +kernel)
set_option maxRecDepth 20000 in
theorem gX7_isLocked_X7_isLayer : GoodIn wsX7_isLocked (wsV RX7 84 RX7 yX7_isLayer wsX7_isLayer) := goodIn_app (goodIn_of _ (by decide +kernel)) ggX7_isLocked_X7_isLayer
set_option maxRecDepth 20000 in
theorem ggX7_isLocked_X7_isSetting : GoodIn wsX7_isLocked wsX7_isSetting := goodIn_r _ [12, 7, 8, 4, 9] (by decide +kernel) (by decide +kernel)
set_option maxRecDepth 20000 in
theorem gX7_isLocked_X7_isSetting : GoodIn wsX7_isLocked (va_wsS RX7 100 yX7_isSetting wsX7_isSetting) := goodIn_app (goodIn_of _ (by decide +kernel)) ggX7_isLocked_X7_isSetting
set_option maxRecDepth 20000 in
theorem ggX7_isLocked_X7_isOwner : GoodIn wsX7_isLocked wsX7_isOwner := goodIn_r _ [15, 7, 8, 4, 9] (by decide +kernel) (by decide +kernel)
set_option maxRecDepth 20000 in
theorem gX7_isLocked_X7_isOwner : GoodIn wsX7_isLocked (va_wsS RX7 107 yX7_isOwner wsX7_isOwner) := goodIn_app (goodIn_of _ (by decide +kernel)) ggX7_isLocked_X7_isOwner
set_option maxRecDepth 20000 in
theorem ggX7_isLocked_X7_goes : GoodIn wsX7_isLocked wsX7_goes := goodIn_r _ [19, 20, 29, 30, 31, 32, 33, 34, 35, 36, 37, 38, 39, 40, 41, 42, 43, 44, 45, 46, 47, 48, 49, 50, 51, 52, 53, 54] (by decide +kernel) (by decide +kernel)
set_option maxRecDepth 20000 in
theorem gX7_isLocked_X7_goes : GoodIn wsX7_isLocked (wsV RX7 78 RX7 yX7_goes wsX7_goes) := goodIn_app (goodIn_of _ (by decide +kernel)) ggX7_isLocked_X7_goes
set_option maxRecDepth 20000 in
theorem ggX7_isLocked_X7_cell : GoodIn wsX7_isLocked wsX7_cell := goodIn_r _ [23] (by decide +kernel) (by decide +kernel)
set_option maxRecDepth 20000 in
theorem gX7_isLocked_X7_cell : GoodIn wsX7_isLocked (va_wsS RX7 103 yX7_cell wsX7_cell) := goodIn_app (goodIn_of _ (by decide +kernel)) ggX7_isLocked_X7_cell
set_option maxRecDepth 20000 in
theorem ggX7_isLocked_X7_isLockedFor : GoodIn wsX7_isLocked wsX7_isLockedFor := goodIn_r _ [27, 28, 29, 30, 31, 32, 33, 34, 35, 36, 37, 38, 39, 40, 41, 42, 43, 44, 45, 46, 47, 48, 49, 50, 51, 52, 53, 54] (by decide +kernel) (by decide +kernel)
set_option maxRecDepth 20000 in
theorem gX7_isLocked_X7_isLockedFor : GoodIn wsX7_isLocked (wsV RX7 110 RX7 yX7_isLockedFor wsX7_isLockedFor) := goodIn_app (goodIn_of _ (by decide +kernel)) ggX7_isLocked_X7_isLockedFor
theorem dX7_isLocked_0 : decode cX7_isLocked 0 = .ok (.aload_n 0, 1) := by decide +kernel
theorem dX7_isLocked_1 : decode cX7_isLocked 1 = .ok (.aload_n 0, 1) := by decide +kernel
theorem dX7_isLocked_2 : decode cX7_isLocked 2 = .ok (.iload_n 1, 1) := by decide +kernel
theorem dX7_isLocked_3 : decode cX7_isLocked 3 = .ok (.invokevirtual 84, 3) := by decide +kernel
theorem dX7_isLocked_6 : decode cX7_isLocked 6 = .ok (.ifCond .eq 10, 3) := by decide +kernel
theorem dX7_isLocked_9 : decode cX7_isLocked 9 = .ok (.iload_n 2, 1) := by decide +kernel
theorem dX7_isLocked_10 : decode cX7_isLocked 10 = .ok (.invokestatic 100, 3) := by decide +kernel
theorem dX7_isLocked_13 : decode cX7_isLocked 13 = .ok (.ifCond .ne 7, 3) := by decide +kernel
theorem dX7_isLocked_16 : decode cX7_isLocked 16 = .ok (.iconst 1, 1) := by decide +kernel
theorem dX7_isLocked_17 : decode cX7_isLocked 17 = .ok (.goto 15, 3) := by decide +kernel
theorem dX7_isLocked_20 : decode cX7_isLocked 20 = .ok (.iload_n 3, 1) := by decide +kernel
theorem dX7_isLocked_21 : decode cX7_isLocked 21 = .ok (.invokestatic 107, 3) := by decide +kernel
theorem dX7_isLocked_24 : decode cX7_isLocked 24 = .ok (.ifCond .eq 7, 3) := by decide +kernel
theorem dX7_isLocked_27 : decode cX7_isLocked 27 = .ok (.iconst 0, 1) := by decide +kernel
theorem dX7_isLocked_28 : decode cX7_isLocked 28 = .ok (.goto 4, 3) := by decide +kernel
theorem dX7_isLocked_31 : decode cX7_isLocked 31 = .ok (.iconst 2, 1) := by decide +kernel
theorem dX7_isLocked_32 : decode cX7_isLocked 32 = .ok (.invokevirtual 78, 3) := by decide +kernel
theorem dX7_isLocked_35 : decode cX7_isLocked 35 = .ok (.ifCond .eq 20, 3) := by decide +kernel
theorem dX7_isLocked_38 : decode cX7_isLocked 38 = .ok (.aload_n 0, 1) := by decide +kernel
theorem dX7_isLocked_39 : decode cX7_isLocked 39 = .ok (.iload_n 1, 1) := by decide +kernel
theorem dX7_isLocked_40 : decode cX7_isLocked 40 = .ok (.iload_n 2, 1) := by decide +kernel
theorem dX7_isLocked_41 : decode cX7_isLocked 41 = .ok (.invokestatic 103, 3) := by decide +kernel
theorem dX7_isLocked_44 : decode cX7_isLocked 44 = .ok (.iload_n 3, 1) := by decide +kernel
theorem dX7_isLocked_45 : decode cX7_isLocked 45 = .ok (.invokevirtual 110, 3) := by decide +kernel
theorem dX7_isLocked_48 : decode cX7_isLocked 48 = .ok (.ifCond .eq 7, 3) := by decide +kernel
theorem dX7_isLocked_51 : decode cX7_isLocked 51 = .ok (.iconst 1, 1) := by decide +kernel
theorem dX7_isLocked_52 : decode cX7_isLocked 52 = .ok (.goto 4, 3) := by decide +kernel
theorem dX7_isLocked_55 : decode cX7_isLocked 55 = .ok (.iconst 0, 1) := by decide +kernel
theorem dX7_isLocked_56 : decode cX7_isLocked 56 = .ok (.ireturn, 1) := by decide +kernel
theorem dX7_version_0 : decode cX7_version 0 = .ok (.aload_n 0, 1) := by decide +kernel
theorem dX7_version_1 : decode cX7_version 1 = .ok (.iconst 0, 1) := by decide +kernel
theorem dX7_version_2 : decode cX7_version 2 = .ok (.putfield 60, 3) := by decide +kernel
theorem dX7_version_5 : decode cX7_version 5 = .ok (.aload_n 0, 1) := by decide +kernel
theorem dX7_version_6 : decode cX7_version 6 = .ok (.getfield 94, 3) := by decide +kernel
theorem dX7_version_9 : decode cX7_version 9 = .ok (.ireturn, 1) := by decide +kernel
set_option maxRecDepth 20000 in
theorem ggX7_changedAt_X7_asksCell : GoodIn wsX7_changedAt wsX7_asksCell := goodIn_r _ [6, 7, 8, 9, 5, 10, 11, 12, 13, 14, 15, 16, 17, 18, 19, 20, 21, 22, 26, 27, 28, 29, 30, 31, 32, 33, 34, 35, 36, 37, 38, 39, 40, 41, 42, 43, 44, 45, 46, 47, 48, 49, 50, 51] (by decide +kernel) (by decide +kernel)
set_option maxRecDepth 20000 in
theorem gX7_changedAt_X7_asksCell : GoodIn wsX7_changedAt (wsV RX7 130 RX7 yX7_asksCell wsX7_asksCell) := goodIn_app (goodIn_of _ (by decide +kernel)) ggX7_changedAt_X7_asksCell
set_option maxRecDepth 20000 in
theorem ggX7_changedAt_X7_cell : GoodIn wsX7_changedAt wsX7_cell := goodIn_r _ [25] (by decide +kernel) (by decide +kernel)
set_option maxRecDepth 20000 in
theorem gX7_changedAt_X7_cell : GoodIn wsX7_changedAt (va_wsS RX7 103 yX7_cell wsX7_cell) := goodIn_app (goodIn_of _ (by decide +kernel)) ggX7_changedAt_X7_cell
theorem dX7_changedAt_0 : decode cX7_changedAt 0 = .ok (.aload_n 0, 1) := by decide +kernel
theorem dX7_changedAt_1 : decode cX7_changedAt 1 = .ok (.iload_n 1, 1) := by decide +kernel
theorem dX7_changedAt_2 : decode cX7_changedAt 2 = .ok (.iload_n 2, 1) := by decide +kernel
theorem dX7_changedAt_3 : decode cX7_changedAt 3 = .ok (.invokevirtual 130, 3) := by decide +kernel
theorem dX7_changedAt_6 : decode cX7_changedAt 6 = .ok (.ifCond .eq 16, 3) := by decide +kernel
theorem dX7_changedAt_9 : decode cX7_changedAt 9 = .ok (.aload_n 0, 1) := by decide +kernel
theorem dX7_changedAt_10 : decode cX7_changedAt 10 = .ok (.getfield 28, 3) := by decide +kernel
theorem dX7_changedAt_13 : decode cX7_changedAt 13 = .ok (.iload_n 1, 1) := by decide +kernel
theorem dX7_changedAt_14 : decode cX7_changedAt 14 = .ok (.iload_n 2, 1) := by decide +kernel
theorem dX7_changedAt_15 : decode cX7_changedAt 15 = .ok (.invokestatic 103, 3) := by decide +kernel
theorem dX7_changedAt_18 : decode cX7_changedAt 18 = .ok (.iaload, 1) := by decide +kernel
theorem dX7_changedAt_19 : decode cX7_changedAt 19 = .ok (.goto 4, 3) := by decide +kernel
theorem dX7_changedAt_22 : decode cX7_changedAt 22 = .ok (.iconst 0, 1) := by decide +kernel
theorem dX7_changedAt_23 : decode cX7_changedAt 23 = .ok (.ireturn, 1) := by decide +kernel
set_option maxRecDepth 20000 in
theorem ggX7_rollback_X7_isIn : GoodIn wsX7_rollback wsX7_isIn := goodIn_r _ [9] (by decide +kernel) (by decide +kernel)
set_option maxRecDepth 20000 in
theorem gX7_rollback_X7_isIn : GoodIn wsX7_rollback (va_wsS RX7 67 yX7_isIn wsX7_isIn) := goodIn_app (goodIn_of _ (by decide +kernel)) ggX7_rollback_X7_isIn
set_option maxRecDepth 20000 in
theorem ggX7_rollback_X7_isOwner : GoodIn wsX7_rollback wsX7_isOwner := goodIn_r _ [12, 6, 7, 8, 9] (by decide +kernel) (by decide +kernel)
set_option maxRecDepth 20000 in
theorem gX7_rollback_X7_isOwner : GoodIn wsX7_rollback (va_wsS RX7 107 yX7_isOwner wsX7_isOwner) := goodIn_app (goodIn_of _ (by decide +kernel)) ggX7_rollback_X7_isOwner
set_option maxRecDepth 20000 in
theorem ggX7_rollback_X7_goes : GoodIn wsX7_rollback wsX7_goes := goodIn_r _ [16, 17, 27, 28, 29, 30, 31, 32, 33, 34, 35, 36, 37, 38, 39, 40, 41, 42, 43, 44, 45, 46, 47, 48, 49, 50, 51, 52] (by decide +kernel) (by decide +kernel)
set_option maxRecDepth 20000 in
theorem gX7_rollback_X7_goes : GoodIn wsX7_rollback (wsV RX7 78 RX7 yX7_goes wsX7_goes) := goodIn_app (goodIn_of _ (by decide +kernel)) ggX7_rollback_X7_goes
set_option maxRecDepth 20000 in
theorem ggX7_rollback_X7_isLockedFor : GoodIn wsX7_rollback wsX7_isLockedFor := goodIn_r _ [21, 22, 27, 28, 29, 30, 31, 32, 33, 34, 35, 36, 37, 38, 39, 40, 41, 42, 43, 44, 45, 46, 47, 48, 49, 50, 51, 52] (by decide +kernel) (by decide +kernel)
set_option maxRecDepth 20000 in
theorem gX7_rollback_X7_isLockedFor : GoodIn wsX7_rollback (wsV RX7 110 RX7 yX7_isLockedFor wsX7_isLockedFor) := goodIn_app (goodIn_of _ (by decide +kernel)) ggX7_rollback_X7_isLockedFor
set_option maxRecDepth 20000 in
theorem ggX7_rollback_X7_versions : GoodIn wsX7_rollback wsX7_versions := goodIn_r _ [26, 1, 2, 3, 27, 28, 29, 30, 31, 32, 33, 34, 35, 36, 37, 38, 39, 40, 41, 42, 43, 44, 45, 46, 47, 48, 49, 50, 51, 52] (by decide +kernel) (by decide +kernel)
set_option maxRecDepth 20000 in
theorem gX7_rollback_X7_versions : GoodIn wsX7_rollback (wsV RX7 97 RX7 yX7_versions wsX7_versions) := goodIn_app (goodIn_of _ (by decide +kernel)) ggX7_rollback_X7_versions
theorem dX7_rollback_0 : decode cX7_rollback 0 = .ok (.aload_n 0, 1) := by decide +kernel
theorem dX7_rollback_1 : decode cX7_rollback 1 = .ok (.iload_n 1, 1) := by decide +kernel
theorem dX7_rollback_2 : decode cX7_rollback 2 = .ok (.iconst 0, 1) := by decide +kernel
theorem dX7_rollback_3 : decode cX7_rollback 3 = .ok (.aload_n 0, 1) := by decide +kernel
theorem dX7_rollback_4 : decode cX7_rollback 4 = .ok (.getfield 94, 3) := by decide +kernel
theorem dX7_rollback_7 : decode cX7_rollback 7 = .ok (.invokestatic 67, 3) := by decide +kernel
theorem dX7_rollback_10 : decode cX7_rollback 10 = .ok (.ifCond .ne 7, 3) := by decide +kernel
theorem dX7_rollback_13 : decode cX7_rollback 13 = .ok (.iconst 1, 1) := by decide +kernel
theorem dX7_rollback_14 : decode cX7_rollback 14 = .ok (.goto 15, 3) := by decide +kernel
theorem dX7_rollback_17 : decode cX7_rollback 17 = .ok (.iload_n 2, 1) := by decide +kernel
theorem dX7_rollback_18 : decode cX7_rollback 18 = .ok (.invokestatic 107, 3) := by decide +kernel
theorem dX7_rollback_21 : decode cX7_rollback 21 = .ok (.ifCond .eq 7, 3) := by decide +kernel
theorem dX7_rollback_24 : decode cX7_rollback 24 = .ok (.iconst 0, 1) := by decide +kernel
theorem dX7_rollback_25 : decode cX7_rollback 25 = .ok (.goto 4, 3) := by decide +kernel
theorem dX7_rollback_28 : decode cX7_rollback 28 = .ok (.iconst 2, 1) := by decide +kernel
theorem dX7_rollback_29 : decode cX7_rollback 29 = .ok (.invokevirtual 78, 3) := by decide +kernel
theorem dX7_rollback_32 : decode cX7_rollback 32 = .ok (.ifCond .ne 5, 3) := by decide +kernel
theorem dX7_rollback_35 : decode cX7_rollback 35 = .ok (.iconst 0, 1) := by decide +kernel
theorem dX7_rollback_36 : decode cX7_rollback 36 = .ok (.ireturn, 1) := by decide +kernel
theorem dX7_rollback_37 : decode cX7_rollback 37 = .ok (.iconst 0, 1) := by decide +kernel
theorem dX7_rollback_38 : decode cX7_rollback 38 = .ok (.istore_n 3, 1) := by decide +kernel
theorem dX7_rollback_39 : decode cX7_rollback 39 = .ok (.iconst 0, 1) := by decide +kernel
theorem dX7_rollback_40 : decode cX7_rollback 40 = .ok (.istore 4, 2) := by decide +kernel
theorem dX7_rollback_42 : decode cX7_rollback 42 = .ok (.iconst 0, 1) := by decide +kernel
theorem dX7_rollback_43 : decode cX7_rollback 43 = .ok (.istore 5, 2) := by decide +kernel
theorem dX7_rollback_45 : decode cX7_rollback 45 = .ok (.iload 5, 2) := by decide +kernel
theorem dX7_rollback_47 : decode cX7_rollback 47 = .ok (.sipush 128, 3) := by decide +kernel
theorem dX7_rollback_50 : decode cX7_rollback 50 = .ok (.if_icmp .ge 89, 3) := by decide +kernel
theorem dX7_rollback_53 : decode cX7_rollback 53 = .ok (.aload_n 0, 1) := by decide +kernel
theorem dX7_rollback_54 : decode cX7_rollback 54 = .ok (.getfield 41, 3) := by decide +kernel
theorem dX7_rollback_57 : decode cX7_rollback 57 = .ok (.sipush 128, 3) := by decide +kernel
theorem dX7_rollback_60 : decode cX7_rollback 60 = .ok (.iload_n 1, 1) := by decide +kernel
theorem dX7_rollback_61 : decode cX7_rollback 61 = .ok (.imul, 1) := by decide +kernel
theorem dX7_rollback_62 : decode cX7_rollback 62 = .ok (.iload 5, 2) := by decide +kernel
theorem dX7_rollback_64 : decode cX7_rollback 64 = .ok (.iadd, 1) := by decide +kernel
theorem dX7_rollback_65 : decode cX7_rollback 65 = .ok (.iaload, 1) := by decide +kernel
theorem dX7_rollback_66 : decode cX7_rollback 66 = .ok (.aload_n 0, 1) := by decide +kernel
theorem dX7_rollback_67 : decode cX7_rollback 67 = .ok (.getfield 25, 3) := by decide +kernel
theorem dX7_rollback_70 : decode cX7_rollback 70 = .ok (.iload 5, 2) := by decide +kernel
theorem dX7_rollback_72 : decode cX7_rollback 72 = .ok (.iaload, 1) := by decide +kernel
theorem dX7_rollback_73 : decode cX7_rollback 73 = .ok (.if_icmp .eq 7, 3) := by decide +kernel
theorem dX7_rollback_76 : decode cX7_rollback 76 = .ok (.iconst 1, 1) := by decide +kernel
theorem dX7_rollback_77 : decode cX7_rollback 77 = .ok (.goto 4, 3) := by decide +kernel
theorem dX7_rollback_80 : decode cX7_rollback 80 = .ok (.iconst 0, 1) := by decide +kernel
theorem dX7_rollback_81 : decode cX7_rollback 81 = .ok (.istore 6, 2) := by decide +kernel
theorem dX7_rollback_83 : decode cX7_rollback 83 = .ok (.iload_n 3, 1) := by decide +kernel
theorem dX7_rollback_84 : decode cX7_rollback 84 = .ok (.iload 6, 2) := by decide +kernel
theorem dX7_rollback_86 : decode cX7_rollback 86 = .ok (.ifCond .eq 7, 3) := by decide +kernel
theorem dX7_rollback_89 : decode cX7_rollback 89 = .ok (.iconst 1, 1) := by decide +kernel
theorem dX7_rollback_90 : decode cX7_rollback 90 = .ok (.goto 4, 3) := by decide +kernel
theorem dX7_rollback_93 : decode cX7_rollback 93 = .ok (.iconst 0, 1) := by decide +kernel
theorem dX7_rollback_94 : decode cX7_rollback 94 = .ok (.iadd, 1) := by decide +kernel
theorem dX7_rollback_95 : decode cX7_rollback 95 = .ok (.istore_n 3, 1) := by decide +kernel
theorem dX7_rollback_96 : decode cX7_rollback 96 = .ok (.iload 4, 2) := by decide +kernel
theorem dX7_rollback_98 : decode cX7_rollback 98 = .ok (.ifCond .ne 28, 3) := by decide +kernel
theorem dX7_rollback_101 : decode cX7_rollback 101 = .ok (.iload 6, 2) := by decide +kernel
theorem dX7_rollback_103 : decode cX7_rollback 103 = .ok (.ifCond .eq 27, 3) := by decide +kernel
theorem dX7_rollback_106 : decode cX7_rollback 106 = .ok (.aload_n 0, 1) := by decide +kernel
theorem dX7_rollback_107 : decode cX7_rollback 107 = .ok (.iload 5, 2) := by decide +kernel
theorem dX7_rollback_109 : decode cX7_rollback 109 = .ok (.iload_n 2, 1) := by decide +kernel
theorem dX7_rollback_110 : decode cX7_rollback 110 = .ok (.invokevirtual 110, 3) := by decide +kernel
theorem dX7_rollback_113 : decode cX7_rollback 113 = .ok (.ifCond .ne 13, 3) := by decide +kernel
theorem dX7_rollback_116 : decode cX7_rollback 116 = .ok (.aload_n 0, 1) := by decide +kernel
theorem dX7_rollback_117 : decode cX7_rollback 117 = .ok (.getfield 34, 3) := by decide +kernel
theorem dX7_rollback_120 : decode cX7_rollback 120 = .ok (.iload 5, 2) := by decide +kernel
theorem dX7_rollback_122 : decode cX7_rollback 122 = .ok (.iaload, 1) := by decide +kernel
theorem dX7_rollback_123 : decode cX7_rollback 123 = .ok (.ifCond .lt 7, 3) := by decide +kernel
theorem dX7_rollback_126 : decode cX7_rollback 126 = .ok (.iconst 1, 1) := by decide +kernel
theorem dX7_rollback_127 : decode cX7_rollback 127 = .ok (.goto 4, 3) := by decide +kernel
theorem dX7_rollback_130 : decode cX7_rollback 130 = .ok (.iconst 0, 1) := by decide +kernel
theorem dX7_rollback_131 : decode cX7_rollback 131 = .ok (.istore 4, 2) := by decide +kernel
theorem dX7_rollback_133 : decode cX7_rollback 133 = .ok (.iinc 5 1, 3) := by decide +kernel
theorem dX7_rollback_136 : decode cX7_rollback 136 = .ok (.goto (-91), 3) := by decide +kernel
theorem dX7_rollback_139 : decode cX7_rollback 139 = .ok (.aload_n 0, 1) := by decide +kernel
theorem dX7_rollback_140 : decode cX7_rollback 140 = .ok (.iload 4, 2) := by decide +kernel
theorem dX7_rollback_142 : decode cX7_rollback 142 = .ok (.ifCond .eq 7, 3) := by decide +kernel
theorem dX7_rollback_145 : decode cX7_rollback 145 = .ok (.iconst 3, 1) := by decide +kernel
theorem dX7_rollback_146 : decode cX7_rollback 146 = .ok (.goto 4, 3) := by decide +kernel
theorem dX7_rollback_149 : decode cX7_rollback 149 = .ok (.iconst 0, 1) := by decide +kernel
theorem dX7_rollback_150 : decode cX7_rollback 150 = .ok (.invokevirtual 78, 3) := by decide +kernel
theorem dX7_rollback_153 : decode cX7_rollback 153 = .ok (.ifCond .eq 7, 3) := by decide +kernel
theorem dX7_rollback_156 : decode cX7_rollback 156 = .ok (.iload_n 3, 1) := by decide +kernel
theorem dX7_rollback_157 : decode cX7_rollback 157 = .ok (.ifCond .ne 5, 3) := by decide +kernel
theorem dX7_rollback_160 : decode cX7_rollback 160 = .ok (.iconst 0, 1) := by decide +kernel
theorem dX7_rollback_161 : decode cX7_rollback 161 = .ok (.ireturn, 1) := by decide +kernel
theorem dX7_rollback_162 : decode cX7_rollback 162 = .ok (.iconst 0, 1) := by decide +kernel
theorem dX7_rollback_163 : decode cX7_rollback 163 = .ok (.istore 5, 2) := by decide +kernel
theorem dX7_rollback_165 : decode cX7_rollback 165 = .ok (.iload 5, 2) := by decide +kernel
theorem dX7_rollback_167 : decode cX7_rollback 167 = .ok (.sipush 128, 3) := by decide +kernel
theorem dX7_rollback_170 : decode cX7_rollback 170 = .ok (.if_icmp .ge 75, 3) := by decide +kernel
theorem dX7_rollback_173 : decode cX7_rollback 173 = .ok (.aload_n 0, 1) := by decide +kernel
theorem dX7_rollback_174 : decode cX7_rollback 174 = .ok (.getfield 28, 3) := by decide +kernel
theorem dX7_rollback_177 : decode cX7_rollback 177 = .ok (.iload 5, 2) := by decide +kernel
theorem dX7_rollback_179 : decode cX7_rollback 179 = .ok (.aload_n 0, 1) := by decide +kernel
theorem dX7_rollback_180 : decode cX7_rollback 180 = .ok (.getfield 41, 3) := by decide +kernel
theorem dX7_rollback_183 : decode cX7_rollback 183 = .ok (.sipush 128, 3) := by decide +kernel
theorem dX7_rollback_186 : decode cX7_rollback 186 = .ok (.iload_n 1, 1) := by decide +kernel
theorem dX7_rollback_187 : decode cX7_rollback 187 = .ok (.imul, 1) := by decide +kernel
theorem dX7_rollback_188 : decode cX7_rollback 188 = .ok (.iload 5, 2) := by decide +kernel
theorem dX7_rollback_190 : decode cX7_rollback 190 = .ok (.iadd, 1) := by decide +kernel
theorem dX7_rollback_191 : decode cX7_rollback 191 = .ok (.iaload, 1) := by decide +kernel
theorem dX7_rollback_192 : decode cX7_rollback 192 = .ok (.aload_n 0, 1) := by decide +kernel
theorem dX7_rollback_193 : decode cX7_rollback 193 = .ok (.getfield 25, 3) := by decide +kernel
theorem dX7_rollback_196 : decode cX7_rollback 196 = .ok (.iload 5, 2) := by decide +kernel
theorem dX7_rollback_198 : decode cX7_rollback 198 = .ok (.iaload, 1) := by decide +kernel
theorem dX7_rollback_199 : decode cX7_rollback 199 = .ok (.if_icmp .eq 12, 3) := by decide +kernel
theorem dX7_rollback_202 : decode cX7_rollback 202 = .ok (.aload_n 0, 1) := by decide +kernel
theorem dX7_rollback_203 : decode cX7_rollback 203 = .ok (.getfield 94, 3) := by decide +kernel
theorem dX7_rollback_206 : decode cX7_rollback 206 = .ok (.iconst 1, 1) := by decide +kernel
theorem dX7_rollback_207 : decode cX7_rollback 207 = .ok (.iadd, 1) := by decide +kernel
theorem dX7_rollback_208 : decode cX7_rollback 208 = .ok (.goto 10, 3) := by decide +kernel
theorem dX7_rollback_211 : decode cX7_rollback 211 = .ok (.aload_n 0, 1) := by decide +kernel
theorem dX7_rollback_212 : decode cX7_rollback 212 = .ok (.getfield 28, 3) := by decide +kernel
theorem dX7_rollback_215 : decode cX7_rollback 215 = .ok (.iload 5, 2) := by decide +kernel
theorem dX7_rollback_217 : decode cX7_rollback 217 = .ok (.iaload, 1) := by decide +kernel
theorem dX7_rollback_218 : decode cX7_rollback 218 = .ok (.iastore, 1) := by decide +kernel
theorem dX7_rollback_219 : decode cX7_rollback 219 = .ok (.aload_n 0, 1) := by decide +kernel
theorem dX7_rollback_220 : decode cX7_rollback 220 = .ok (.getfield 25, 3) := by decide +kernel
theorem dX7_rollback_223 : decode cX7_rollback 223 = .ok (.iload 5, 2) := by decide +kernel
theorem dX7_rollback_225 : decode cX7_rollback 225 = .ok (.aload_n 0, 1) := by decide +kernel
theorem dX7_rollback_226 : decode cX7_rollback 226 = .ok (.getfield 41, 3) := by decide +kernel
theorem dX7_rollback_229 : decode cX7_rollback 229 = .ok (.sipush 128, 3) := by decide +kernel
theorem dX7_rollback_232 : decode cX7_rollback 232 = .ok (.iload_n 1, 1) := by decide +kernel
theorem dX7_rollback_233 : decode cX7_rollback 233 = .ok (.imul, 1) := by decide +kernel
theorem dX7_rollback_234 : decode cX7_rollback 234 = .ok (.iload 5, 2) := by decide +kernel
theorem dX7_rollback_236 : decode cX7_rollback 236 = .ok (.iadd, 1) := by decide +kernel
theorem dX7_rollback_237 : decode cX7_rollback 237 = .ok (.iaload, 1) := by decide +kernel
theorem dX7_rollback_238 : decode cX7_rollback 238 = .ok (.iastore, 1) := by decide +kernel
theorem dX7_rollback_239 : decode cX7_rollback 239 = .ok (.iinc 5 1, 3) := by decide +kernel
theorem dX7_rollback_242 : decode cX7_rollback 242 = .ok (.goto (-77), 3) := by decide +kernel
theorem dX7_rollback_245 : decode cX7_rollback 245 = .ok (.aload_n 0, 1) := by decide +kernel
theorem dX7_rollback_246 : decode cX7_rollback 246 = .ok (.invokevirtual 97, 3) := by decide +kernel
theorem dX7_rollback_249 : decode cX7_rollback 249 = .ok (.iload_n 3, 1) := by decide +kernel
theorem dX7_rollback_250 : decode cX7_rollback 250 = .ok (.ireturn, 1) := by decide +kernel
set_option maxRecDepth 20000 in
theorem ggX7_isRolledTo_X7_bucket : GoodIn wsX7_isRolledTo wsX7_bucket := goodIn_r _ [5] (by decide +kernel) (by decide +kernel)
set_option maxRecDepth 20000 in
theorem gX7_isRolledTo_X7_bucket : GoodIn wsX7_isRolledTo (va_wsS RX7 137 yX7_bucket wsX7_bucket) := goodIn_app (goodIn_of _ (by decide +kernel)) ggX7_isRolledTo_X7_bucket
theorem dX7_isRolledTo_0 : decode cX7_isRolledTo 0 = .ok (.iload_n 3, 1) := by decide +kernel
theorem dX7_isRolledTo_1 : decode cX7_isRolledTo 1 = .ok (.iconst (-1), 1) := by decide +kernel
theorem dX7_isRolledTo_2 : decode cX7_isRolledTo 2 = .ok (.if_icmp .ne 30, 3) := by decide +kernel
theorem dX7_isRolledTo_5 : decode cX7_isRolledTo 5 = .ok (.aload_n 0, 1) := by decide +kernel
theorem dX7_isRolledTo_6 : decode cX7_isRolledTo 6 = .ok (.getfield 34, 3) := by decide +kernel
theorem dX7_isRolledTo_9 : decode cX7_isRolledTo 9 = .ok (.iload_n 2, 1) := by decide +kernel
theorem dX7_isRolledTo_10 : decode cX7_isRolledTo 10 = .ok (.iaload, 1) := by decide +kernel
theorem dX7_isRolledTo_11 : decode cX7_isRolledTo 11 = .ok (.ifCond .lt 21, 3) := by decide +kernel
theorem dX7_isRolledTo_14 : decode cX7_isRolledTo 14 = .ok (.iload_n 1, 1) := by decide +kernel
theorem dX7_isRolledTo_15 : decode cX7_isRolledTo 15 = .ok (.iload_n 2, 1) := by decide +kernel
theorem dX7_isRolledTo_16 : decode cX7_isRolledTo 16 = .ok (.invokestatic 137, 3) := by decide +kernel
theorem dX7_isRolledTo_19 : decode cX7_isRolledTo 19 = .ok (.aload_n 0, 1) := by decide +kernel
theorem dX7_isRolledTo_20 : decode cX7_isRolledTo 20 = .ok (.getfield 34, 3) := by decide +kernel
theorem dX7_isRolledTo_23 : decode cX7_isRolledTo 23 = .ok (.iload_n 2, 1) := by decide +kernel
theorem dX7_isRolledTo_24 : decode cX7_isRolledTo 24 = .ok (.iaload, 1) := by decide +kernel
theorem dX7_isRolledTo_25 : decode cX7_isRolledTo 25 = .ok (.if_icmp .ge 7, 3) := by decide +kernel
theorem dX7_isRolledTo_28 : decode cX7_isRolledTo 28 = .ok (.iconst 1, 1) := by decide +kernel
theorem dX7_isRolledTo_29 : decode cX7_isRolledTo 29 = .ok (.goto 4, 3) := by decide +kernel
theorem dX7_isRolledTo_32 : decode cX7_isRolledTo 32 = .ok (.iconst 0, 1) := by decide +kernel
theorem dX7_isRolledTo_33 : decode cX7_isRolledTo 33 = .ok (.ireturn, 1) := by decide +kernel
set_option maxRecDepth 20000 in
theorem ggX7_shown_X7_isRolledTo : GoodIn wsX7_shown wsX7_isRolledTo := goodIn_r _ [8, 9, 10, 11, 7, 12, 13, 14, 15, 16, 17, 18, 19, 20, 21, 22, 23, 24, 25, 26, 27, 28, 29, 30, 31, 32, 33, 34, 35, 36, 37, 38] (by decide +kernel) (by decide +kernel)
set_option maxRecDepth 20000 in
theorem gX7_shown_X7_isRolledTo : GoodIn wsX7_shown (wsV RX7 153 RX7 yX7_isRolledTo wsX7_isRolledTo) := goodIn_app (goodIn_of _ (by decide +kernel)) ggX7_shown_X7_isRolledTo
theorem dX7_shown_0 : decode cX7_shown 0 = .ok (.aload_n 0, 1) := by decide +kernel
theorem dX7_shown_1 : decode cX7_shown 1 = .ok (.iload_n 1, 1) := by decide +kernel
theorem dX7_shown_2 : decode cX7_shown 2 = .ok (.iload_n 2, 1) := by decide +kernel
theorem dX7_shown_3 : decode cX7_shown 3 = .ok (.iload_n 3, 1) := by decide +kernel
theorem dX7_shown_4 : decode cX7_shown 4 = .ok (.invokevirtual 153, 3) := by decide +kernel
theorem dX7_shown_7 : decode cX7_shown 7 = .ok (.ifCond .eq 12, 3) := by decide +kernel
theorem dX7_shown_10 : decode cX7_shown 10 = .ok (.aload_n 0, 1) := by decide +kernel
theorem dX7_shown_11 : decode cX7_shown 11 = .ok (.getfield 31, 3) := by decide +kernel
theorem dX7_shown_14 : decode cX7_shown 14 = .ok (.iload_n 2, 1) := by decide +kernel
theorem dX7_shown_15 : decode cX7_shown 15 = .ok (.iaload, 1) := by decide +kernel
theorem dX7_shown_16 : decode cX7_shown 16 = .ok (.goto 29, 3) := by decide +kernel
theorem dX7_shown_19 : decode cX7_shown 19 = .ok (.iload_n 3, 1) := by decide +kernel
theorem dX7_shown_20 : decode cX7_shown 20 = .ok (.iconst (-1), 1) := by decide +kernel
theorem dX7_shown_21 : decode cX7_shown 21 = .ok (.if_icmp .ne 12, 3) := by decide +kernel
theorem dX7_shown_24 : decode cX7_shown 24 = .ok (.aload_n 0, 1) := by decide +kernel
theorem dX7_shown_25 : decode cX7_shown 25 = .ok (.getfield 25, 3) := by decide +kernel
theorem dX7_shown_28 : decode cX7_shown 28 = .ok (.iload_n 2, 1) := by decide +kernel
theorem dX7_shown_29 : decode cX7_shown 29 = .ok (.iaload, 1) := by decide +kernel
theorem dX7_shown_30 : decode cX7_shown 30 = .ok (.goto 15, 3) := by decide +kernel
theorem dX7_shown_33 : decode cX7_shown 33 = .ok (.aload_n 0, 1) := by decide +kernel
theorem dX7_shown_34 : decode cX7_shown 34 = .ok (.getfield 41, 3) := by decide +kernel
theorem dX7_shown_37 : decode cX7_shown 37 = .ok (.sipush 128, 3) := by decide +kernel
theorem dX7_shown_40 : decode cX7_shown 40 = .ok (.iload_n 3, 1) := by decide +kernel
theorem dX7_shown_41 : decode cX7_shown 41 = .ok (.imul, 1) := by decide +kernel
theorem dX7_shown_42 : decode cX7_shown 42 = .ok (.iload_n 2, 1) := by decide +kernel
theorem dX7_shown_43 : decode cX7_shown 43 = .ok (.iadd, 1) := by decide +kernel
theorem dX7_shown_44 : decode cX7_shown 44 = .ok (.iaload, 1) := by decide +kernel
theorem dX7_shown_45 : decode cX7_shown 45 = .ok (.ireturn, 1) := by decide +kernel
set_option maxRecDepth 20000 in
theorem ggX7_deciding_X7_isFor : GoodIn wsX7_deciding wsX7_isFor := goodIn_r _ [6, 7, 8, 9, 10, 34, 35, 36, 37, 38, 39, 40, 41, 42, 43, 44, 45, 46, 47, 48, 49, 50, 51, 52, 53, 54, 55, 56, 57, 58, 59] (by decide +kernel) (by decide +kernel)
set_option maxRecDepth 20000 in
theorem gX7_deciding_X7_isFor : GoodIn wsX7_deciding (wsV RX7 91 RX7 yX7_isFor wsX7_isFor) := goodIn_app (goodIn_of _ (by decide +kernel)) ggX7_deciding_X7_isFor
set_option maxRecDepth 20000 in
theorem ggX7_deciding_X7_cell : GoodIn wsX7_deciding wsX7_cell := goodIn_r _ [13] (by decide +kernel) (by decide +kernel)
set_option maxRecDepth 20000 in
theorem gX7_deciding_X7_cell : GoodIn wsX7_deciding (va_wsS RX7 103 yX7_cell wsX7_cell) := goodIn_app (goodIn_of _ (by decide +kernel)) ggX7_deciding_X7_cell
set_option maxRecDepth 20000 in
theorem ggX7_deciding_X7_shown : GoodIn wsX7_deciding wsX7_shown := goodIn_r _ [17, 18, 19, 20, 21, 22, 23, 5, 24, 25, 26, 27, 28, 34, 35, 36, 37, 38, 39, 40, 41, 42, 43, 44, 45, 46, 47, 48, 49, 50, 51, 52, 53, 54, 55, 56, 57, 58, 59] (by decide +kernel) (by decide +kernel)
set_option maxRecDepth 20000 in
theorem gX7_deciding_X7_shown : GoodIn wsX7_deciding (wsV RX7 156 RX7 yX7_shown wsX7_shown) := goodIn_app (goodIn_of _ (by decide +kernel)) ggX7_deciding_X7_shown
set_option maxRecDepth 20000 in
theorem ggX7_deciding_X7_isAhead : GoodIn wsX7_deciding wsX7_isAhead := goodIn_r _ [32, 33, 34, 35, 36, 37, 38, 39, 40, 41, 42, 43, 44, 45, 46, 47, 48, 49, 50, 51, 52, 53, 54, 55, 56, 57, 58, 59] (by decide +kernel) (by decide +kernel)
set_option maxRecDepth 20000 in
theorem gX7_deciding_X7_isAhead : GoodIn wsX7_deciding (wsV RX7 87 RX7 yX7_isAhead wsX7_isAhead) := goodIn_app (goodIn_of _ (by decide +kernel)) ggX7_deciding_X7_isAhead
theorem dX7_deciding_0 : decode cX7_deciding 0 = .ok (.iconst (-1), 1) := by decide +kernel
theorem dX7_deciding_1 : decode cX7_deciding 1 = .ok (.istore 4, 2) := by decide +kernel
theorem dX7_deciding_3 : decode cX7_deciding 3 = .ok (.iconst 0, 1) := by decide +kernel
theorem dX7_deciding_4 : decode cX7_deciding 4 = .ok (.istore 5, 2) := by decide +kernel
theorem dX7_deciding_6 : decode cX7_deciding 6 = .ok (.iload 5, 2) := by decide +kernel
theorem dX7_deciding_8 : decode cX7_deciding 8 = .ok (.aload_n 0, 1) := by decide +kernel
theorem dX7_deciding_9 : decode cX7_deciding 9 = .ok (.getfield 71, 3) := by decide +kernel
theorem dX7_deciding_12 : decode cX7_deciding 12 = .ok (.if_icmp .ge 72, 3) := by decide +kernel
theorem dX7_deciding_15 : decode cX7_deciding 15 = .ok (.aload_n 0, 1) := by decide +kernel
theorem dX7_deciding_16 : decode cX7_deciding 16 = .ok (.iload 5, 2) := by decide +kernel
theorem dX7_deciding_18 : decode cX7_deciding 18 = .ok (.iload_n 1, 1) := by decide +kernel
theorem dX7_deciding_19 : decode cX7_deciding 19 = .ok (.invokevirtual 91, 3) := by decide +kernel
theorem dX7_deciding_22 : decode cX7_deciding 22 = .ok (.ifCond .eq 22, 3) := by decide +kernel
theorem dX7_deciding_25 : decode cX7_deciding 25 = .ok (.aload_n 0, 1) := by decide +kernel
theorem dX7_deciding_26 : decode cX7_deciding 26 = .ok (.iload_n 1, 1) := by decide +kernel
theorem dX7_deciding_27 : decode cX7_deciding 27 = .ok (.iload 5, 2) := by decide +kernel
theorem dX7_deciding_29 : decode cX7_deciding 29 = .ok (.iload_n 2, 1) := by decide +kernel
theorem dX7_deciding_30 : decode cX7_deciding 30 = .ok (.invokestatic 103, 3) := by decide +kernel
theorem dX7_deciding_33 : decode cX7_deciding 33 = .ok (.iload_n 3, 1) := by decide +kernel
theorem dX7_deciding_34 : decode cX7_deciding 34 = .ok (.invokevirtual 156, 3) := by decide +kernel
theorem dX7_deciding_37 : decode cX7_deciding 37 = .ok (.ifCond .le 7, 3) := by decide +kernel
theorem dX7_deciding_40 : decode cX7_deciding 40 = .ok (.iconst 1, 1) := by decide +kernel
theorem dX7_deciding_41 : decode cX7_deciding 41 = .ok (.goto 4, 3) := by decide +kernel
theorem dX7_deciding_44 : decode cX7_deciding 44 = .ok (.iconst 0, 1) := by decide +kernel
theorem dX7_deciding_45 : decode cX7_deciding 45 = .ok (.istore 6, 2) := by decide +kernel
theorem dX7_deciding_47 : decode cX7_deciding 47 = .ok (.iload 6, 2) := by decide +kernel
theorem dX7_deciding_49 : decode cX7_deciding 49 = .ok (.ifCond .eq 25, 3) := by decide +kernel
theorem dX7_deciding_52 : decode cX7_deciding 52 = .ok (.iload 4, 2) := by decide +kernel
theorem dX7_deciding_54 : decode cX7_deciding 54 = .ok (.iconst (-1), 1) := by decide +kernel
theorem dX7_deciding_55 : decode cX7_deciding 55 = .ok (.if_icmp .eq 14, 3) := by decide +kernel
theorem dX7_deciding_58 : decode cX7_deciding 58 = .ok (.aload_n 0, 1) := by decide +kernel
theorem dX7_deciding_59 : decode cX7_deciding 59 = .ok (.iload 5, 2) := by decide +kernel
theorem dX7_deciding_61 : decode cX7_deciding 61 = .ok (.iload 4, 2) := by decide +kernel
theorem dX7_deciding_63 : decode cX7_deciding 63 = .ok (.invokevirtual 87, 3) := by decide +kernel
theorem dX7_deciding_66 : decode cX7_deciding 66 = .ok (.ifCond .eq 8, 3) := by decide +kernel
theorem dX7_deciding_69 : decode cX7_deciding 69 = .ok (.iload 5, 2) := by decide +kernel
theorem dX7_deciding_71 : decode cX7_deciding 71 = .ok (.goto 5, 3) := by decide +kernel
theorem dX7_deciding_74 : decode cX7_deciding 74 = .ok (.iload 4, 2) := by decide +kernel
theorem dX7_deciding_76 : decode cX7_deciding 76 = .ok (.istore 4, 2) := by decide +kernel
theorem dX7_deciding_78 : decode cX7_deciding 78 = .ok (.iinc 5 1, 3) := by decide +kernel
theorem dX7_deciding_81 : decode cX7_deciding 81 = .ok (.goto (-75), 3) := by decide +kernel
theorem dX7_deciding_84 : decode cX7_deciding 84 = .ok (.iload 4, 2) := by decide +kernel
theorem dX7_deciding_86 : decode cX7_deciding 86 = .ok (.ireturn, 1) := by decide +kernel
theorem dX7_fails_0 : decode cX7_fails 0 = .ok (.aload_n 0, 1) := by decide +kernel
theorem dX7_fails_1 : decode cX7_fails 1 = .ok (.iload_n 1, 1) := by decide +kernel
theorem dX7_fails_2 : decode cX7_fails 2 = .ok (.putfield 159, 3) := by decide +kernel
theorem dX7_fails_5 : decode cX7_fails 5 = .ok (.aload_n 0, 1) := by decide +kernel
theorem dX7_fails_6 : decode cX7_fails 6 = .ok (.iload_n 2, 1) := by decide +kernel
theorem dX7_fails_7 : decode cX7_fails 7 = .ok (.putfield 162, 3) := by decide +kernel
theorem dX7_fails_10 : decode cX7_fails 10 = .ok (.return_, 1) := by decide +kernel
set_option maxRecDepth 20000 in
theorem ggX7_needs_X7_deciding : GoodIn wsX7_needs wsX7_deciding := goodIn_r _ [14, 15, 16, 17, 18, 13, 19, 20, 21, 22, 23, 24, 25, 26, 27, 28, 29, 30, 31, 32, 33, 34, 35, 36, 37, 38, 39, 40, 41, 42, 43, 44, 45, 46, 56, 57, 58, 59, 60, 61, 62, 63, 64, 65, 66, 67, 68, 69, 70, 71, 72, 73, 74, 75, 76, 77, 78, 79, 80, 81] (by decide +kernel) (by decide +kernel)
set_option maxRecDepth 20000 in
theorem gX7_needs_X7_deciding : GoodIn wsX7_needs (wsV RX7 165 RX7 yX7_deciding wsX7_deciding) := goodIn_app (goodIn_of _ (by decide +kernel)) ggX7_needs_X7_deciding
set_option maxRecDepth 20000 in
theorem ggX7_needs_X7_fails : GoodIn wsX7_needs wsX7_fails := goodIn_r _ [50, 51, 52, 56, 57, 58, 59, 60, 61, 62, 63, 64, 65, 66, 67, 68, 69, 70, 71, 72, 73, 74, 75, 76, 77, 78, 79, 80, 81] (by decide +kernel) (by decide +kernel)
set_option maxRecDepth 20000 in
theorem gX7_needs_X7_fails : GoodIn wsX7_needs (wsV RX7 180 RX7 yX7_fails wsX7_fails) := goodIn_app (goodIn_of _ (by decide +kernel)) ggX7_needs_X7_fails
set_option maxRecDepth 20000 in
theorem ggX7_needs_X7_cell : GoodIn wsX7_needs wsX7_cell := goodIn_r _ [26] (by decide +kernel) (by decide +kernel)
set_option maxRecDepth 20000 in
theorem gX7_needs_X7_cell : GoodIn wsX7_needs (va_wsS RX7 103 yX7_cell wsX7_cell) := goodIn_app (goodIn_of _ (by decide +kernel)) ggX7_needs_X7_cell
set_option maxRecDepth 20000 in
theorem ggX7_needs_X7_shown : GoodIn wsX7_needs wsX7_shown := goodIn_r _ [30, 31, 32, 33, 34, 35, 36, 13, 37, 38, 39, 40, 41, 56, 57, 58, 59, 60, 61, 62, 63, 64, 65, 66, 67, 68, 69, 70, 71, 72, 73, 74, 75, 76, 77, 78, 79, 80, 81] (by decide +kernel) (by decide +kernel)
set_option maxRecDepth 20000 in
theorem gX7_needs_X7_shown : GoodIn wsX7_needs (wsV RX7 156 RX7 yX7_shown wsX7_shown) := goodIn_app (goodIn_of _ (by decide +kernel)) ggX7_needs_X7_shown
set_option maxRecDepth 20000 in
theorem ggX7_needs_X7_baseOf : GoodIn wsX7_needs wsX7_baseOf := goodIn_r _ [55] (by decide +kernel) (by decide +kernel)
set_option maxRecDepth 20000 in
theorem gX7_needs_X7_baseOf : GoodIn wsX7_needs (va_wsS RX7 183 yX7_baseOf wsX7_baseOf) := goodIn_app (goodIn_of _ (by decide +kernel)) ggX7_needs_X7_baseOf
theorem dX7_needs_0 : decode cX7_needs 0 = .ok (.aload_n 0, 1) := by decide +kernel
theorem dX7_needs_1 : decode cX7_needs 1 = .ok (.iload_n 1, 1) := by decide +kernel
theorem dX7_needs_2 : decode cX7_needs 2 = .ok (.iload_n 2, 1) := by decide +kernel
theorem dX7_needs_3 : decode cX7_needs 3 = .ok (.iload_n 3, 1) := by decide +kernel
theorem dX7_needs_4 : decode cX7_needs 4 = .ok (.invokevirtual 165, 3) := by decide +kernel
theorem dX7_needs_7 : decode cX7_needs 7 = .ok (.istore 4, 2) := by decide +kernel
theorem dX7_needs_9 : decode cX7_needs 9 = .ok (.aload_n 0, 1) := by decide +kernel
theorem dX7_needs_10 : decode cX7_needs 10 = .ok (.dup, 1) := by decide +kernel
theorem dX7_needs_11 : decode cX7_needs 11 = .ok (.getfield 168, 3) := by decide +kernel
theorem dX7_needs_14 : decode cX7_needs 14 = .ok (.iconst 1, 1) := by decide +kernel
theorem dX7_needs_15 : decode cX7_needs 15 = .ok (.iload_n 2, 1) := by decide +kernel
theorem dX7_needs_16 : decode cX7_needs 16 = .ok (.ishl, 1) := by decide +kernel
theorem dX7_needs_17 : decode cX7_needs 17 = .ok (.ior, 1) := by decide +kernel
theorem dX7_needs_18 : decode cX7_needs 18 = .ok (.putfield 168, 3) := by decide +kernel
theorem dX7_needs_21 : decode cX7_needs 21 = .ok (.aload_n 0, 1) := by decide +kernel
theorem dX7_needs_22 : decode cX7_needs 22 = .ok (.getfield 171, 3) := by decide +kernel
theorem dX7_needs_25 : decode cX7_needs 25 = .ok (.iload_n 2, 1) := by decide +kernel
theorem dX7_needs_26 : decode cX7_needs 26 = .ok (.ishr, 1) := by decide +kernel
theorem dX7_needs_27 : decode cX7_needs 27 = .ok (.iconst 1, 1) := by decide +kernel
theorem dX7_needs_28 : decode cX7_needs 28 = .ok (.iand, 1) := by decide +kernel
theorem dX7_needs_29 : decode cX7_needs 29 = .ok (.iconst 1, 1) := by decide +kernel
theorem dX7_needs_30 : decode cX7_needs 30 = .ok (.if_icmp .ne 24, 3) := by decide +kernel
theorem dX7_needs_33 : decode cX7_needs 33 = .ok (.aload_n 0, 1) := by decide +kernel
theorem dX7_needs_34 : decode cX7_needs 34 = .ok (.getfield 50, 3) := by decide +kernel
theorem dX7_needs_37 : decode cX7_needs 37 = .ok (.aload_n 0, 1) := by decide +kernel
theorem dX7_needs_38 : decode cX7_needs 38 = .ok (.getfield 174, 3) := by decide +kernel
theorem dX7_needs_41 : decode cX7_needs 41 = .ok (.dup2, 1) := by decide +kernel
theorem dX7_needs_42 : decode cX7_needs 42 = .ok (.laload, 1) := by decide +kernel
theorem dX7_needs_43 : decode cX7_needs 43 = .ok (.aload_n 0, 1) := by decide +kernel
theorem dX7_needs_44 : decode cX7_needs 44 = .ok (.getfield 57, 3) := by decide +kernel
theorem dX7_needs_47 : decode cX7_needs 47 = .ok (.iload_n 2, 1) := by decide +kernel
theorem dX7_needs_48 : decode cX7_needs 48 = .ok (.laload, 1) := by decide +kernel
theorem dX7_needs_49 : decode cX7_needs 49 = .ok (.ladd, 1) := by decide +kernel
theorem dX7_needs_50 : decode cX7_needs 50 = .ok (.lastore, 1) := by decide +kernel
theorem dX7_needs_51 : decode cX7_needs 51 = .ok (.goto 125, 3) := by decide +kernel
theorem dX7_needs_54 : decode cX7_needs 54 = .ok (.iload 4, 2) := by decide +kernel
theorem dX7_needs_56 : decode cX7_needs 56 = .ok (.iconst (-1), 1) := by decide +kernel
theorem dX7_needs_57 : decode cX7_needs 57 = .ok (.if_icmp .eq 15, 3) := by decide +kernel
theorem dX7_needs_60 : decode cX7_needs 60 = .ok (.aload_n 0, 1) := by decide +kernel
theorem dX7_needs_61 : decode cX7_needs 61 = .ok (.getfield 177, 3) := by decide +kernel
theorem dX7_needs_64 : decode cX7_needs 64 = .ok (.iload_n 2, 1) := by decide +kernel
theorem dX7_needs_65 : decode cX7_needs 65 = .ok (.ishr, 1) := by decide +kernel
theorem dX7_needs_66 : decode cX7_needs 66 = .ok (.iconst 1, 1) := by decide +kernel
theorem dX7_needs_67 : decode cX7_needs 67 = .ok (.iand, 1) := by decide +kernel
theorem dX7_needs_68 : decode cX7_needs 68 = .ok (.iconst 1, 1) := by decide +kernel
theorem dX7_needs_69 : decode cX7_needs 69 = .ok (.if_icmp .ne 22, 3) := by decide +kernel
theorem dX7_needs_72 : decode cX7_needs 72 = .ok (.aload_n 0, 1) := by decide +kernel
theorem dX7_needs_73 : decode cX7_needs 73 = .ok (.iload 4, 2) := by decide +kernel
theorem dX7_needs_75 : decode cX7_needs 75 = .ok (.iconst (-1), 1) := by decide +kernel
theorem dX7_needs_76 : decode cX7_needs 76 = .ok (.if_icmp .ne 7, 3) := by decide +kernel
theorem dX7_needs_79 : decode cX7_needs 79 = .ok (.iconst 1, 1) := by decide +kernel
theorem dX7_needs_80 : decode cX7_needs 80 = .ok (.goto 4, 3) := by decide +kernel
theorem dX7_needs_83 : decode cX7_needs 83 = .ok (.iconst 2, 1) := by decide +kernel
theorem dX7_needs_84 : decode cX7_needs 84 = .ok (.iload_n 2, 1) := by decide +kernel
theorem dX7_needs_85 : decode cX7_needs 85 = .ok (.invokevirtual 180, 3) := by decide +kernel
theorem dX7_needs_88 : decode cX7_needs 88 = .ok (.goto 88, 3) := by decide +kernel
theorem dX7_needs_91 : decode cX7_needs 91 = .ok (.aload_n 0, 1) := by decide +kernel
theorem dX7_needs_92 : decode cX7_needs 92 = .ok (.dup, 1) := by decide +kernel
theorem dX7_needs_93 : decode cX7_needs 93 = .ok (.getfield 174, 3) := by decide +kernel
theorem dX7_needs_96 : decode cX7_needs 96 = .ok (.iconst 1, 1) := by decide +kernel
theorem dX7_needs_97 : decode cX7_needs 97 = .ok (.iadd, 1) := by decide +kernel
theorem dX7_needs_98 : decode cX7_needs 98 = .ok (.putfield 174, 3) := by decide +kernel
theorem dX7_needs_101 : decode cX7_needs 101 = .ok (.aload_n 0, 1) := by decide +kernel
theorem dX7_needs_102 : decode cX7_needs 102 = .ok (.dup, 1) := by decide +kernel
theorem dX7_needs_103 : decode cX7_needs 103 = .ok (.getfield 177, 3) := by decide +kernel
theorem dX7_needs_106 : decode cX7_needs 106 = .ok (.iconst 1, 1) := by decide +kernel
theorem dX7_needs_107 : decode cX7_needs 107 = .ok (.iload_n 2, 1) := by decide +kernel
theorem dX7_needs_108 : decode cX7_needs 108 = .ok (.ishl, 1) := by decide +kernel
theorem dX7_needs_109 : decode cX7_needs 109 = .ok (.ior, 1) := by decide +kernel
theorem dX7_needs_110 : decode cX7_needs 110 = .ok (.putfield 177, 3) := by decide +kernel
theorem dX7_needs_113 : decode cX7_needs 113 = .ok (.aload_n 0, 1) := by decide +kernel
theorem dX7_needs_114 : decode cX7_needs 114 = .ok (.getfield 44, 3) := by decide +kernel
theorem dX7_needs_117 : decode cX7_needs 117 = .ok (.aload_n 0, 1) := by decide +kernel
theorem dX7_needs_118 : decode cX7_needs 118 = .ok (.getfield 174, 3) := by decide +kernel
theorem dX7_needs_121 : decode cX7_needs 121 = .ok (.iload_n 2, 1) := by decide +kernel
theorem dX7_needs_122 : decode cX7_needs 122 = .ok (.iastore, 1) := by decide +kernel
theorem dX7_needs_123 : decode cX7_needs 123 = .ok (.aload_n 0, 1) := by decide +kernel
theorem dX7_needs_124 : decode cX7_needs 124 = .ok (.getfield 47, 3) := by decide +kernel
theorem dX7_needs_127 : decode cX7_needs 127 = .ok (.aload_n 0, 1) := by decide +kernel
theorem dX7_needs_128 : decode cX7_needs 128 = .ok (.getfield 174, 3) := by decide +kernel
theorem dX7_needs_131 : decode cX7_needs 131 = .ok (.aload_n 0, 1) := by decide +kernel
theorem dX7_needs_132 : decode cX7_needs 132 = .ok (.iload_n 1, 1) := by decide +kernel
theorem dX7_needs_133 : decode cX7_needs 133 = .ok (.iload 4, 2) := by decide +kernel
theorem dX7_needs_135 : decode cX7_needs 135 = .ok (.iload_n 2, 1) := by decide +kernel
theorem dX7_needs_136 : decode cX7_needs 136 = .ok (.invokestatic 103, 3) := by decide +kernel
theorem dX7_needs_139 : decode cX7_needs 139 = .ok (.iload_n 3, 1) := by decide +kernel
theorem dX7_needs_140 : decode cX7_needs 140 = .ok (.invokevirtual 156, 3) := by decide +kernel
theorem dX7_needs_143 : decode cX7_needs 143 = .ok (.iastore, 1) := by decide +kernel
theorem dX7_needs_144 : decode cX7_needs 144 = .ok (.aload_n 0, 1) := by decide +kernel
theorem dX7_needs_145 : decode cX7_needs 145 = .ok (.getfield 50, 3) := by decide +kernel
theorem dX7_needs_148 : decode cX7_needs 148 = .ok (.aload_n 0, 1) := by decide +kernel
theorem dX7_needs_149 : decode cX7_needs 149 = .ok (.getfield 174, 3) := by decide +kernel
theorem dX7_needs_152 : decode cX7_needs 152 = .ok (.aload_n 0, 1) := by decide +kernel
theorem dX7_needs_153 : decode cX7_needs 153 = .ok (.getfield 47, 3) := by decide +kernel
theorem dX7_needs_156 : decode cX7_needs 156 = .ok (.aload_n 0, 1) := by decide +kernel
theorem dX7_needs_157 : decode cX7_needs 157 = .ok (.getfield 174, 3) := by decide +kernel
theorem dX7_needs_160 : decode cX7_needs 160 = .ok (.iaload, 1) := by decide +kernel
theorem dX7_needs_161 : decode cX7_needs 161 = .ok (.invokestatic 183, 3) := by decide +kernel
theorem dX7_needs_164 : decode cX7_needs 164 = .ok (.i2l, 1) := by decide +kernel
theorem dX7_needs_165 : decode cX7_needs 165 = .ok (.lastore, 1) := by decide +kernel
theorem dX7_needs_166 : decode cX7_needs 166 = .ok (.aload_n 0, 1) := by decide +kernel
theorem dX7_needs_167 : decode cX7_needs 167 = .ok (.getfield 54, 3) := by decide +kernel
theorem dX7_needs_170 : decode cX7_needs 170 = .ok (.aload_n 0, 1) := by decide +kernel
theorem dX7_needs_171 : decode cX7_needs 171 = .ok (.getfield 174, 3) := by decide +kernel
theorem dX7_needs_174 : decode cX7_needs 174 = .ok (.iconst 0, 1) := by decide +kernel
theorem dX7_needs_175 : decode cX7_needs 175 = .ok (.iastore, 1) := by decide +kernel
theorem dX7_needs_176 : decode cX7_needs 176 = .ok (.return_, 1) := by decide +kernel
theorem dX7_finds_0 : decode cX7_finds 0 = .ok (.aload_n 0, 1) := by decide +kernel
theorem dX7_finds_1 : decode cX7_finds 1 = .ok (.getfield 44, 3) := by decide +kernel
theorem dX7_finds_4 : decode cX7_finds 4 = .ok (.aload_n 0, 1) := by decide +kernel
theorem dX7_finds_5 : decode cX7_finds 5 = .ok (.getfield 174, 3) := by decide +kernel
theorem dX7_finds_8 : decode cX7_finds 8 = .ok (.iaload, 1) := by decide +kernel
theorem dX7_finds_9 : decode cX7_finds 9 = .ok (.istore_n 1, 1) := by decide +kernel
theorem dX7_finds_10 : decode cX7_finds 10 = .ok (.aload_n 0, 1) := by decide +kernel
theorem dX7_finds_11 : decode cX7_finds 11 = .ok (.dup, 1) := by decide +kernel
theorem dX7_finds_12 : decode cX7_finds 12 = .ok (.getfield 171, 3) := by decide +kernel
theorem dX7_finds_15 : decode cX7_finds 15 = .ok (.iconst 1, 1) := by decide +kernel
theorem dX7_finds_16 : decode cX7_finds 16 = .ok (.iload_n 1, 1) := by decide +kernel
theorem dX7_finds_17 : decode cX7_finds 17 = .ok (.ishl, 1) := by decide +kernel
theorem dX7_finds_18 : decode cX7_finds 18 = .ok (.ior, 1) := by decide +kernel
theorem dX7_finds_19 : decode cX7_finds 19 = .ok (.putfield 171, 3) := by decide +kernel
theorem dX7_finds_22 : decode cX7_finds 22 = .ok (.aload_n 0, 1) := by decide +kernel
theorem dX7_finds_23 : decode cX7_finds 23 = .ok (.dup, 1) := by decide +kernel
theorem dX7_finds_24 : decode cX7_finds 24 = .ok (.getfield 177, 3) := by decide +kernel
theorem dX7_finds_27 : decode cX7_finds 27 = .ok (.iconst 1, 1) := by decide +kernel
theorem dX7_finds_28 : decode cX7_finds 28 = .ok (.iload_n 1, 1) := by decide +kernel
theorem dX7_finds_29 : decode cX7_finds 29 = .ok (.ishl, 1) := by decide +kernel
theorem dX7_finds_30 : decode cX7_finds 30 = .ok (.iconst (-1), 1) := by decide +kernel
theorem dX7_finds_31 : decode cX7_finds 31 = .ok (.ixor, 1) := by decide +kernel
theorem dX7_finds_32 : decode cX7_finds 32 = .ok (.iand, 1) := by decide +kernel
theorem dX7_finds_33 : decode cX7_finds 33 = .ok (.putfield 177, 3) := by decide +kernel
theorem dX7_finds_36 : decode cX7_finds 36 = .ok (.aload_n 0, 1) := by decide +kernel
theorem dX7_finds_37 : decode cX7_finds 37 = .ok (.getfield 57, 3) := by decide +kernel
theorem dX7_finds_40 : decode cX7_finds 40 = .ok (.iload_n 1, 1) := by decide +kernel
theorem dX7_finds_41 : decode cX7_finds 41 = .ok (.aload_n 0, 1) := by decide +kernel
theorem dX7_finds_42 : decode cX7_finds 42 = .ok (.getfield 50, 3) := by decide +kernel
theorem dX7_finds_45 : decode cX7_finds 45 = .ok (.aload_n 0, 1) := by decide +kernel
theorem dX7_finds_46 : decode cX7_finds 46 = .ok (.getfield 174, 3) := by decide +kernel
theorem dX7_finds_49 : decode cX7_finds 49 = .ok (.laload, 1) := by decide +kernel
theorem dX7_finds_50 : decode cX7_finds 50 = .ok (.lastore, 1) := by decide +kernel
theorem dX7_finds_51 : decode cX7_finds 51 = .ok (.aload_n 0, 1) := by decide +kernel
theorem dX7_finds_52 : decode cX7_finds 52 = .ok (.dup, 1) := by decide +kernel
theorem dX7_finds_53 : decode cX7_finds 53 = .ok (.getfield 174, 3) := by decide +kernel
theorem dX7_finds_56 : decode cX7_finds 56 = .ok (.iconst 1, 1) := by decide +kernel
theorem dX7_finds_57 : decode cX7_finds 57 = .ok (.isub, 1) := by decide +kernel
theorem dX7_finds_58 : decode cX7_finds 58 = .ok (.putfield 174, 3) := by decide +kernel
theorem dX7_finds_61 : decode cX7_finds 61 = .ok (.aload_n 0, 1) := by decide +kernel
theorem dX7_finds_62 : decode cX7_finds 62 = .ok (.getfield 174, 3) := by decide +kernel
theorem dX7_finds_65 : decode cX7_finds 65 = .ok (.ifCond .lt 21, 3) := by decide +kernel
theorem dX7_finds_68 : decode cX7_finds 68 = .ok (.aload_n 0, 1) := by decide +kernel
theorem dX7_finds_69 : decode cX7_finds 69 = .ok (.getfield 50, 3) := by decide +kernel
theorem dX7_finds_72 : decode cX7_finds 72 = .ok (.aload_n 0, 1) := by decide +kernel
theorem dX7_finds_73 : decode cX7_finds 73 = .ok (.getfield 174, 3) := by decide +kernel
theorem dX7_finds_76 : decode cX7_finds 76 = .ok (.dup2, 1) := by decide +kernel
theorem dX7_finds_77 : decode cX7_finds 77 = .ok (.laload, 1) := by decide +kernel
theorem dX7_finds_78 : decode cX7_finds 78 = .ok (.aload_n 0, 1) := by decide +kernel
theorem dX7_finds_79 : decode cX7_finds 79 = .ok (.getfield 57, 3) := by decide +kernel
theorem dX7_finds_82 : decode cX7_finds 82 = .ok (.iload_n 1, 1) := by decide +kernel
theorem dX7_finds_83 : decode cX7_finds 83 = .ok (.laload, 1) := by decide +kernel
theorem dX7_finds_84 : decode cX7_finds 84 = .ok (.ladd, 1) := by decide +kernel
theorem dX7_finds_85 : decode cX7_finds 85 = .ok (.lastore, 1) := by decide +kernel
theorem dX7_finds_86 : decode cX7_finds 86 = .ok (.return_, 1) := by decide +kernel
set_option maxRecDepth 20000 in
theorem ggX7_asks_X7_needs : GoodIn wsX7_asks wsX7_needs := goodIn_r _ [14, 3, 1, 15, 6, 9, 2, 16, 8, 7, 17, 18, 19, 13, 20, 21, 22, 23, 24, 25, 26, 27, 28, 29, 30, 31, 32, 33, 34, 35, 36, 37, 38, 39, 40, 41, 42, 43, 44, 45, 46, 47, 48, 49, 50, 51, 52, 53, 54, 55, 56, 4, 5, 57, 58, 59, 70, 71, 72, 73, 74, 75, 76, 77, 78, 79, 80, 81, 82, 83, 84, 85, 86, 87, 88, 89, 90, 91, 92, 93, 94, 95] (by decide +kernel) (by decide +kernel)
set_option maxRecDepth 20000 in
theorem gX7_asks_X7_needs : GoodIn wsX7_asks (wsV RX7 186 RX7 yX7_needs wsX7_needs) := goodIn_app (goodIn_of _ (by decide +kernel)) ggX7_asks_X7_needs
set_option maxRecDepth 20000 in
theorem ggX7_asks_X7_firstOf : GoodIn wsX7_asks wsX7_firstOf := goodIn_r _ [62] (by decide +kernel) (by decide +kernel)
set_option maxRecDepth 20000 in
theorem gX7_asks_X7_firstOf : GoodIn wsX7_asks (va_wsS RX7 190 yX7_firstOf wsX7_firstOf) := goodIn_app (goodIn_of _ (by decide +kernel)) ggX7_asks_X7_firstOf
set_option maxRecDepth 20000 in
theorem ggX7_asks_X7_secondOf : GoodIn wsX7_asks wsX7_secondOf := goodIn_r _ [65] (by decide +kernel) (by decide +kernel)
set_option maxRecDepth 20000 in
theorem gX7_asks_X7_secondOf : GoodIn wsX7_asks (va_wsS RX7 193 yX7_secondOf wsX7_secondOf) := goodIn_app (goodIn_of _ (by decide +kernel)) ggX7_asks_X7_secondOf
set_option maxRecDepth 20000 in
theorem ggX7_asks_X7_finds : GoodIn wsX7_asks wsX7_finds := goodIn_r _ [69, 16, 6, 1, 2, 9, 15, 70, 71, 72, 73, 74, 75, 76, 77, 78, 79, 80, 81, 82, 83, 84, 85, 86, 87, 88, 89, 90, 91, 92, 93, 94, 95] (by decide +kernel) (by decide +kernel)
set_option maxRecDepth 20000 in
theorem gX7_asks_X7_finds : GoodIn wsX7_asks (wsV RX7 196 RX7 yX7_finds wsX7_finds) := goodIn_app (goodIn_of _ (by decide +kernel)) ggX7_asks_X7_finds
theorem dX7_asks_0 : decode cX7_asks 0 = .ok (.aload_n 0, 1) := by decide +kernel
theorem dX7_asks_1 : decode cX7_asks 1 = .ok (.iconst 0, 1) := by decide +kernel
theorem dX7_asks_2 : decode cX7_asks 2 = .ok (.putfield 171, 3) := by decide +kernel
theorem dX7_asks_5 : decode cX7_asks 5 = .ok (.aload_n 0, 1) := by decide +kernel
theorem dX7_asks_6 : decode cX7_asks 6 = .ok (.iconst 0, 1) := by decide +kernel
theorem dX7_asks_7 : decode cX7_asks 7 = .ok (.putfield 177, 3) := by decide +kernel
theorem dX7_asks_10 : decode cX7_asks 10 = .ok (.aload_n 0, 1) := by decide +kernel
theorem dX7_asks_11 : decode cX7_asks 11 = .ok (.iconst 0, 1) := by decide +kernel
theorem dX7_asks_12 : decode cX7_asks 12 = .ok (.putfield 168, 3) := by decide +kernel
theorem dX7_asks_15 : decode cX7_asks 15 = .ok (.aload_n 0, 1) := by decide +kernel
theorem dX7_asks_16 : decode cX7_asks 16 = .ok (.iconst 0, 1) := by decide +kernel
theorem dX7_asks_17 : decode cX7_asks 17 = .ok (.putfield 159, 3) := by decide +kernel
theorem dX7_asks_20 : decode cX7_asks 20 = .ok (.aload_n 0, 1) := by decide +kernel
theorem dX7_asks_21 : decode cX7_asks 21 = .ok (.iconst (-1), 1) := by decide +kernel
theorem dX7_asks_22 : decode cX7_asks 22 = .ok (.putfield 162, 3) := by decide +kernel
theorem dX7_asks_25 : decode cX7_asks 25 = .ok (.aload_n 0, 1) := by decide +kernel
theorem dX7_asks_26 : decode cX7_asks 26 = .ok (.iconst (-1), 1) := by decide +kernel
theorem dX7_asks_27 : decode cX7_asks 27 = .ok (.putfield 174, 3) := by decide +kernel
theorem dX7_asks_30 : decode cX7_asks 30 = .ok (.aload_n 0, 1) := by decide +kernel
theorem dX7_asks_31 : decode cX7_asks 31 = .ok (.iload_n 1, 1) := by decide +kernel
theorem dX7_asks_32 : decode cX7_asks 32 = .ok (.iload_n 2, 1) := by decide +kernel
theorem dX7_asks_33 : decode cX7_asks 33 = .ok (.iload_n 3, 1) := by decide +kernel
theorem dX7_asks_34 : decode cX7_asks 34 = .ok (.invokevirtual 186, 3) := by decide +kernel
theorem dX7_asks_37 : decode cX7_asks 37 = .ok (.aload_n 0, 1) := by decide +kernel
theorem dX7_asks_38 : decode cX7_asks 38 = .ok (.getfield 159, 3) := by decide +kernel
theorem dX7_asks_41 : decode cX7_asks 41 = .ok (.ifCond .ne 108, 3) := by decide +kernel
theorem dX7_asks_44 : decode cX7_asks 44 = .ok (.aload_n 0, 1) := by decide +kernel
theorem dX7_asks_45 : decode cX7_asks 45 = .ok (.getfield 174, 3) := by decide +kernel
theorem dX7_asks_48 : decode cX7_asks 48 = .ok (.ifCond .lt 101, 3) := by decide +kernel
theorem dX7_asks_51 : decode cX7_asks 51 = .ok (.aload_n 0, 1) := by decide +kernel
theorem dX7_asks_52 : decode cX7_asks 52 = .ok (.getfield 54, 3) := by decide +kernel
theorem dX7_asks_55 : decode cX7_asks 55 = .ok (.aload_n 0, 1) := by decide +kernel
theorem dX7_asks_56 : decode cX7_asks 56 = .ok (.getfield 174, 3) := by decide +kernel
theorem dX7_asks_59 : decode cX7_asks 59 = .ok (.iaload, 1) := by decide +kernel
theorem dX7_asks_60 : decode cX7_asks 60 = .ok (.istore 4, 2) := by decide +kernel
theorem dX7_asks_62 : decode cX7_asks 62 = .ok (.iload 4, 2) := by decide +kernel
theorem dX7_asks_64 : decode cX7_asks 64 = .ok (.ifCond .ne 18, 3) := by decide +kernel
theorem dX7_asks_67 : decode cX7_asks 67 = .ok (.aload_n 0, 1) := by decide +kernel
theorem dX7_asks_68 : decode cX7_asks 68 = .ok (.getfield 47, 3) := by decide +kernel
theorem dX7_asks_71 : decode cX7_asks 71 = .ok (.aload_n 0, 1) := by decide +kernel
theorem dX7_asks_72 : decode cX7_asks 72 = .ok (.getfield 174, 3) := by decide +kernel
theorem dX7_asks_75 : decode cX7_asks 75 = .ok (.iaload, 1) := by decide +kernel
theorem dX7_asks_76 : decode cX7_asks 76 = .ok (.invokestatic 190, 3) := by decide +kernel
theorem dX7_asks_79 : decode cX7_asks 79 = .ok (.goto 25, 3) := by decide +kernel
theorem dX7_asks_82 : decode cX7_asks 82 = .ok (.iload 4, 2) := by decide +kernel
theorem dX7_asks_84 : decode cX7_asks 84 = .ok (.iconst 1, 1) := by decide +kernel
theorem dX7_asks_85 : decode cX7_asks 85 = .ok (.if_icmp .ne 18, 3) := by decide +kernel
theorem dX7_asks_88 : decode cX7_asks 88 = .ok (.aload_n 0, 1) := by decide +kernel
theorem dX7_asks_89 : decode cX7_asks 89 = .ok (.getfield 47, 3) := by decide +kernel
theorem dX7_asks_92 : decode cX7_asks 92 = .ok (.aload_n 0, 1) := by decide +kernel
theorem dX7_asks_93 : decode cX7_asks 93 = .ok (.getfield 174, 3) := by decide +kernel
theorem dX7_asks_96 : decode cX7_asks 96 = .ok (.iaload, 1) := by decide +kernel
theorem dX7_asks_97 : decode cX7_asks 97 = .ok (.invokestatic 193, 3) := by decide +kernel
theorem dX7_asks_100 : decode cX7_asks 100 = .ok (.goto 4, 3) := by decide +kernel
theorem dX7_asks_103 : decode cX7_asks 103 = .ok (.iconst (-1), 1) := by decide +kernel
theorem dX7_asks_104 : decode cX7_asks 104 = .ok (.istore 5, 2) := by decide +kernel
theorem dX7_asks_106 : decode cX7_asks 106 = .ok (.aload_n 0, 1) := by decide +kernel
theorem dX7_asks_107 : decode cX7_asks 107 = .ok (.getfield 54, 3) := by decide +kernel
theorem dX7_asks_110 : decode cX7_asks 110 = .ok (.aload_n 0, 1) := by decide +kernel
theorem dX7_asks_111 : decode cX7_asks 111 = .ok (.getfield 174, 3) := by decide +kernel
theorem dX7_asks_114 : decode cX7_asks 114 = .ok (.dup2, 1) := by decide +kernel
theorem dX7_asks_115 : decode cX7_asks 115 = .ok (.iaload, 1) := by decide +kernel
theorem dX7_asks_116 : decode cX7_asks 116 = .ok (.iconst 1, 1) := by decide +kernel
theorem dX7_asks_117 : decode cX7_asks 117 = .ok (.iadd, 1) := by decide +kernel
theorem dX7_asks_118 : decode cX7_asks 118 = .ok (.iastore, 1) := by decide +kernel
theorem dX7_asks_119 : decode cX7_asks 119 = .ok (.iload 4, 2) := by decide +kernel
theorem dX7_asks_121 : decode cX7_asks 121 = .ok (.iconst 2, 1) := by decide +kernel
theorem dX7_asks_122 : decode cX7_asks 122 = .ok (.if_icmp .ne 10, 3) := by decide +kernel
theorem dX7_asks_125 : decode cX7_asks 125 = .ok (.aload_n 0, 1) := by decide +kernel
theorem dX7_asks_126 : decode cX7_asks 126 = .ok (.invokevirtual 196, 3) := by decide +kernel
theorem dX7_asks_129 : decode cX7_asks 129 = .ok (.goto 17, 3) := by decide +kernel
theorem dX7_asks_132 : decode cX7_asks 132 = .ok (.iload 5, 2) := by decide +kernel
theorem dX7_asks_134 : decode cX7_asks 134 = .ok (.iconst (-1), 1) := by decide +kernel
theorem dX7_asks_135 : decode cX7_asks 135 = .ok (.if_icmp .eq 11, 3) := by decide +kernel
theorem dX7_asks_138 : decode cX7_asks 138 = .ok (.aload_n 0, 1) := by decide +kernel
theorem dX7_asks_139 : decode cX7_asks 139 = .ok (.iload_n 1, 1) := by decide +kernel
theorem dX7_asks_140 : decode cX7_asks 140 = .ok (.iload 5, 2) := by decide +kernel
theorem dX7_asks_142 : decode cX7_asks 142 = .ok (.iload_n 3, 1) := by decide +kernel
theorem dX7_asks_143 : decode cX7_asks 143 = .ok (.invokevirtual 186, 3) := by decide +kernel
theorem dX7_asks_146 : decode cX7_asks 146 = .ok (.goto (-109), 3) := by decide +kernel
theorem dX7_asks_149 : decode cX7_asks 149 = .ok (.aload_n 0, 1) := by decide +kernel
theorem dX7_asks_150 : decode cX7_asks 150 = .ok (.getfield 159, 3) := by decide +kernel
theorem dX7_asks_153 : decode cX7_asks 153 = .ok (.ifCond .ne 12, 3) := by decide +kernel
theorem dX7_asks_156 : decode cX7_asks 156 = .ok (.aload_n 0, 1) := by decide +kernel
theorem dX7_asks_157 : decode cX7_asks 157 = .ok (.getfield 57, 3) := by decide +kernel
theorem dX7_asks_160 : decode cX7_asks 160 = .ok (.iload_n 2, 1) := by decide +kernel
theorem dX7_asks_161 : decode cX7_asks 161 = .ok (.laload, 1) := by decide +kernel
theorem dX7_asks_162 : decode cX7_asks 162 = .ok (.goto 4, 3) := by decide +kernel
theorem dX7_asks_165 : decode cX7_asks 165 = .ok (.lconst 0, 1) := by decide +kernel
theorem dX7_asks_166 : decode cX7_asks 166 = .ok (.lreturn, 1) := by decide +kernel
set_option maxRecDepth 20000 in
theorem ggX7_goesFor_X7_isClient : GoodIn wsX7_goesFor wsX7_isClient := goodIn_r _ [5, 6, 7, 8, 4, 9, 18, 19, 20, 21, 22, 23, 24, 25, 26, 27, 28, 29, 30, 31, 32, 33, 34, 35, 36, 37, 38, 39, 40, 41, 42, 43] (by decide +kernel) (by decide +kernel)
set_option maxRecDepth 20000 in
theorem gX7_goesFor_X7_isClient : GoodIn wsX7_goesFor (wsV RX7 81 RX7 yX7_isClient wsX7_isClient) := goodIn_app (goodIn_of _ (by decide +kernel)) ggX7_goesFor_X7_isClient
set_option maxRecDepth 20000 in
theorem ggX7_goesFor_X7_isSetting : GoodIn wsX7_goesFor wsX7_isSetting := goodIn_r _ [12, 7, 8, 4, 9] (by decide +kernel) (by decide +kernel)
set_option maxRecDepth 20000 in
theorem gX7_goesFor_X7_isSetting : GoodIn wsX7_goesFor (va_wsS RX7 100 yX7_isSetting wsX7_isSetting) := goodIn_app (goodIn_of _ (by decide +kernel)) ggX7_goesFor_X7_isSetting
set_option maxRecDepth 20000 in
theorem ggX7_goesFor_X7_goes : GoodIn wsX7_goesFor wsX7_goes := goodIn_r _ [16, 17, 18, 19, 20, 21, 22, 23, 24, 25, 26, 27, 28, 29, 30, 31, 32, 33, 34, 35, 36, 37, 38, 39, 40, 41, 42, 43] (by decide +kernel) (by decide +kernel)
set_option maxRecDepth 20000 in
theorem gX7_goesFor_X7_goes : GoodIn wsX7_goesFor (wsV RX7 78 RX7 yX7_goes wsX7_goes) := goodIn_app (goodIn_of _ (by decide +kernel)) ggX7_goesFor_X7_goes
theorem dX7_goesFor_0 : decode cX7_goesFor 0 = .ok (.aload_n 0, 1) := by decide +kernel
theorem dX7_goesFor_1 : decode cX7_goesFor 1 = .ok (.aload_n 0, 1) := by decide +kernel
theorem dX7_goesFor_2 : decode cX7_goesFor 2 = .ok (.iload_n 1, 1) := by decide +kernel
theorem dX7_goesFor_3 : decode cX7_goesFor 3 = .ok (.invokevirtual 81, 3) := by decide +kernel
theorem dX7_goesFor_6 : decode cX7_goesFor 6 = .ok (.ifCond .eq 14, 3) := by decide +kernel
theorem dX7_goesFor_9 : decode cX7_goesFor 9 = .ok (.iload_n 2, 1) := by decide +kernel
theorem dX7_goesFor_10 : decode cX7_goesFor 10 = .ok (.invokestatic 100, 3) := by decide +kernel
theorem dX7_goesFor_13 : decode cX7_goesFor 13 = .ok (.ifCond .eq 7, 3) := by decide +kernel
theorem dX7_goesFor_16 : decode cX7_goesFor 16 = .ok (.iconst 0, 1) := by decide +kernel
theorem dX7_goesFor_17 : decode cX7_goesFor 17 = .ok (.goto 4, 3) := by decide +kernel
theorem dX7_goesFor_20 : decode cX7_goesFor 20 = .ok (.iconst 1, 1) := by decide +kernel
theorem dX7_goesFor_21 : decode cX7_goesFor 21 = .ok (.invokevirtual 78, 3) := by decide +kernel
theorem dX7_goesFor_24 : decode cX7_goesFor 24 = .ok (.ireturn, 1) := by decide +kernel
set_option maxRecDepth 20000 in
theorem ggX7_value_X7_goesFor : GoodIn wsX7_value wsX7_goesFor := goodIn_r _ [6, 7, 8, 9, 5, 10, 11, 12, 13, 14, 15, 16, 17, 18, 19, 20, 21, 22, 94, 95, 96, 97, 98, 99, 100, 101, 102, 103, 104, 105, 106, 107, 108, 109, 110, 111, 112, 113, 114, 115, 116, 117, 118, 119] (by decide +kernel) (by decide +kernel)
set_option maxRecDepth 20000 in
theorem gX7_value_X7_goesFor : GoodIn wsX7_value (wsV RX7 199 RX7 yX7_goesFor wsX7_goesFor) := goodIn_app (goodIn_of _ (by decide +kernel)) ggX7_value_X7_goesFor
set_option maxRecDepth 20000 in
theorem ggX7_value_X7_asks : GoodIn wsX7_value wsX7_asks := goodIn_r _ [26, 27, 28, 29, 1, 30, 31, 32, 33, 34, 35, 36, 37, 5, 38, 39, 40, 41, 42, 43, 44, 45, 46, 47, 48, 49, 50, 51, 52, 53, 54, 55, 56, 57, 58, 59, 60, 61, 62, 63, 64, 65, 66, 67, 68, 69, 70, 71, 72, 73, 74, 75, 76, 77, 78, 79, 80, 81, 82, 83, 84, 85, 86, 87, 88, 89, 90, 91, 92, 93, 94, 95, 96, 97, 98, 99, 100, 101, 102, 103, 104, 105, 106, 107, 108, 109, 110, 111, 112, 113, 114, 115, 116, 117, 118, 119] (by decide +kernel) (by decide +kernel)
set_option maxRecDepth 20000 in
theorem gX7_value_X7_asks : GoodIn wsX7_value (wsV RX7 202 RX7 yX7_asks wsX7_asks) := goodIn_app (goodIn_of _ (by decide +kernel)) ggX7_value_X7_asks
set_option maxRecDepth 20000 in
theorem ggX7_value_X7_goes : GoodIn wsX7_value wsX7_goes := goodIn_r _ [21, 22, 94, 95, 96, 97, 98, 99, 100, 101, 102, 103, 104, 105, 106, 107, 108, 109, 110, 111, 112, 113, 114, 115, 116, 117, 118, 119] (by decide +kernel) (by decide +kernel)
set_option maxRecDepth 20000 in
theorem gX7_value_X7_goes : GoodIn wsX7_value (wsV RX7 78 RX7 yX7_goes wsX7_goes) := goodIn_app (goodIn_of _ (by decide +kernel)) ggX7_value_X7_goes
theorem dX7_value_0 : decode cX7_value 0 = .ok (.aload_n 0, 1) := by decide +kernel
theorem dX7_value_1 : decode cX7_value 1 = .ok (.iload_n 1, 1) := by decide +kernel
theorem dX7_value_2 : decode cX7_value 2 = .ok (.iload_n 2, 1) := by decide +kernel
theorem dX7_value_3 : decode cX7_value 3 = .ok (.invokevirtual 199, 3) := by decide +kernel
theorem dX7_value_6 : decode cX7_value 6 = .ok (.ifCond .ne 5, 3) := by decide +kernel
theorem dX7_value_9 : decode cX7_value 9 = .ok (.lconst 0, 1) := by decide +kernel
theorem dX7_value_10 : decode cX7_value 10 = .ok (.lreturn, 1) := by decide +kernel
theorem dX7_value_11 : decode cX7_value 11 = .ok (.aload_n 0, 1) := by decide +kernel
theorem dX7_value_12 : decode cX7_value 12 = .ok (.iload_n 1, 1) := by decide +kernel
theorem dX7_value_13 : decode cX7_value 13 = .ok (.iload_n 2, 1) := by decide +kernel
theorem dX7_value_14 : decode cX7_value 14 = .ok (.iconst (-1), 1) := by decide +kernel
theorem dX7_value_15 : decode cX7_value 15 = .ok (.invokevirtual 202, 3) := by decide +kernel
theorem dX7_value_18 : decode cX7_value 18 = .ok (.lstore_n 3, 1) := by decide +kernel
theorem dX7_value_19 : decode cX7_value 19 = .ok (.aload_n 0, 1) := by decide +kernel
theorem dX7_value_20 : decode cX7_value 20 = .ok (.aload_n 0, 1) := by decide +kernel
theorem dX7_value_21 : decode cX7_value 21 = .ok (.getfield 159, 3) := by decide +kernel
theorem dX7_value_24 : decode cX7_value 24 = .ok (.ifCond .ne 7, 3) := by decide +kernel
theorem dX7_value_27 : decode cX7_value 27 = .ok (.iconst 0, 1) := by decide +kernel
theorem dX7_value_28 : decode cX7_value 28 = .ok (.goto 4, 3) := by decide +kernel
theorem dX7_value_31 : decode cX7_value 31 = .ok (.iconst 2, 1) := by decide +kernel
theorem dX7_value_32 : decode cX7_value 32 = .ok (.invokevirtual 78, 3) := by decide +kernel
theorem dX7_value_35 : decode cX7_value 35 = .ok (.ifCond .eq 7, 3) := by decide +kernel
theorem dX7_value_38 : decode cX7_value 38 = .ok (.lload_n 3, 1) := by decide +kernel
theorem dX7_value_39 : decode cX7_value 39 = .ok (.goto 4, 3) := by decide +kernel
theorem dX7_value_42 : decode cX7_value 42 = .ok (.lconst 0, 1) := by decide +kernel
theorem dX7_value_43 : decode cX7_value 43 = .ok (.lreturn, 1) := by decide +kernel
set_option maxRecDepth 20000 in
theorem ggX7_status_X7_goesFor : GoodIn wsX7_status wsX7_goesFor := goodIn_r _ [6, 7, 8, 9, 5, 10, 11, 12, 13, 14, 15, 16, 17, 18, 19, 20, 21, 22, 94, 95, 96, 97, 98, 99, 100, 101, 102, 103, 104, 105, 106, 107, 108, 109, 110, 111, 112, 113, 114, 115, 116, 117, 118, 119] (by decide +kernel) (by decide +kernel)
set_option maxRecDepth 20000 in
theorem gX7_status_X7_goesFor : GoodIn wsX7_status (wsV RX7 199 RX7 yX7_goesFor wsX7_goesFor) := goodIn_app (goodIn_of _ (by decide +kernel)) ggX7_status_X7_goesFor
set_option maxRecDepth 20000 in
theorem ggX7_status_X7_asks : GoodIn wsX7_status wsX7_asks := goodIn_r _ [26, 27, 28, 29, 1, 30, 31, 32, 33, 34, 35, 36, 37, 5, 38, 39, 40, 41, 42, 43, 44, 45, 46, 47, 48, 49, 50, 51, 52, 53, 54, 55, 56, 57, 58, 59, 60, 61, 62, 63, 64, 65, 66, 67, 68, 69, 70, 71, 72, 73, 74, 75, 76, 77, 78, 79, 80, 81, 82, 83, 84, 85, 86, 87, 88, 89, 90, 91, 92, 93, 94, 95, 96, 97, 98, 99, 100, 101, 102, 103, 104, 105, 106, 107, 108, 109, 110, 111, 112, 113, 114, 115, 116, 117, 118, 119] (by decide +kernel) (by decide +kernel)
set_option maxRecDepth 20000 in
theorem gX7_status_X7_asks : GoodIn wsX7_status (wsV RX7 202 RX7 yX7_asks wsX7_asks) := goodIn_app (goodIn_of _ (by decide +kernel)) ggX7_status_X7_asks
theorem dX7_status_0 : decode cX7_status 0 = .ok (.aload_n 0, 1) := by decide +kernel
theorem dX7_status_1 : decode cX7_status 1 = .ok (.iload_n 1, 1) := by decide +kernel
theorem dX7_status_2 : decode cX7_status 2 = .ok (.iload_n 2, 1) := by decide +kernel
theorem dX7_status_3 : decode cX7_status 3 = .ok (.invokevirtual 199, 3) := by decide +kernel
theorem dX7_status_6 : decode cX7_status 6 = .ok (.ifCond .ne 5, 3) := by decide +kernel
theorem dX7_status_9 : decode cX7_status 9 = .ok (.iconst 0, 1) := by decide +kernel
theorem dX7_status_10 : decode cX7_status 10 = .ok (.ireturn, 1) := by decide +kernel
theorem dX7_status_11 : decode cX7_status 11 = .ok (.aload_n 0, 1) := by decide +kernel
theorem dX7_status_12 : decode cX7_status 12 = .ok (.iload_n 1, 1) := by decide +kernel
theorem dX7_status_13 : decode cX7_status 13 = .ok (.iload_n 2, 1) := by decide +kernel
theorem dX7_status_14 : decode cX7_status 14 = .ok (.iconst (-1), 1) := by decide +kernel
theorem dX7_status_15 : decode cX7_status 15 = .ok (.invokevirtual 202, 3) := by decide +kernel
theorem dX7_status_18 : decode cX7_status 18 = .ok (.lstore_n 3, 1) := by decide +kernel
theorem dX7_status_19 : decode cX7_status 19 = .ok (.aload_n 0, 1) := by decide +kernel
theorem dX7_status_20 : decode cX7_status 20 = .ok (.getfield 159, 3) := by decide +kernel
theorem dX7_status_23 : decode cX7_status 23 = .ok (.ireturn, 1) := by decide +kernel
set_option maxRecDepth 20000 in
theorem ggX7_culprit_X7_goesFor : GoodIn wsX7_culprit wsX7_goesFor := goodIn_r _ [6, 7, 8, 9, 5, 10, 11, 12, 13, 14, 15, 16, 17, 18, 19, 20, 21, 22, 94, 95, 96, 97, 98, 99, 100, 101, 102, 103, 104, 105, 106, 107, 108, 109, 110, 111, 112, 113, 114, 115, 116, 117, 118, 119] (by decide +kernel) (by decide +kernel)
set_option maxRecDepth 20000 in
theorem gX7_culprit_X7_goesFor : GoodIn wsX7_culprit (wsV RX7 199 RX7 yX7_goesFor wsX7_goesFor) := goodIn_app (goodIn_of _ (by decide +kernel)) ggX7_culprit_X7_goesFor
set_option maxRecDepth 20000 in
theorem ggX7_culprit_X7_asks : GoodIn wsX7_culprit wsX7_asks := goodIn_r _ [26, 27, 28, 29, 30, 1, 31, 32, 33, 34, 35, 36, 37, 5, 38, 39, 40, 41, 42, 43, 44, 45, 46, 47, 48, 49, 50, 51, 52, 53, 54, 55, 56, 57, 58, 59, 60, 61, 62, 63, 64, 65, 66, 67, 68, 69, 70, 71, 72, 73, 74, 75, 76, 77, 78, 79, 80, 81, 82, 83, 84, 85, 86, 87, 88, 89, 90, 91, 92, 93, 94, 95, 96, 97, 98, 99, 100, 101, 102, 103, 104, 105, 106, 107, 108, 109, 110, 111, 112, 113, 114, 115, 116, 117, 118, 119] (by decide +kernel) (by decide +kernel)
set_option maxRecDepth 20000 in
theorem gX7_culprit_X7_asks : GoodIn wsX7_culprit (wsV RX7 202 RX7 yX7_asks wsX7_asks) := goodIn_app (goodIn_of _ (by decide +kernel)) ggX7_culprit_X7_asks
theorem dX7_culprit_0 : decode cX7_culprit 0 = .ok (.aload_n 0, 1) := by decide +kernel
theorem dX7_culprit_1 : decode cX7_culprit 1 = .ok (.iload_n 1, 1) := by decide +kernel
theorem dX7_culprit_2 : decode cX7_culprit 2 = .ok (.iload_n 2, 1) := by decide +kernel
theorem dX7_culprit_3 : decode cX7_culprit 3 = .ok (.invokevirtual 199, 3) := by decide +kernel
theorem dX7_culprit_6 : decode cX7_culprit 6 = .ok (.ifCond .ne 5, 3) := by decide +kernel
theorem dX7_culprit_9 : decode cX7_culprit 9 = .ok (.iconst 0, 1) := by decide +kernel
theorem dX7_culprit_10 : decode cX7_culprit 10 = .ok (.ireturn, 1) := by decide +kernel
theorem dX7_culprit_11 : decode cX7_culprit 11 = .ok (.aload_n 0, 1) := by decide +kernel
theorem dX7_culprit_12 : decode cX7_culprit 12 = .ok (.iload_n 1, 1) := by decide +kernel
theorem dX7_culprit_13 : decode cX7_culprit 13 = .ok (.iload_n 2, 1) := by decide +kernel
theorem dX7_culprit_14 : decode cX7_culprit 14 = .ok (.iconst (-1), 1) := by decide +kernel
theorem dX7_culprit_15 : decode cX7_culprit 15 = .ok (.invokevirtual 202, 3) := by decide +kernel
theorem dX7_culprit_18 : decode cX7_culprit 18 = .ok (.lstore_n 3, 1) := by decide +kernel
theorem dX7_culprit_19 : decode cX7_culprit 19 = .ok (.aload_n 0, 1) := by decide +kernel
theorem dX7_culprit_20 : decode cX7_culprit 20 = .ok (.getfield 162, 3) := by decide +kernel
theorem dX7_culprit_23 : decode cX7_culprit 23 = .ok (.ireturn, 1) := by decide +kernel
set_option maxRecDepth 20000 in
theorem ggX7_layerOf_X7_goesFor : GoodIn wsX7_layerOf wsX7_goesFor := goodIn_r _ [5, 6, 7, 8, 4, 9, 10, 11, 12, 13, 14, 15, 16, 17, 18, 19, 20, 21, 58, 59, 60, 61, 62, 63, 64, 65, 66, 67, 68, 69, 70, 71, 72, 73, 74, 75, 76, 77, 78, 79, 80, 81, 82, 83] (by decide +kernel) (by decide +kernel)
set_option maxRecDepth 20000 in
theorem gX7_layerOf_X7_goesFor : GoodIn wsX7_layerOf (wsV RX7 199 RX7 yX7_goesFor wsX7_goesFor) := goodIn_app (goodIn_of _ (by decide +kernel)) ggX7_layerOf_X7_goesFor
set_option maxRecDepth 20000 in
theorem ggX7_layerOf_X7_deciding : GoodIn wsX7_layerOf wsX7_deciding := goodIn_r _ [25, 26, 27, 28, 29, 4, 30, 31, 32, 33, 34, 35, 36, 37, 38, 39, 40, 41, 42, 43, 44, 45, 46, 47, 48, 49, 50, 51, 52, 53, 54, 55, 56, 57, 58, 59, 60, 61, 62, 63, 64, 65, 66, 67, 68, 69, 70, 71, 72, 73, 74, 75, 76, 77, 78, 79, 80, 81, 82, 83] (by decide +kernel) (by decide +kernel)
set_option maxRecDepth 20000 in
theorem gX7_layerOf_X7_deciding : GoodIn wsX7_layerOf (wsV RX7 165 RX7 yX7_deciding wsX7_deciding) := goodIn_app (goodIn_of _ (by decide +kernel)) ggX7_layerOf_X7_deciding
theorem dX7_layerOf_0 : decode cX7_layerOf 0 = .ok (.aload_n 0, 1) := by decide +kernel
theorem dX7_layerOf_1 : decode cX7_layerOf 1 = .ok (.iload_n 1, 1) := by decide +kernel
theorem dX7_layerOf_2 : decode cX7_layerOf 2 = .ok (.iload_n 2, 1) := by decide +kernel
theorem dX7_layerOf_3 : decode cX7_layerOf 3 = .ok (.invokevirtual 199, 3) := by decide +kernel
theorem dX7_layerOf_6 : decode cX7_layerOf 6 = .ok (.ifCond .eq 13, 3) := by decide +kernel
theorem dX7_layerOf_9 : decode cX7_layerOf 9 = .ok (.aload_n 0, 1) := by decide +kernel
theorem dX7_layerOf_10 : decode cX7_layerOf 10 = .ok (.iload_n 1, 1) := by decide +kernel
theorem dX7_layerOf_11 : decode cX7_layerOf 11 = .ok (.iload_n 2, 1) := by decide +kernel
theorem dX7_layerOf_12 : decode cX7_layerOf 12 = .ok (.iconst (-1), 1) := by decide +kernel
theorem dX7_layerOf_13 : decode cX7_layerOf 13 = .ok (.invokevirtual 165, 3) := by decide +kernel
theorem dX7_layerOf_16 : decode cX7_layerOf 16 = .ok (.goto 4, 3) := by decide +kernel
theorem dX7_layerOf_19 : decode cX7_layerOf 19 = .ok (.iconst 0, 1) := by decide +kernel
theorem dX7_layerOf_20 : decode cX7_layerOf 20 = .ok (.ireturn, 1) := by decide +kernel
set_option maxRecDepth 20000 in
theorem ggX7_isNew_X7_goesFor : GoodIn wsX7_isNew wsX7_goesFor := goodIn_r _ [5, 6, 7, 8, 4, 9, 10, 11, 12, 13, 14, 15, 16, 17, 18, 19, 20, 21, 58, 59, 60, 61, 62, 63, 64, 65, 66, 67, 68, 69, 70, 71, 72, 73, 74, 75, 76, 77, 78, 79, 80, 81, 82, 83] (by decide +kernel) (by decide +kernel)
set_option maxRecDepth 20000 in
theorem gX7_isNew_X7_goesFor : GoodIn wsX7_isNew (wsV RX7 199 RX7 yX7_goesFor wsX7_goesFor) := goodIn_app (goodIn_of _ (by decide +kernel)) ggX7_isNew_X7_goesFor
set_option maxRecDepth 20000 in
theorem ggX7_isNew_X7_deciding : GoodIn wsX7_isNew wsX7_deciding := goodIn_r _ [25, 26, 27, 28, 29, 4, 30, 31, 32, 33, 34, 35, 36, 37, 38, 39, 40, 41, 42, 43, 44, 45, 46, 47, 48, 49, 50, 51, 52, 53, 54, 55, 56, 57, 58, 59, 60, 61, 62, 63, 64, 65, 66, 67, 68, 69, 70, 71, 72, 73, 74, 75, 76, 77, 78, 79, 80, 81, 82, 83] (by decide +kernel) (by decide +kernel)
set_option maxRecDepth 20000 in
theorem gX7_isNew_X7_deciding : GoodIn wsX7_isNew (wsV RX7 165 RX7 yX7_deciding wsX7_deciding) := goodIn_app (goodIn_of _ (by decide +kernel)) ggX7_isNew_X7_deciding
set_option maxRecDepth 20000 in
theorem ggX7_isNew_X7_cell : GoodIn wsX7_isNew wsX7_cell := goodIn_r _ [37] (by decide +kernel) (by decide +kernel)
set_option maxRecDepth 20000 in
theorem gX7_isNew_X7_cell : GoodIn wsX7_isNew (va_wsS RX7 103 yX7_cell wsX7_cell) := goodIn_app (goodIn_of _ (by decide +kernel)) ggX7_isNew_X7_cell
set_option maxRecDepth 20000 in
theorem ggX7_isNew_X7_isRolledTo : GoodIn wsX7_isNew wsX7_isRolledTo := goodIn_r _ [48, 49, 50, 51, 4, 52, 58, 59, 60, 61, 62, 63, 64, 65, 66, 67, 68, 69, 70, 71, 72, 73, 74, 75, 76, 77, 78, 79, 80, 81, 82, 83] (by decide +kernel) (by decide +kernel)
set_option maxRecDepth 20000 in
theorem gX7_isNew_X7_isRolledTo : GoodIn wsX7_isNew (wsV RX7 153 RX7 yX7_isRolledTo wsX7_isRolledTo) := goodIn_app (goodIn_of _ (by decide +kernel)) ggX7_isNew_X7_isRolledTo
theorem dX7_isNew_0 : decode cX7_isNew 0 = .ok (.aload_n 0, 1) := by decide +kernel
theorem dX7_isNew_1 : decode cX7_isNew 1 = .ok (.iload_n 1, 1) := by decide +kernel
theorem dX7_isNew_2 : decode cX7_isNew 2 = .ok (.iload_n 2, 1) := by decide +kernel
theorem dX7_isNew_3 : decode cX7_isNew 3 = .ok (.invokevirtual 199, 3) := by decide +kernel
theorem dX7_isNew_6 : decode cX7_isNew 6 = .ok (.ifCond .ne 5, 3) := by decide +kernel
theorem dX7_isNew_9 : decode cX7_isNew 9 = .ok (.iconst 0, 1) := by decide +kernel
theorem dX7_isNew_10 : decode cX7_isNew 10 = .ok (.ireturn, 1) := by decide +kernel
theorem dX7_isNew_11 : decode cX7_isNew 11 = .ok (.aload_n 0, 1) := by decide +kernel
theorem dX7_isNew_12 : decode cX7_isNew 12 = .ok (.iload_n 1, 1) := by decide +kernel
theorem dX7_isNew_13 : decode cX7_isNew 13 = .ok (.iload_n 2, 1) := by decide +kernel
theorem dX7_isNew_14 : decode cX7_isNew 14 = .ok (.iconst (-1), 1) := by decide +kernel
theorem dX7_isNew_15 : decode cX7_isNew 15 = .ok (.invokevirtual 165, 3) := by decide +kernel
theorem dX7_isNew_18 : decode cX7_isNew 18 = .ok (.istore_n 3, 1) := by decide +kernel
theorem dX7_isNew_19 : decode cX7_isNew 19 = .ok (.iload_n 3, 1) := by decide +kernel
theorem dX7_isNew_20 : decode cX7_isNew 20 = .ok (.iconst (-1), 1) := by decide +kernel
theorem dX7_isNew_21 : decode cX7_isNew 21 = .ok (.if_icmp .eq 21, 3) := by decide +kernel
theorem dX7_isNew_24 : decode cX7_isNew 24 = .ok (.aload_n 0, 1) := by decide +kernel
theorem dX7_isNew_25 : decode cX7_isNew 25 = .ok (.iload_n 1, 1) := by decide +kernel
theorem dX7_isNew_26 : decode cX7_isNew 26 = .ok (.iload_n 3, 1) := by decide +kernel
theorem dX7_isNew_27 : decode cX7_isNew 27 = .ok (.iload_n 2, 1) := by decide +kernel
theorem dX7_isNew_28 : decode cX7_isNew 28 = .ok (.invokestatic 103, 3) := by decide +kernel
theorem dX7_isNew_31 : decode cX7_isNew 31 = .ok (.iconst (-1), 1) := by decide +kernel
theorem dX7_isNew_32 : decode cX7_isNew 32 = .ok (.invokevirtual 153, 3) := by decide +kernel
theorem dX7_isNew_35 : decode cX7_isNew 35 = .ok (.ifCond .eq 7, 3) := by decide +kernel
theorem dX7_isNew_38 : decode cX7_isNew 38 = .ok (.iconst 1, 1) := by decide +kernel
theorem dX7_isNew_39 : decode cX7_isNew 39 = .ok (.goto 4, 3) := by decide +kernel
theorem dX7_isNew_42 : decode cX7_isNew 42 = .ok (.iconst 0, 1) := by decide +kernel
theorem dX7_isNew_43 : decode cX7_isNew 43 = .ok (.ireturn, 1) := by decide +kernel
set_option maxRecDepth 20000 in
theorem ggX7_uses_X7_goesFor : GoodIn wsX7_uses wsX7_goesFor := goodIn_r _ [6, 7, 8, 9, 5, 10, 11, 12, 13, 14, 15, 16, 17, 18, 19, 20, 21, 22, 94, 95, 96, 97, 98, 99, 100, 101, 102, 103, 104, 105, 106, 107, 108, 109, 110, 111, 112, 113, 114, 115, 116, 117, 118, 119] (by decide +kernel) (by decide +kernel)
set_option maxRecDepth 20000 in
theorem gX7_uses_X7_goesFor : GoodIn wsX7_uses (wsV RX7 199 RX7 yX7_goesFor wsX7_goesFor) := goodIn_app (goodIn_of _ (by decide +kernel)) ggX7_uses_X7_goesFor
set_option maxRecDepth 20000 in
theorem ggX7_uses_X7_asks : GoodIn wsX7_uses wsX7_asks := goodIn_r _ [26, 27, 28, 1, 29, 30, 31, 32, 33, 34, 35, 36, 37, 5, 38, 39, 40, 41, 42, 43, 44, 45, 46, 47, 48, 49, 50, 51, 52, 53, 54, 55, 56, 57, 58, 59, 60, 61, 62, 63, 64, 65, 66, 67, 68, 69, 70, 71, 72, 73, 74, 75, 76, 77, 78, 79, 80, 81, 82, 83, 84, 85, 86, 87, 88, 89, 90, 91, 92, 93, 94, 95, 96, 97, 98, 99, 100, 101, 102, 103, 104, 105, 106, 107, 108, 109, 110, 111, 112, 113, 114, 115, 116, 117, 118, 119] (by decide +kernel) (by decide +kernel)
set_option maxRecDepth 20000 in
theorem gX7_uses_X7_asks : GoodIn wsX7_uses (wsV RX7 202 RX7 yX7_asks wsX7_asks) := goodIn_app (goodIn_of _ (by decide +kernel)) ggX7_uses_X7_asks
theorem dX7_uses_0 : decode cX7_uses 0 = .ok (.aload_n 0, 1) := by decide +kernel
theorem dX7_uses_1 : decode cX7_uses 1 = .ok (.iload_n 1, 1) := by decide +kernel
theorem dX7_uses_2 : decode cX7_uses 2 = .ok (.iload_n 2, 1) := by decide +kernel
theorem dX7_uses_3 : decode cX7_uses 3 = .ok (.invokevirtual 199, 3) := by decide +kernel
theorem dX7_uses_6 : decode cX7_uses 6 = .ok (.ifCond .ne 5, 3) := by decide +kernel
theorem dX7_uses_9 : decode cX7_uses 9 = .ok (.iconst 0, 1) := by decide +kernel
theorem dX7_uses_10 : decode cX7_uses 10 = .ok (.ireturn, 1) := by decide +kernel
theorem dX7_uses_11 : decode cX7_uses 11 = .ok (.aload_n 0, 1) := by decide +kernel
theorem dX7_uses_12 : decode cX7_uses 12 = .ok (.iload_n 1, 1) := by decide +kernel
theorem dX7_uses_13 : decode cX7_uses 13 = .ok (.iload_n 2, 1) := by decide +kernel
theorem dX7_uses_14 : decode cX7_uses 14 = .ok (.iconst (-1), 1) := by decide +kernel
theorem dX7_uses_15 : decode cX7_uses 15 = .ok (.invokevirtual 202, 3) := by decide +kernel
theorem dX7_uses_18 : decode cX7_uses 18 = .ok (.lstore_n 3, 1) := by decide +kernel
theorem dX7_uses_19 : decode cX7_uses 19 = .ok (.aload_n 0, 1) := by decide +kernel
theorem dX7_uses_20 : decode cX7_uses 20 = .ok (.getfield 168, 3) := by decide +kernel
theorem dX7_uses_23 : decode cX7_uses 23 = .ok (.ireturn, 1) := by decide +kernel
set_option maxRecDepth 20000 in
theorem ggX7_found_X7_isClient : GoodIn wsX7_found wsX7_isClient := goodIn_r _ [6, 7, 8, 9, 5, 10, 87, 88, 89, 90, 91, 92, 93, 94, 95, 96, 97, 98, 99, 100, 101, 102, 103, 104, 105, 106, 107, 108, 109, 110, 111, 112] (by decide +kernel) (by decide +kernel)
set_option maxRecDepth 20000 in
theorem gX7_found_X7_isClient : GoodIn wsX7_found (wsV RX7 81 RX7 yX7_isClient wsX7_isClient) := goodIn_app (goodIn_of _ (by decide +kernel)) ggX7_found_X7_isClient
set_option maxRecDepth 20000 in
theorem ggX7_found_X7_goes : GoodIn wsX7_found wsX7_goes := goodIn_r _ [14, 15, 87, 88, 89, 90, 91, 92, 93, 94, 95, 96, 97, 98, 99, 100, 101, 102, 103, 104, 105, 106, 107, 108, 109, 110, 111, 112] (by decide +kernel) (by decide +kernel)
set_option maxRecDepth 20000 in
theorem gX7_found_X7_goes : GoodIn wsX7_found (wsV RX7 78 RX7 yX7_goes wsX7_goes) := goodIn_app (goodIn_of _ (by decide +kernel)) ggX7_found_X7_goes
set_option maxRecDepth 20000 in
theorem ggX7_found_X7_asks : GoodIn wsX7_found wsX7_asks := goodIn_r _ [19, 20, 21, 22, 1, 23, 24, 25, 26, 27, 28, 29, 30, 5, 31, 32, 33, 34, 35, 36, 37, 38, 39, 40, 41, 42, 43, 44, 45, 46, 47, 48, 49, 50, 51, 52, 53, 54, 55, 56, 57, 58, 59, 60, 61, 62, 63, 64, 65, 66, 67, 68, 69, 70, 71, 72, 73, 74, 75, 76, 77, 78, 79, 80, 81, 82, 83, 84, 85, 86, 87, 88, 89, 90, 91, 92, 93, 94, 95, 96, 97, 98, 99, 100, 101, 102, 103, 104, 105, 106, 107, 108, 109, 110, 111, 112] (by decide +kernel) (by decide +kernel)
set_option maxRecDepth 20000 in
theorem gX7_found_X7_asks : GoodIn wsX7_found (wsV RX7 202 RX7 yX7_asks wsX7_asks) := goodIn_app (goodIn_of _ (by decide +kernel)) ggX7_found_X7_asks
theorem dX7_found_0 : decode cX7_found 0 = .ok (.iconst 0, 1) := by decide +kernel
theorem dX7_found_1 : decode cX7_found 1 = .ok (.istore_n 2, 1) := by decide +kernel
theorem dX7_found_2 : decode cX7_found 2 = .ok (.aload_n 0, 1) := by decide +kernel
theorem dX7_found_3 : decode cX7_found 3 = .ok (.aload_n 0, 1) := by decide +kernel
theorem dX7_found_4 : decode cX7_found 4 = .ok (.iload_n 1, 1) := by decide +kernel
theorem dX7_found_5 : decode cX7_found 5 = .ok (.invokevirtual 81, 3) := by decide +kernel
theorem dX7_found_8 : decode cX7_found 8 = .ok (.ifCond .eq 7, 3) := by decide +kernel
theorem dX7_found_11 : decode cX7_found 11 = .ok (.iconst 0, 1) := by decide +kernel
theorem dX7_found_12 : decode cX7_found 12 = .ok (.goto 4, 3) := by decide +kernel
theorem dX7_found_15 : decode cX7_found 15 = .ok (.iconst 1, 1) := by decide +kernel
theorem dX7_found_16 : decode cX7_found 16 = .ok (.invokevirtual 78, 3) := by decide +kernel
theorem dX7_found_19 : decode cX7_found 19 = .ok (.istore_n 3, 1) := by decide +kernel
theorem dX7_found_20 : decode cX7_found 20 = .ok (.iconst 0, 1) := by decide +kernel
theorem dX7_found_21 : decode cX7_found 21 = .ok (.istore 4, 2) := by decide +kernel
theorem dX7_found_23 : decode cX7_found 23 = .ok (.iload 4, 2) := by decide +kernel
theorem dX7_found_25 : decode cX7_found 25 = .ok (.bipush 16, 2) := by decide +kernel
theorem dX7_found_27 : decode cX7_found 27 = .ok (.if_icmp .ge 41, 3) := by decide +kernel
theorem dX7_found_30 : decode cX7_found 30 = .ok (.iload_n 3, 1) := by decide +kernel
theorem dX7_found_31 : decode cX7_found 31 = .ok (.ifCond .eq 37, 3) := by decide +kernel
theorem dX7_found_34 : decode cX7_found 34 = .ok (.aload_n 0, 1) := by decide +kernel
theorem dX7_found_35 : decode cX7_found 35 = .ok (.iload_n 1, 1) := by decide +kernel
theorem dX7_found_36 : decode cX7_found 36 = .ok (.iload 4, 2) := by decide +kernel
theorem dX7_found_38 : decode cX7_found 38 = .ok (.iconst (-1), 1) := by decide +kernel
theorem dX7_found_39 : decode cX7_found 39 = .ok (.invokevirtual 202, 3) := by decide +kernel
theorem dX7_found_42 : decode cX7_found 42 = .ok (.lstore 5, 2) := by decide +kernel
theorem dX7_found_44 : decode cX7_found 44 = .ok (.iload_n 2, 1) := by decide +kernel
theorem dX7_found_45 : decode cX7_found 45 = .ok (.aload_n 0, 1) := by decide +kernel
theorem dX7_found_46 : decode cX7_found 46 = .ok (.getfield 159, 3) := by decide +kernel
theorem dX7_found_49 : decode cX7_found 49 = .ok (.ifCond .ne 10, 3) := by decide +kernel
theorem dX7_found_52 : decode cX7_found 52 = .ok (.iconst 1, 1) := by decide +kernel
theorem dX7_found_53 : decode cX7_found 53 = .ok (.iload 4, 2) := by decide +kernel
theorem dX7_found_55 : decode cX7_found 55 = .ok (.ishl, 1) := by decide +kernel
theorem dX7_found_56 : decode cX7_found 56 = .ok (.goto 4, 3) := by decide +kernel
theorem dX7_found_59 : decode cX7_found 59 = .ok (.iconst 0, 1) := by decide +kernel
theorem dX7_found_60 : decode cX7_found 60 = .ok (.ior, 1) := by decide +kernel
theorem dX7_found_61 : decode cX7_found 61 = .ok (.istore_n 2, 1) := by decide +kernel
theorem dX7_found_62 : decode cX7_found 62 = .ok (.iinc 4 1, 3) := by decide +kernel
theorem dX7_found_65 : decode cX7_found 65 = .ok (.goto (-42), 3) := by decide +kernel
theorem dX7_found_68 : decode cX7_found 68 = .ok (.iload_n 2, 1) := by decide +kernel
theorem dX7_found_69 : decode cX7_found 69 = .ok (.ireturn, 1) := by decide +kernel
set_option maxRecDepth 20000 in
theorem ggX7_differ_X7_isClient : GoodIn wsX7_differ wsX7_isClient := goodIn_r _ [6, 7, 8, 9, 5, 10, 87, 88, 89, 90, 91, 92, 93, 94, 95, 96, 97, 98, 99, 100, 101, 102, 103, 104, 105, 106, 107, 108, 109, 110, 111, 112] (by decide +kernel) (by decide +kernel)
set_option maxRecDepth 20000 in
theorem gX7_differ_X7_isClient : GoodIn wsX7_differ (wsV RX7 81 RX7 yX7_isClient wsX7_isClient) := goodIn_app (goodIn_of _ (by decide +kernel)) ggX7_differ_X7_isClient
set_option maxRecDepth 20000 in
theorem ggX7_differ_X7_goes : GoodIn wsX7_differ wsX7_goes := goodIn_r _ [14, 15, 87, 88, 89, 90, 91, 92, 93, 94, 95, 96, 97, 98, 99, 100, 101, 102, 103, 104, 105, 106, 107, 108, 109, 110, 111, 112] (by decide +kernel) (by decide +kernel)
set_option maxRecDepth 20000 in
theorem gX7_differ_X7_goes : GoodIn wsX7_differ (wsV RX7 78 RX7 yX7_goes wsX7_goes) := goodIn_app (goodIn_of _ (by decide +kernel)) ggX7_differ_X7_goes
set_option maxRecDepth 20000 in
theorem ggX7_differ_X7_asks : GoodIn wsX7_differ wsX7_asks := goodIn_r _ [19, 20, 21, 22, 1, 23, 24, 25, 26, 27, 28, 29, 30, 5, 31, 32, 33, 34, 35, 36, 37, 38, 39, 40, 41, 42, 43, 44, 45, 46, 47, 48, 49, 50, 51, 52, 53, 54, 55, 56, 57, 58, 59, 60, 61, 62, 63, 64, 65, 66, 67, 68, 69, 70, 71, 72, 73, 74, 75, 76, 77, 78, 79, 80, 81, 82, 83, 84, 85, 86, 87, 88, 89, 90, 91, 92, 93, 94, 95, 96, 97, 98, 99, 100, 101, 102, 103, 104, 105, 106, 107, 108, 109, 110, 111, 112] (by decide +kernel) (by decide +kernel)
set_option maxRecDepth 20000 in
theorem gX7_differ_X7_asks : GoodIn wsX7_differ (wsV RX7 202 RX7 yX7_asks wsX7_asks) := goodIn_app (goodIn_of _ (by decide +kernel)) ggX7_differ_X7_asks
theorem dX7_differ_0 : decode cX7_differ 0 = .ok (.iconst 0, 1) := by decide +kernel
theorem dX7_differ_1 : decode cX7_differ 1 = .ok (.istore_n 3, 1) := by decide +kernel
theorem dX7_differ_2 : decode cX7_differ 2 = .ok (.aload_n 0, 1) := by decide +kernel
theorem dX7_differ_3 : decode cX7_differ 3 = .ok (.aload_n 0, 1) := by decide +kernel
theorem dX7_differ_4 : decode cX7_differ 4 = .ok (.iload_n 1, 1) := by decide +kernel
theorem dX7_differ_5 : decode cX7_differ 5 = .ok (.invokevirtual 81, 3) := by decide +kernel
theorem dX7_differ_8 : decode cX7_differ 8 = .ok (.ifCond .eq 15, 3) := by decide +kernel
theorem dX7_differ_11 : decode cX7_differ 11 = .ok (.aload_n 0, 1) := by decide +kernel
theorem dX7_differ_12 : decode cX7_differ 12 = .ok (.iload_n 2, 1) := by decide +kernel
theorem dX7_differ_13 : decode cX7_differ 13 = .ok (.invokevirtual 81, 3) := by decide +kernel
theorem dX7_differ_16 : decode cX7_differ 16 = .ok (.ifCond .eq 7, 3) := by decide +kernel
theorem dX7_differ_19 : decode cX7_differ 19 = .ok (.iconst 0, 1) := by decide +kernel
theorem dX7_differ_20 : decode cX7_differ 20 = .ok (.goto 4, 3) := by decide +kernel
theorem dX7_differ_23 : decode cX7_differ 23 = .ok (.iconst 1, 1) := by decide +kernel
theorem dX7_differ_24 : decode cX7_differ 24 = .ok (.invokevirtual 78, 3) := by decide +kernel
theorem dX7_differ_27 : decode cX7_differ 27 = .ok (.istore 4, 2) := by decide +kernel
theorem dX7_differ_29 : decode cX7_differ 29 = .ok (.iconst 0, 1) := by decide +kernel
theorem dX7_differ_30 : decode cX7_differ 30 = .ok (.istore 5, 2) := by decide +kernel
theorem dX7_differ_32 : decode cX7_differ 32 = .ok (.iload 5, 2) := by decide +kernel
theorem dX7_differ_34 : decode cX7_differ 34 = .ok (.bipush 16, 2) := by decide +kernel
theorem dX7_differ_36 : decode cX7_differ 36 = .ok (.if_icmp .ge 101, 3) := by decide +kernel
theorem dX7_differ_39 : decode cX7_differ 39 = .ok (.iload 4, 2) := by decide +kernel
theorem dX7_differ_41 : decode cX7_differ 41 = .ok (.ifCond .eq 96, 3) := by decide +kernel
theorem dX7_differ_44 : decode cX7_differ 44 = .ok (.aload_n 0, 1) := by decide +kernel
theorem dX7_differ_45 : decode cX7_differ 45 = .ok (.iload_n 1, 1) := by decide +kernel
theorem dX7_differ_46 : decode cX7_differ 46 = .ok (.iload 5, 2) := by decide +kernel
theorem dX7_differ_48 : decode cX7_differ 48 = .ok (.iconst (-1), 1) := by decide +kernel
theorem dX7_differ_49 : decode cX7_differ 49 = .ok (.invokevirtual 202, 3) := by decide +kernel
theorem dX7_differ_52 : decode cX7_differ 52 = .ok (.lstore 6, 2) := by decide +kernel
